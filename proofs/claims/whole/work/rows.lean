section
-- ===== PART A: goes FIRST, ahead of the names: the tables' words, and 'selects' of the private methods out of them =====
/-- a private method of a class that the tables say can be made, by its rows of tables_1 -/
def lw_okq (q : MethodName × Nat) : Prop := (q.1.cls ≠ "java/lang/invoke/MethodHandle" ∧ q.1.cls ≠ "java/lang/invoke/VarHandle") ∧ Cond.instantiable q.1.cls q.2 ∈ tables_1 ∧ Cond.privateMethod q.1 ∈ tables_1 ∧ Cond.instanceMethod q.1 ∈ tables_1
theorem lw_p0 : lw_okq (⟨"SnakedBus", "draft", "()LSnakedBus$Bus;"⟩, 11) := ⟨⟨by decide +kernel, by decide +kernel⟩, List.mem_of_getElem? (i := 13) (by decide +kernel), List.mem_of_getElem? (i := 196) (by decide +kernel), List.mem_of_getElem? (i := 197) (by decide +kernel)⟩
theorem lw_p1 : lw_okq (⟨"SnakedBus", "settled", "(I)I"⟩, 11) := ⟨⟨by decide +kernel, by decide +kernel⟩, List.mem_of_getElem? (i := 13) (by decide +kernel), List.mem_of_getElem? (i := 217) (by decide +kernel), List.mem_of_getElem? (i := 218) (by decide +kernel)⟩
theorem lw_p2 : lw_okq (⟨"SnakedBus", "refused", "(I)I"⟩, 11) := ⟨⟨by decide +kernel, by decide +kernel⟩, List.mem_of_getElem? (i := 13) (by decide +kernel), List.mem_of_getElem? (i := 221) (by decide +kernel), List.mem_of_getElem? (i := 222) (by decide +kernel)⟩
theorem lw_p3 : lw_okq (⟨"SnakedBus", "accept", "()V"⟩, 11) := ⟨⟨by decide +kernel, by decide +kernel⟩, List.mem_of_getElem? (i := 13) (by decide +kernel), List.mem_of_getElem? (i := 225) (by decide +kernel), List.mem_of_getElem? (i := 226) (by decide +kernel)⟩
theorem lw_p4 : lw_okq (⟨"SnakedBus$Past", "slotAt", "(I)LSnakedBus$Bus;"⟩, 3) := ⟨⟨by decide +kernel, by decide +kernel⟩, List.mem_of_getElem? (i := 64) (by decide +kernel), List.mem_of_getElem? (i := 233) (by decide +kernel), List.mem_of_getElem? (i := 234) (by decide +kernel)⟩
theorem lw_p5 : lw_okq (⟨"SnakedBus", "plan", "()LSnakedBus$Sharing;"⟩, 11) := ⟨⟨by decide +kernel, by decide +kernel⟩, List.mem_of_getElem? (i := 13) (by decide +kernel), List.mem_of_getElem? (i := 387) (by decide +kernel), List.mem_of_getElem? (i := 388) (by decide +kernel)⟩
theorem lw_p6 : lw_okq (⟨"SnakedBus$Sharing", "joinSets", "()V"⟩, 8) := ⟨⟨by decide +kernel, by decide +kernel⟩, List.mem_of_getElem? (i := 114) (by decide +kernel), List.mem_of_getElem? (i := 408) (by decide +kernel), List.mem_of_getElem? (i := 409) (by decide +kernel)⟩
theorem lw_p7 : lw_okq (⟨"SnakedBus$Sharing", "crowd", "()I"⟩, 8) := ⟨⟨by decide +kernel, by decide +kernel⟩, List.mem_of_getElem? (i := 114) (by decide +kernel), List.mem_of_getElem? (i := 417) (by decide +kernel), List.mem_of_getElem? (i := 418) (by decide +kernel)⟩
theorem lw_p8 : lw_okq (⟨"SnakedBus$Sharing", "spare", "(I)I"⟩, 8) := ⟨⟨by decide +kernel, by decide +kernel⟩, List.mem_of_getElem? (i := 114) (by decide +kernel), List.mem_of_getElem? (i := 427) (by decide +kernel), List.mem_of_getElem? (i := 428) (by decide +kernel)⟩
theorem lw_p9 : lw_okq (⟨"SnakedBus$Sharing", "mostFor", "(II)I"⟩, 8) := ⟨⟨by decide +kernel, by decide +kernel⟩, List.mem_of_getElem? (i := 114) (by decide +kernel), List.mem_of_getElem? (i := 441) (by decide +kernel), List.mem_of_getElem? (i := 442) (by decide +kernel)⟩
theorem lw_p10 : lw_okq (⟨"SnakedBus", "fitsBy", "(I)Z"⟩, 11) := ⟨⟨by decide +kernel, by decide +kernel⟩, List.mem_of_getElem? (i := 13) (by decide +kernel), List.mem_of_getElem? (i := 501) (by decide +kernel), List.mem_of_getElem? (i := 502) (by decide +kernel)⟩
theorem lw_p11 : lw_okq (⟨"SnakedBus$Phasing", "passRun", "(III)V"⟩, 2) := ⟨⟨by decide +kernel, by decide +kernel⟩, List.mem_of_getElem? (i := 145) (by decide +kernel), List.mem_of_getElem? (i := 546) (by decide +kernel), List.mem_of_getElem? (i := 547) (by decide +kernel)⟩
theorem lw_p12 : lw_okq (⟨"SnakedBus$Phasing", "putBumps", "(IIII)V"⟩, 2) := ⟨⟨by decide +kernel, by decide +kernel⟩, List.mem_of_getElem? (i := 145) (by decide +kernel), List.mem_of_getElem? (i := 551) (by decide +kernel), List.mem_of_getElem? (i := 552) (by decide +kernel)⟩
theorem lw_p13 : lw_okq (⟨"SnakedBus$Text", "takes", "(I)Z"⟩, 8) := ⟨⟨by decide +kernel, by decide +kernel⟩, List.mem_of_getElem? (i := 83) (by decide +kernel), List.mem_of_getElem? (i := 598) (by decide +kernel), List.mem_of_getElem? (i := 599) (by decide +kernel)⟩
theorem lw_p14 : lw_okq (⟨"SnakedBus$Text", "opens", "(I)Z"⟩, 8) := ⟨⟨by decide +kernel, by decide +kernel⟩, List.mem_of_getElem? (i := 83) (by decide +kernel), List.mem_of_getElem? (i := 602) (by decide +kernel), List.mem_of_getElem? (i := 603) (by decide +kernel)⟩
theorem lw_p15 : lw_okq (⟨"SnakedBus$Text", "closes", "()Z"⟩, 8) := ⟨⟨by decide +kernel, by decide +kernel⟩, List.mem_of_getElem? (i := 83) (by decide +kernel), List.mem_of_getElem? (i := 609) (by decide +kernel), List.mem_of_getElem? (i := 610) (by decide +kernel)⟩
def lw_privs_1 : List (MethodName × Nat) := [(⟨"SnakedBus", "draft", "()LSnakedBus$Bus;"⟩, 11), (⟨"SnakedBus", "settled", "(I)I"⟩, 11), (⟨"SnakedBus", "refused", "(I)I"⟩, 11), (⟨"SnakedBus", "accept", "()V"⟩, 11), (⟨"SnakedBus$Past", "slotAt", "(I)LSnakedBus$Bus;"⟩, 3), (⟨"SnakedBus", "plan", "()LSnakedBus$Sharing;"⟩, 11), (⟨"SnakedBus$Sharing", "joinSets", "()V"⟩, 8), (⟨"SnakedBus$Sharing", "crowd", "()I"⟩, 8), (⟨"SnakedBus$Sharing", "spare", "(I)I"⟩, 8), (⟨"SnakedBus$Sharing", "mostFor", "(II)I"⟩, 8), (⟨"SnakedBus", "fitsBy", "(I)Z"⟩, 11), (⟨"SnakedBus$Phasing", "passRun", "(III)V"⟩, 2), (⟨"SnakedBus$Phasing", "putBumps", "(IIII)V"⟩, 2), (⟨"SnakedBus$Text", "takes", "(I)Z"⟩, 8), (⟨"SnakedBus$Text", "opens", "(I)Z"⟩, 8), (⟨"SnakedBus$Text", "closes", "()Z"⟩, 8)]
theorem lw_r1 : ∀ q ∈ lw_privs_1, lw_okq q := List.forall_mem_cons.mpr ⟨lw_p0, List.forall_mem_cons.mpr ⟨lw_p1, List.forall_mem_cons.mpr ⟨lw_p2, List.forall_mem_cons.mpr ⟨lw_p3, List.forall_mem_cons.mpr ⟨lw_p4, List.forall_mem_cons.mpr ⟨lw_p5, List.forall_mem_cons.mpr ⟨lw_p6, List.forall_mem_cons.mpr ⟨lw_p7, List.forall_mem_cons.mpr ⟨lw_p8, List.forall_mem_cons.mpr ⟨lw_p9, List.forall_mem_cons.mpr ⟨lw_p10, List.forall_mem_cons.mpr ⟨lw_p11, List.forall_mem_cons.mpr ⟨lw_p12, List.forall_mem_cons.mpr ⟨lw_p13, List.forall_mem_cons.mpr ⟨lw_p14, List.forall_mem_cons.mpr ⟨lw_p15, fun _ h => absurd h List.not_mem_nil⟩⟩⟩⟩⟩⟩⟩⟩⟩⟩⟩⟩⟩⟩⟩⟩
theorem lw_p16 : lw_okq (⟨"SnakedBus$Text", "takesFigure", "(I)Z"⟩, 8) := ⟨⟨by decide +kernel, by decide +kernel⟩, List.mem_of_getElem? (i := 83) (by decide +kernel), List.mem_of_getElem? (i := 614) (by decide +kernel), List.mem_of_getElem? (i := 615) (by decide +kernel)⟩
theorem lw_p17 : lw_okq (⟨"SnakedBus$Text", "applyOne", "(LSnakedBus$Bus;I)I"⟩, 8) := ⟨⟨by decide +kernel, by decide +kernel⟩, List.mem_of_getElem? (i := 83) (by decide +kernel), List.mem_of_getElem? (i := 623) (by decide +kernel), List.mem_of_getElem? (i := 624) (by decide +kernel)⟩
theorem lw_p18 : lw_okq (⟨"SnakedBus", "mixedLine", "(JI)J"⟩, 11) := ⟨⟨by decide +kernel, by decide +kernel⟩, List.mem_of_getElem? (i := 13) (by decide +kernel), List.mem_of_getElem? (i := 663) (by decide +kernel), List.mem_of_getElem? (i := 664) (by decide +kernel)⟩
theorem lw_p19 : lw_okq (⟨"SnakedBus", "mixedHumps", "(J)J"⟩, 11) := ⟨⟨by decide +kernel, by decide +kernel⟩, List.mem_of_getElem? (i := 13) (by decide +kernel), List.mem_of_getElem? (i := 674) (by decide +kernel), List.mem_of_getElem? (i := 675) (by decide +kernel)⟩
theorem lw_p20 : lw_okq (⟨"SnakedBusModel", "no", "()I"⟩, 15) := ⟨⟨by decide +kernel, by decide +kernel⟩, List.mem_of_getElem? (i := 678) (by decide +kernel), List.mem_of_getElem? (i := 734) (by decide +kernel), List.mem_of_getElem? (i := 735) (by decide +kernel)⟩
theorem lw_p21 : lw_okq (⟨"SnakedBusModel", "takes", "(I)V"⟩, 15) := ⟨⟨by decide +kernel, by decide +kernel⟩, List.mem_of_getElem? (i := 678) (by decide +kernel), List.mem_of_getElem? (i := 738) (by decide +kernel), List.mem_of_getElem? (i := 739) (by decide +kernel)⟩
theorem lw_p22 : lw_okq (⟨"SnakedBusModel", "puts", "(I)V"⟩, 15) := ⟨⟨by decide +kernel, by decide +kernel⟩, List.mem_of_getElem? (i := 678) (by decide +kernel), List.mem_of_getElem? (i := 746) (by decide +kernel), List.mem_of_getElem? (i := 747) (by decide +kernel)⟩
theorem lw_p23 : lw_okq (⟨"SnakedBusModel", "addLine", "(I)I"⟩, 15) := ⟨⟨by decide +kernel, by decide +kernel⟩, List.mem_of_getElem? (i := 678) (by decide +kernel), List.mem_of_getElem? (i := 750) (by decide +kernel), List.mem_of_getElem? (i := 751) (by decide +kernel)⟩
theorem lw_p24 : lw_okq (⟨"SnakedBusModel", "done", "(I)I"⟩, 15) := ⟨⟨by decide +kernel, by decide +kernel⟩, List.mem_of_getElem? (i := 678) (by decide +kernel), List.mem_of_getElem? (i := 757) (by decide +kernel), List.mem_of_getElem? (i := 758) (by decide +kernel)⟩
theorem lw_p25 : lw_okq (⟨"SnakedBusModel", "counted", "(I)I"⟩, 15) := ⟨⟨by decide +kernel, by decide +kernel⟩, List.mem_of_getElem? (i := 678) (by decide +kernel), List.mem_of_getElem? (i := 761) (by decide +kernel), List.mem_of_getElem? (i := 762) (by decide +kernel)⟩
theorem lw_p26 : lw_okq (⟨"SnakedBusModel", "bad", "()I"⟩, 15) := ⟨⟨by decide +kernel, by decide +kernel⟩, List.mem_of_getElem? (i := 678) (by decide +kernel), List.mem_of_getElem? (i := 765) (by decide +kernel), List.mem_of_getElem? (i := 766) (by decide +kernel)⟩
theorem lw_p27 : lw_okq (⟨"SnakedBusModel", "full", "()I"⟩, 15) := ⟨⟨by decide +kernel, by decide +kernel⟩, List.mem_of_getElem? (i := 678) (by decide +kernel), List.mem_of_getElem? (i := 769) (by decide +kernel), List.mem_of_getElem? (i := 770) (by decide +kernel)⟩
theorem lw_p28 : lw_okq (⟨"SnakedBusModel", "leavesState", "()V"⟩, 15) := ⟨⟨by decide +kernel, by decide +kernel⟩, List.mem_of_getElem? (i := 678) (by decide +kernel), List.mem_of_getElem? (i := 773) (by decide +kernel), List.mem_of_getElem? (i := 774) (by decide +kernel)⟩
theorem lw_p29 : lw_okq (⟨"SnakedBusModel", "addRun", "(III)I"⟩, 15) := ⟨⟨by decide +kernel, by decide +kernel⟩, List.mem_of_getElem? (i := 678) (by decide +kernel), List.mem_of_getElem? (i := 781) (by decide +kernel), List.mem_of_getElem? (i := 782) (by decide +kernel)⟩
theorem lw_p30 : lw_okq (⟨"SnakedBusModel", "isLine", "(I)Z"⟩, 15) := ⟨⟨by decide +kernel, by decide +kernel⟩, List.mem_of_getElem? (i := 678) (by decide +kernel), List.mem_of_getElem? (i := 785) (by decide +kernel), List.mem_of_getElem? (i := 786) (by decide +kernel)⟩
theorem lw_p31 : lw_okq (⟨"SnakedBusModel", "runsOf", "(I)I"⟩, 15) := ⟨⟨by decide +kernel, by decide +kernel⟩, List.mem_of_getElem? (i := 678) (by decide +kernel), List.mem_of_getElem? (i := 789) (by decide +kernel), List.mem_of_getElem? (i := 790) (by decide +kernel)⟩
def lw_privs_2 : List (MethodName × Nat) := [(⟨"SnakedBus$Text", "takesFigure", "(I)Z"⟩, 8), (⟨"SnakedBus$Text", "applyOne", "(LSnakedBus$Bus;I)I"⟩, 8), (⟨"SnakedBus", "mixedLine", "(JI)J"⟩, 11), (⟨"SnakedBus", "mixedHumps", "(J)J"⟩, 11), (⟨"SnakedBusModel", "no", "()I"⟩, 15), (⟨"SnakedBusModel", "takes", "(I)V"⟩, 15), (⟨"SnakedBusModel", "puts", "(I)V"⟩, 15), (⟨"SnakedBusModel", "addLine", "(I)I"⟩, 15), (⟨"SnakedBusModel", "done", "(I)I"⟩, 15), (⟨"SnakedBusModel", "counted", "(I)I"⟩, 15), (⟨"SnakedBusModel", "bad", "()I"⟩, 15), (⟨"SnakedBusModel", "full", "()I"⟩, 15), (⟨"SnakedBusModel", "leavesState", "()V"⟩, 15), (⟨"SnakedBusModel", "addRun", "(III)I"⟩, 15), (⟨"SnakedBusModel", "isLine", "(I)Z"⟩, 15), (⟨"SnakedBusModel", "runsOf", "(I)I"⟩, 15)]
theorem lw_r2 : ∀ q ∈ lw_privs_2, lw_okq q := List.forall_mem_cons.mpr ⟨lw_p16, List.forall_mem_cons.mpr ⟨lw_p17, List.forall_mem_cons.mpr ⟨lw_p18, List.forall_mem_cons.mpr ⟨lw_p19, List.forall_mem_cons.mpr ⟨lw_p20, List.forall_mem_cons.mpr ⟨lw_p21, List.forall_mem_cons.mpr ⟨lw_p22, List.forall_mem_cons.mpr ⟨lw_p23, List.forall_mem_cons.mpr ⟨lw_p24, List.forall_mem_cons.mpr ⟨lw_p25, List.forall_mem_cons.mpr ⟨lw_p26, List.forall_mem_cons.mpr ⟨lw_p27, List.forall_mem_cons.mpr ⟨lw_p28, List.forall_mem_cons.mpr ⟨lw_p29, List.forall_mem_cons.mpr ⟨lw_p30, List.forall_mem_cons.mpr ⟨lw_p31, fun _ h => absurd h List.not_mem_nil⟩⟩⟩⟩⟩⟩⟩⟩⟩⟩⟩⟩⟩⟩⟩⟩
theorem lw_p32 : lw_okq (⟨"SnakedBusModel", "dropRun", "(I)I"⟩, 15) := ⟨⟨by decide +kernel, by decide +kernel⟩, List.mem_of_getElem? (i := 678) (by decide +kernel), List.mem_of_getElem? (i := 797) (by decide +kernel), List.mem_of_getElem? (i := 798) (by decide +kernel)⟩
theorem lw_p33 : lw_okq (⟨"SnakedBusModel", "addPocket", "(II)I"⟩, 15) := ⟨⟨by decide +kernel, by decide +kernel⟩, List.mem_of_getElem? (i := 678) (by decide +kernel), List.mem_of_getElem? (i := 805) (by decide +kernel), List.mem_of_getElem? (i := 806) (by decide +kernel)⟩
theorem lw_p34 : lw_okq (⟨"SnakedBusModel", "setWide", "(II)I"⟩, 15) := ⟨⟨by decide +kernel, by decide +kernel⟩, List.mem_of_getElem? (i := 678) (by decide +kernel), List.mem_of_getElem? (i := 813) (by decide +kernel), List.mem_of_getElem? (i := 814) (by decide +kernel)⟩
theorem lw_p35 : lw_okq (⟨"SnakedBusModel", "isPocket", "(I)Z"⟩, 15) := ⟨⟨by decide +kernel, by decide +kernel⟩, List.mem_of_getElem? (i := 678) (by decide +kernel), List.mem_of_getElem? (i := 817) (by decide +kernel), List.mem_of_getElem? (i := 818) (by decide +kernel)⟩
theorem lw_p36 : lw_okq (⟨"SnakedBusModel", "becomes", "(II)I"⟩, 15) := ⟨⟨by decide +kernel, by decide +kernel⟩, List.mem_of_getElem? (i := 678) (by decide +kernel), List.mem_of_getElem? (i := 821) (by decide +kernel), List.mem_of_getElem? (i := 822) (by decide +kernel)⟩
theorem lw_p37 : lw_okq (⟨"SnakedBusModel", "setTouch", "(II)I"⟩, 15) := ⟨⟨by decide +kernel, by decide +kernel⟩, List.mem_of_getElem? (i := 678) (by decide +kernel), List.mem_of_getElem? (i := 829) (by decide +kernel), List.mem_of_getElem? (i := 830) (by decide +kernel)⟩
theorem lw_p38 : lw_okq (⟨"SnakedBusModel", "setSetting", "(II)I"⟩, 15) := ⟨⟨by decide +kernel, by decide +kernel⟩, List.mem_of_getElem? (i := 678) (by decide +kernel), List.mem_of_getElem? (i := 837) (by decide +kernel), List.mem_of_getElem? (i := 838) (by decide +kernel)⟩
theorem lw_p39 : lw_okq (⟨"SnakedBusModel", "toldLine", "(II)I"⟩, 15) := ⟨⟨by decide +kernel, by decide +kernel⟩, List.mem_of_getElem? (i := 678) (by decide +kernel), List.mem_of_getElem? (i := 851) (by decide +kernel), List.mem_of_getElem? (i := 852) (by decide +kernel)⟩
theorem lw_p40 : lw_okq (⟨"SnakedBusModel", "base", "(I)I"⟩, 15) := ⟨⟨by decide +kernel, by decide +kernel⟩, List.mem_of_getElem? (i := 678) (by decide +kernel), List.mem_of_getElem? (i := 855) (by decide +kernel), List.mem_of_getElem? (i := 856) (by decide +kernel)⟩
theorem lw_p41 : lw_okq (⟨"SnakedBusModel", "longOf", "(II)I"⟩, 15) := ⟨⟨by decide +kernel, by decide +kernel⟩, List.mem_of_getElem? (i := 678) (by decide +kernel), List.mem_of_getElem? (i := 859) (by decide +kernel), List.mem_of_getElem? (i := 860) (by decide +kernel)⟩
theorem lw_p42 : lw_okq (⟨"SnakedBusModel", "lack", "(II)I"⟩, 15) := ⟨⟨by decide +kernel, by decide +kernel⟩, List.mem_of_getElem? (i := 678) (by decide +kernel), List.mem_of_getElem? (i := 863) (by decide +kernel), List.mem_of_getElem? (i := 864) (by decide +kernel)⟩
theorem lw_p43 : lw_okq (⟨"SnakedBusModel", "needBy", "(II)I"⟩, 15) := ⟨⟨by decide +kernel, by decide +kernel⟩, List.mem_of_getElem? (i := 678) (by decide +kernel), List.mem_of_getElem? (i := 867) (by decide +kernel), List.mem_of_getElem? (i := 868) (by decide +kernel)⟩
theorem lw_p44 : lw_okq (⟨"SnakedBusModel", "gain", "()I"⟩, 15) := ⟨⟨by decide +kernel, by decide +kernel⟩, List.mem_of_getElem? (i := 678) (by decide +kernel), List.mem_of_getElem? (i := 871) (by decide +kernel), List.mem_of_getElem? (i := 872) (by decide +kernel)⟩
theorem lw_p45 : lw_okq (⟨"SnakedBusModel", "pocketsOf", "(I)I"⟩, 15) := ⟨⟨by decide +kernel, by decide +kernel⟩, List.mem_of_getElem? (i := 678) (by decide +kernel), List.mem_of_getElem? (i := 875) (by decide +kernel), List.mem_of_getElem? (i := 876) (by decide +kernel)⟩
theorem lw_p46 : lw_okq (⟨"SnakedBusModel", "turns", "(II)I"⟩, 15) := ⟨⟨by decide +kernel, by decide +kernel⟩, List.mem_of_getElem? (i := 678) (by decide +kernel), List.mem_of_getElem? (i := 879) (by decide +kernel), List.mem_of_getElem? (i := 880) (by decide +kernel)⟩
theorem lw_p47 : lw_okq (⟨"SnakedBusModel", "turnOf", "(II)I"⟩, 15) := ⟨⟨by decide +kernel, by decide +kernel⟩, List.mem_of_getElem? (i := 678) (by decide +kernel), List.mem_of_getElem? (i := 883) (by decide +kernel), List.mem_of_getElem? (i := 884) (by decide +kernel)⟩
def lw_privs_3 : List (MethodName × Nat) := [(⟨"SnakedBusModel", "dropRun", "(I)I"⟩, 15), (⟨"SnakedBusModel", "addPocket", "(II)I"⟩, 15), (⟨"SnakedBusModel", "setWide", "(II)I"⟩, 15), (⟨"SnakedBusModel", "isPocket", "(I)Z"⟩, 15), (⟨"SnakedBusModel", "becomes", "(II)I"⟩, 15), (⟨"SnakedBusModel", "setTouch", "(II)I"⟩, 15), (⟨"SnakedBusModel", "setSetting", "(II)I"⟩, 15), (⟨"SnakedBusModel", "toldLine", "(II)I"⟩, 15), (⟨"SnakedBusModel", "base", "(I)I"⟩, 15), (⟨"SnakedBusModel", "longOf", "(II)I"⟩, 15), (⟨"SnakedBusModel", "lack", "(II)I"⟩, 15), (⟨"SnakedBusModel", "needBy", "(II)I"⟩, 15), (⟨"SnakedBusModel", "gain", "()I"⟩, 15), (⟨"SnakedBusModel", "pocketsOf", "(I)I"⟩, 15), (⟨"SnakedBusModel", "turns", "(II)I"⟩, 15), (⟨"SnakedBusModel", "turnOf", "(II)I"⟩, 15)]
theorem lw_r3 : ∀ q ∈ lw_privs_3, lw_okq q := List.forall_mem_cons.mpr ⟨lw_p32, List.forall_mem_cons.mpr ⟨lw_p33, List.forall_mem_cons.mpr ⟨lw_p34, List.forall_mem_cons.mpr ⟨lw_p35, List.forall_mem_cons.mpr ⟨lw_p36, List.forall_mem_cons.mpr ⟨lw_p37, List.forall_mem_cons.mpr ⟨lw_p38, List.forall_mem_cons.mpr ⟨lw_p39, List.forall_mem_cons.mpr ⟨lw_p40, List.forall_mem_cons.mpr ⟨lw_p41, List.forall_mem_cons.mpr ⟨lw_p42, List.forall_mem_cons.mpr ⟨lw_p43, List.forall_mem_cons.mpr ⟨lw_p44, List.forall_mem_cons.mpr ⟨lw_p45, List.forall_mem_cons.mpr ⟨lw_p46, List.forall_mem_cons.mpr ⟨lw_p47, fun _ h => absurd h List.not_mem_nil⟩⟩⟩⟩⟩⟩⟩⟩⟩⟩⟩⟩⟩⟩⟩⟩
theorem lw_p48 : lw_okq (⟨"SnakedBusModel", "isRun", "(II)Z"⟩, 15) := ⟨⟨by decide +kernel, by decide +kernel⟩, List.mem_of_getElem? (i := 678) (by decide +kernel), List.mem_of_getElem? (i := 891) (by decide +kernel), List.mem_of_getElem? (i := 892) (by decide +kernel)⟩
theorem lw_p49 : lw_okq (⟨"SnakedBusModel", "toldRun", "(III)I"⟩, 15) := ⟨⟨by decide +kernel, by decide +kernel⟩, List.mem_of_getElem? (i := 678) (by decide +kernel), List.mem_of_getElem? (i := 895) (by decide +kernel), List.mem_of_getElem? (i := 896) (by decide +kernel)⟩
theorem lw_p50 : lw_okq (⟨"SnakedBusModel", "allCan", "(I)Z"⟩, 15) := ⟨⟨by decide +kernel, by decide +kernel⟩, List.mem_of_getElem? (i := 678) (by decide +kernel), List.mem_of_getElem? (i := 903) (by decide +kernel), List.mem_of_getElem? (i := 904) (by decide +kernel)⟩
theorem lw_p51 : lw_okq (⟨"SnakedBusModel", "lays", "(I)Z"⟩, 15) := ⟨⟨by decide +kernel, by decide +kernel⟩, List.mem_of_getElem? (i := 678) (by decide +kernel), List.mem_of_getElem? (i := 907) (by decide +kernel), List.mem_of_getElem? (i := 908) (by decide +kernel)⟩
theorem lw_p52 : lw_okq (⟨"SnakedBusModel", "humps", "(I)I"⟩, 15) := ⟨⟨by decide +kernel, by decide +kernel⟩, List.mem_of_getElem? (i := 678) (by decide +kernel), List.mem_of_getElem? (i := 911) (by decide +kernel), List.mem_of_getElem? (i := 912) (by decide +kernel)⟩
theorem lw_p53 : lw_okq (⟨"SnakedBusModel", "areEnough", "()Z"⟩, 15) := ⟨⟨by decide +kernel, by decide +kernel⟩, List.mem_of_getElem? (i := 678) (by decide +kernel), List.mem_of_getElem? (i := 915) (by decide +kernel), List.mem_of_getElem? (i := 916) (by decide +kernel)⟩
theorem lw_p54 : lw_okq (⟨"SnakedBusModel", "isEnough", "(I)Z"⟩, 15) := ⟨⟨by decide +kernel, by decide +kernel⟩, List.mem_of_getElem? (i := 678) (by decide +kernel), List.mem_of_getElem? (i := 919) (by decide +kernel), List.mem_of_getElem? (i := 920) (by decide +kernel)⟩
theorem lw_p55 : lw_okq (⟨"SnakedBusModel", "longest", "()I"⟩, 15) := ⟨⟨by decide +kernel, by decide +kernel⟩, List.mem_of_getElem? (i := 678) (by decide +kernel), List.mem_of_getElem? (i := 927) (by decide +kernel), List.mem_of_getElem? (i := 928) (by decide +kernel)⟩
theorem lw_p56 : lw_okq (⟨"SnakedBusModel", "allCanNow", "()Z"⟩, 15) := ⟨⟨by decide +kernel, by decide +kernel⟩, List.mem_of_getElem? (i := 678) (by decide +kernel), List.mem_of_getElem? (i := 946) (by decide +kernel), List.mem_of_getElem? (i := 947) (by decide +kernel)⟩
theorem lw_p57 : lw_okq (⟨"SnakedBusModel", "draw", "()Z"⟩, 15) := ⟨⟨by decide +kernel, by decide +kernel⟩, List.mem_of_getElem? (i := 678) (by decide +kernel), List.mem_of_getElem? (i := 954) (by decide +kernel), List.mem_of_getElem? (i := 955) (by decide +kernel)⟩
theorem lw_p58 : lw_okq (⟨"SnakedBusModel", "toldPocket", "(II)I"⟩, 15) := ⟨⟨by decide +kernel, by decide +kernel⟩, List.mem_of_getElem? (i := 678) (by decide +kernel), List.mem_of_getElem? (i := 966) (by decide +kernel), List.mem_of_getElem? (i := 967) (by decide +kernel)⟩
theorem lw_p59 : lw_okq (⟨"SnakedBusModel", "free", "(I)I"⟩, 15) := ⟨⟨by decide +kernel, by decide +kernel⟩, List.mem_of_getElem? (i := 678) (by decide +kernel), List.mem_of_getElem? (i := 970) (by decide +kernel), List.mem_of_getElem? (i := 971) (by decide +kernel)⟩
theorem lw_p60 : lw_okq (⟨"SnakedBusModel", "countOf", "(I)I"⟩, 15) := ⟨⟨by decide +kernel, by decide +kernel⟩, List.mem_of_getElem? (i := 678) (by decide +kernel), List.mem_of_getElem? (i := 982) (by decide +kernel), List.mem_of_getElem? (i := 983) (by decide +kernel)⟩
theorem lw_p61 : lw_okq (⟨"SnakedBusModel", "skewOf", "(II)I"⟩, 15) := ⟨⟨by decide +kernel, by decide +kernel⟩, List.mem_of_getElem? (i := 678) (by decide +kernel), List.mem_of_getElem? (i := 990) (by decide +kernel), List.mem_of_getElem? (i := 991) (by decide +kernel)⟩
theorem lw_p62 : lw_okq (⟨"SnakedBusModel", "fewestBumps", "(I)I"⟩, 15) := ⟨⟨by decide +kernel, by decide +kernel⟩, List.mem_of_getElem? (i := 678) (by decide +kernel), List.mem_of_getElem? (i := 998) (by decide +kernel), List.mem_of_getElem? (i := 999) (by decide +kernel)⟩
theorem lw_p63 : lw_okq (⟨"SnakedBusModel", "blanks", "()V"⟩, 15) := ⟨⟨by decide +kernel, by decide +kernel⟩, List.mem_of_getElem? (i := 678) (by decide +kernel), List.mem_of_getElem? (i := 1014) (by decide +kernel), List.mem_of_getElem? (i := 1015) (by decide +kernel)⟩
def lw_privs_4 : List (MethodName × Nat) := [(⟨"SnakedBusModel", "isRun", "(II)Z"⟩, 15), (⟨"SnakedBusModel", "toldRun", "(III)I"⟩, 15), (⟨"SnakedBusModel", "allCan", "(I)Z"⟩, 15), (⟨"SnakedBusModel", "lays", "(I)Z"⟩, 15), (⟨"SnakedBusModel", "humps", "(I)I"⟩, 15), (⟨"SnakedBusModel", "areEnough", "()Z"⟩, 15), (⟨"SnakedBusModel", "isEnough", "(I)Z"⟩, 15), (⟨"SnakedBusModel", "longest", "()I"⟩, 15), (⟨"SnakedBusModel", "allCanNow", "()Z"⟩, 15), (⟨"SnakedBusModel", "draw", "()Z"⟩, 15), (⟨"SnakedBusModel", "toldPocket", "(II)I"⟩, 15), (⟨"SnakedBusModel", "free", "(I)I"⟩, 15), (⟨"SnakedBusModel", "countOf", "(I)I"⟩, 15), (⟨"SnakedBusModel", "skewOf", "(II)I"⟩, 15), (⟨"SnakedBusModel", "fewestBumps", "(I)I"⟩, 15), (⟨"SnakedBusModel", "blanks", "()V"⟩, 15)]
theorem lw_r4 : ∀ q ∈ lw_privs_4, lw_okq q := List.forall_mem_cons.mpr ⟨lw_p48, List.forall_mem_cons.mpr ⟨lw_p49, List.forall_mem_cons.mpr ⟨lw_p50, List.forall_mem_cons.mpr ⟨lw_p51, List.forall_mem_cons.mpr ⟨lw_p52, List.forall_mem_cons.mpr ⟨lw_p53, List.forall_mem_cons.mpr ⟨lw_p54, List.forall_mem_cons.mpr ⟨lw_p55, List.forall_mem_cons.mpr ⟨lw_p56, List.forall_mem_cons.mpr ⟨lw_p57, List.forall_mem_cons.mpr ⟨lw_p58, List.forall_mem_cons.mpr ⟨lw_p59, List.forall_mem_cons.mpr ⟨lw_p60, List.forall_mem_cons.mpr ⟨lw_p61, List.forall_mem_cons.mpr ⟨lw_p62, List.forall_mem_cons.mpr ⟨lw_p63, fun _ h => absurd h List.not_mem_nil⟩⟩⟩⟩⟩⟩⟩⟩⟩⟩⟩⟩⟩⟩⟩⟩
theorem lw_p64 : lw_okq (⟨"SnakedBusModel", "byteAt", "(I)I"⟩, 15) := ⟨⟨by decide +kernel, by decide +kernel⟩, List.mem_of_getElem? (i := 678) (by decide +kernel), List.mem_of_getElem? (i := 1018) (by decide +kernel), List.mem_of_getElem? (i := 1019) (by decide +kernel)⟩
theorem lw_p65 : lw_okq (⟨"SnakedBusModel", "reads", "()Z"⟩, 15) := ⟨⟨by decide +kernel, by decide +kernel⟩, List.mem_of_getElem? (i := 678) (by decide +kernel), List.mem_of_getElem? (i := 1022) (by decide +kernel), List.mem_of_getElem? (i := 1023) (by decide +kernel)⟩
theorem lw_p66 : lw_okq (⟨"SnakedBusModel", "number", "()I"⟩, 15) := ⟨⟨by decide +kernel, by decide +kernel⟩, List.mem_of_getElem? (i := 678) (by decide +kernel), List.mem_of_getElem? (i := 1029) (by decide +kernel), List.mem_of_getElem? (i := 1030) (by decide +kernel)⟩
theorem lw_p67 : lw_okq (⟨"SnakedBusModel", "isFigure", "(I)Z"⟩, 15) := ⟨⟨by decide +kernel, by decide +kernel⟩, List.mem_of_getElem? (i := 678) (by decide +kernel), List.mem_of_getElem? (i := 1033) (by decide +kernel), List.mem_of_getElem? (i := 1034) (by decide +kernel)⟩
theorem lw_p68 : lw_okq (⟨"SnakedBusModel", "acted", "(I)I"⟩, 15) := ⟨⟨by decide +kernel, by decide +kernel⟩, List.mem_of_getElem? (i := 678) (by decide +kernel), List.mem_of_getElem? (i := 1037) (by decide +kernel), List.mem_of_getElem? (i := 1038) (by decide +kernel)⟩
theorem lw_p69 : lw_okq (⟨"SnakedBusModel", "toldOf", "(I)I"⟩, 15) := ⟨⟨by decide +kernel, by decide +kernel⟩, List.mem_of_getElem? (i := 678) (by decide +kernel), List.mem_of_getElem? (i := 1045) (by decide +kernel), List.mem_of_getElem? (i := 1046) (by decide +kernel)⟩
def lw_privs_5 : List (MethodName × Nat) := [(⟨"SnakedBusModel", "byteAt", "(I)I"⟩, 15), (⟨"SnakedBusModel", "reads", "()Z"⟩, 15), (⟨"SnakedBusModel", "number", "()I"⟩, 15), (⟨"SnakedBusModel", "isFigure", "(I)Z"⟩, 15), (⟨"SnakedBusModel", "acted", "(I)I"⟩, 15), (⟨"SnakedBusModel", "toldOf", "(I)I"⟩, 15)]
theorem lw_r5 : ∀ q ∈ lw_privs_5, lw_okq q := List.forall_mem_cons.mpr ⟨lw_p64, List.forall_mem_cons.mpr ⟨lw_p65, List.forall_mem_cons.mpr ⟨lw_p66, List.forall_mem_cons.mpr ⟨lw_p67, List.forall_mem_cons.mpr ⟨lw_p68, List.forall_mem_cons.mpr ⟨lw_p69, fun _ h => absurd h List.not_mem_nil⟩⟩⟩⟩⟩⟩
def lw_privs : List (MethodName × Nat) := lw_privs_1 ++ (lw_privs_2 ++ (lw_privs_3 ++ (lw_privs_4 ++ (lw_privs_5))))
def lw_tbl : List Cond := k2_sels lw_privs ++ tables_1
theorem lw_privs_ok : ∀ q ∈ lw_privs, lw_okq q := by
  show ∀ q ∈ lw_privs_1 ++ (lw_privs_2 ++ (lw_privs_3 ++ (lw_privs_4 ++ (lw_privs_5)))), lw_okq q
  exact List.forall_mem_append.mpr ⟨lw_r1, List.forall_mem_append.mpr ⟨lw_r2, List.forall_mem_append.mpr ⟨lw_r3, List.forall_mem_append.mpr ⟨lw_r4, lw_r5⟩⟩⟩⟩
end
section
def RX0 : String := "SnakedBus$Bus"
def TX0 : u_T := fun k => match k with
  | 0 => ("SnakedBus$Bus", "runs", "[I", true)
  | 1 => ("SnakedBus$Bus", "longs", "[I", true)
  | 2 => ("SnakedBus$Bus", "turns", "[I", true)
  | 3 => ("SnakedBus$Bus", "wides", "[I", true)
  | 4 => ("SnakedBus$Bus", "touching", "[I", true)
  | 5 => ("SnakedBus$Bus", "chosen", "[I", true)
  | 6 => ("SnakedBus$Bus", "lines", "I", false)
  | _ => ("SnakedBus$Bus", "pockets", "I", false)
def tyX0 : Nat → FieldType := fun k => match k with
  | 0 => .array .int
  | 1 => .array .int
  | 2 => .array .int
  | 3 => .array .int
  | 4 => .array .int
  | 5 => .array .int
  | 6 => .int
  | _ => .int
abbrev wsX00 : List Cond := u_ws RX0 TX0 8
theorem nmX0 : ∀ a, a < 8 → ∀ b, b < 8 → a ≠ b → (TX0 a).2.1 ≠ (TX0 b).2.1 := by decide +kernel
theorem tyX0_ok : ∀ k, k < 8 → parseFieldDescriptor (TX0 k).2.2.1 = some (tyX0 k) := by decide +kernel
abbrev cX0_init : ByteArray := prog_2_method_1_code
def yX0_init : MethodName := ⟨RX0, "<init>", "()V"⟩
abbrev cX0_takeFrom : ByteArray := prog_2_method_2_code
def yX0_takeFrom : MethodName := ⟨RX0, "takeFrom", "(LSnakedBus$Bus;)V"⟩
abbrev cX0_addLine : ByteArray := prog_2_method_3_code
def yX0_addLine : MethodName := ⟨RX0, "addLine", "(I)I"⟩
abbrev cX0_addRun : ByteArray := prog_2_method_4_code
def yX0_addRun : MethodName := ⟨RX0, "addRun", "(III)I"⟩
abbrev cX0_dropRun : ByteArray := prog_2_method_5_code
def yX0_dropRun : MethodName := ⟨RX0, "dropRun", "(I)I"⟩
abbrev cX0_addPocket : ByteArray := prog_2_method_6_code
def yX0_addPocket : MethodName := ⟨RX0, "addPocket", "(II)I"⟩
abbrev cX0_changeWide : ByteArray := prog_2_method_7_code
def yX0_changeWide : MethodName := ⟨RX0, "changeWide", "(II)I"⟩
abbrev cX0_changeTouch : ByteArray := prog_2_method_8_code
def yX0_changeTouch : MethodName := ⟨RX0, "changeTouch", "(II)I"⟩
abbrev cX0_changeSetting : ByteArray := prog_2_method_9_code
def yX0_changeSetting : MethodName := ⟨RX0, "changeSetting", "(II)I"⟩
abbrev cX0_hasLine : ByteArray := prog_2_method_10_code
def yX0_hasLine : MethodName := ⟨RX0, "hasLine", "(I)Z"⟩
abbrev cX0_hasRun : ByteArray := prog_2_method_11_code
def yX0_hasRun : MethodName := ⟨RX0, "hasRun", "(II)Z"⟩
abbrev cX0_hasPocket : ByteArray := prog_2_method_12_code
def yX0_hasPocket : MethodName := ⟨RX0, "hasPocket", "(I)Z"⟩
abbrev cX0_lineCount : ByteArray := prog_2_method_13_code
def yX0_lineCount : MethodName := ⟨RX0, "lineCount", "()I"⟩
abbrev cX0_pocketCount : ByteArray := prog_2_method_14_code
def yX0_pocketCount : MethodName := ⟨RX0, "pocketCount", "()I"⟩
abbrev cX0_settingAt : ByteArray := prog_2_method_15_code
def yX0_settingAt : MethodName := ⟨RX0, "settingAt", "(I)I"⟩
abbrev cX0_runsOf : ByteArray := prog_2_method_16_code
def yX0_runsOf : MethodName := ⟨RX0, "runsOf", "(I)I"⟩
abbrev cX0_longOf : ByteArray := prog_2_method_17_code
def yX0_longOf : MethodName := ⟨RX0, "longOf", "(II)I"⟩
abbrev cX0_turnAhead : ByteArray := prog_2_method_18_code
def yX0_turnAhead : MethodName := ⟨RX0, "turnAhead", "(II)I"⟩
abbrev cX0_bumpRoom : ByteArray := prog_2_method_19_code
def yX0_bumpRoom : MethodName := ⟨RX0, "bumpRoom", "(II)I"⟩
abbrev cX0_turnsOf : ByteArray := prog_2_method_20_code
def yX0_turnsOf : MethodName := ⟨RX0, "turnsOf", "(II)I"⟩
abbrev cX0_plainSkew : ByteArray := prog_2_method_21_code
def yX0_plainSkew : MethodName := ⟨RX0, "plainSkew", "(II)I"⟩
abbrev cX0_baseOf : ByteArray := prog_2_method_22_code
def yX0_baseOf : MethodName := ⟨RX0, "baseOf", "(I)I"⟩
abbrev cX0_longestBase : ByteArray := prog_2_method_23_code
def yX0_longestBase : MethodName := ⟨RX0, "longestBase", "()I"⟩
abbrev cX0_lackFor : ByteArray := prog_2_method_24_code
def yX0_lackFor : MethodName := ⟨RX0, "lackFor", "(II)I"⟩
abbrev cX0_needFor : ByteArray := prog_2_method_25_code
def yX0_needFor : MethodName := ⟨RX0, "needFor", "(II)I"⟩
abbrev cX0_allNeeds : ByteArray := prog_2_method_26_code
def yX0_allNeeds : MethodName := ⟨RX0, "allNeeds", "(I)I"⟩
abbrev cX0_gain : ByteArray := prog_2_method_27_code
def yX0_gain : MethodName := ⟨RX0, "gain", "()I"⟩
abbrev cX0_wideOf : ByteArray := prog_2_method_28_code
def yX0_wideOf : MethodName := ⟨RX0, "wideOf", "(I)I"⟩
abbrev cX0_presentAt : ByteArray := prog_2_method_29_code
def yX0_presentAt : MethodName := ⟨RX0, "presentAt", "(I)I"⟩
abbrev cX0_reachOf : ByteArray := prog_2_method_30_code
def yX0_reachOf : MethodName := ⟨RX0, "reachOf", "(I)I"⟩
abbrev cX0_humpsOf : ByteArray := prog_2_method_31_code
def yX0_humpsOf : MethodName := ⟨RX0, "humpsOf", "(I)I"⟩
abbrev cX0_allHumps : ByteArray := prog_2_method_32_code
def yX0_allHumps : MethodName := ⟨RX0, "allHumps", "()I"⟩
def RX1 : String := "SnakedBus$Past"
def TX1 : u_T := fun k => match k with
  | 0 => ("SnakedBus$Past", "kept", "[LSnakedBus$Bus;", true)
  | 1 => ("SnakedBus$Past", "place", "I", false)
  | _ => ("SnakedBus$Past", "held", "I", false)
def tyX1 : Nat → FieldType := fun k => match k with
  | 0 => .array (.object "SnakedBus$Bus")
  | 1 => .int
  | _ => .int
abbrev wsX10 : List Cond := u_ws RX1 TX1 3
theorem nmX1 : ∀ a, a < 3 → ∀ b, b < 3 → a ≠ b → (TX1 a).2.1 ≠ (TX1 b).2.1 := by decide +kernel
theorem tyX1_ok : ∀ k, k < 3 → parseFieldDescriptor (TX1 k).2.2.1 = some (tyX1 k) := by decide +kernel
abbrev cX1_init : ByteArray := prog_3_method_1_code
def yX1_init : MethodName := ⟨RX1, "<init>", "()V"⟩
abbrev cX1_size : ByteArray := prog_3_method_2_code
def yX1_size : MethodName := ⟨RX1, "size", "()I"⟩
abbrev cX1_keep : ByteArray := prog_3_method_3_code
def yX1_keep : MethodName := ⟨RX1, "keep", "(LSnakedBus$Bus;)V"⟩
abbrev cX1_giveBack : ByteArray := prog_3_method_4_code
def yX1_giveBack : MethodName := ⟨RX1, "giveBack", "(LSnakedBus$Bus;)Z"⟩
abbrev cX1_slotAt : ByteArray := prog_3_method_5_code
def yX1_slotAt : MethodName := ⟨RX1, "slotAt", "(I)LSnakedBus$Bus;"⟩
def RX2 : String := "SnakedBus$Phasing"
def TX2 : u_T := fun k => match k with
  | 0 => ("SnakedBus$Phasing", "fewest", "[I", true)
  | _ => ("SnakedBus$Phasing", "next", "[I", true)
def tyX2 : Nat → FieldType := fun k => match k with
  | 0 => .array .int
  | _ => .array .int
abbrev wsX20 : List Cond := u_ws RX2 TX2 2
theorem nmX2 : ∀ a, a < 2 → ∀ b, b < 2 → a ≠ b → (TX2 a).2.1 ≠ (TX2 b).2.1 := by decide +kernel
theorem tyX2_ok : ∀ k, k < 2 → parseFieldDescriptor (TX2 k).2.2.1 = some (tyX2 k) := by decide +kernel
abbrev cX2_init : ByteArray := prog_4_method_1_code
def yX2_init : MethodName := ⟨RX2, "<init>", "()V"⟩
abbrev cX2_fewestFor : ByteArray := prog_4_method_2_code
def yX2_fewestFor : MethodName := ⟨RX2, "fewestFor", "(LSnakedBus$Bus;I)I"⟩
abbrev cX2_turnStep : ByteArray := prog_4_method_3_code
def yX2_turnStep : MethodName := ⟨RX2, "turnStep", "(I)I"⟩
abbrev cX2_passRun : ByteArray := prog_4_method_4_code
def yX2_passRun : MethodName := ⟨RX2, "passRun", "(III)V"⟩
abbrev cX2_putBumps : ByteArray := prog_4_method_5_code
def yX2_putBumps : MethodName := ⟨RX2, "putBumps", "(IIII)V"⟩
def RX3 : String := "SnakedBus$Sharing"
def TX3 : u_T := fun k => match k with
  | 0 => ("SnakedBus$Sharing", "needs", "[I", true)
  | 1 => ("SnakedBus$Sharing", "reach", "[I", true)
  | 2 => ("SnakedBus$Sharing", "rooms", "[I", true)
  | 3 => ("SnakedBus$Sharing", "drawn", "[I", true)
  | 4 => ("SnakedBus$Sharing", "lines", "I", false)
  | 5 => ("SnakedBus$Sharing", "pockets", "I", false)
  | 6 => ("SnakedBus$Sharing", "tooLong", "I", false)
  | _ => ("SnakedBus$Sharing", "inTheWay", "I", false)
def tyX3 : Nat → FieldType := fun k => match k with
  | 0 => .array .int
  | 1 => .array .int
  | 2 => .array .int
  | 3 => .array .int
  | 4 => .int
  | 5 => .int
  | 6 => .int
  | _ => .int
abbrev wsX30 : List Cond := u_ws RX3 TX3 8
theorem nmX3 : ∀ a, a < 8 → ∀ b, b < 8 → a ≠ b → (TX3 a).2.1 ≠ (TX3 b).2.1 := by decide +kernel
theorem tyX3_ok : ∀ k, k < 8 → parseFieldDescriptor (TX3 k).2.2.1 = some (tyX3 k) := by decide +kernel
abbrev cX3_init : ByteArray := prog_5_method_1_code
def yX3_init : MethodName := ⟨RX3, "<init>", "()V"⟩
abbrev cX3_look : ByteArray := prog_5_method_2_code
def yX3_look : MethodName := ⟨RX3, "look", "(LSnakedBus$Bus;I)V"⟩
abbrev cX3_joinSets : ByteArray := prog_5_method_3_code
def yX3_joinSets : MethodName := ⟨RX3, "joinSets", "()V"⟩
abbrev cX3_fits : ByteArray := prog_5_method_4_code
def yX3_fits : MethodName := ⟨RX3, "fits", "()Z"⟩
abbrev cX3_fitsWithOneMore : ByteArray := prog_5_method_5_code
def yX3_fitsWithOneMore : MethodName := ⟨RX3, "fitsWithOneMore", "(I)Z"⟩
abbrev cX3_findBlocked : ByteArray := prog_5_method_6_code
def yX3_findBlocked : MethodName := ⟨RX3, "findBlocked", "()V"⟩
abbrev cX3_drawLine : ByteArray := prog_5_method_7_code
def yX3_drawLine : MethodName := ⟨RX3, "drawLine", "(I)V"⟩
abbrev cX3_allFit : ByteArray := prog_5_method_8_code
def yX3_allFit : MethodName := ⟨RX3, "allFit", "()Z"⟩
abbrev cX3_blockedLines : ByteArray := prog_5_method_9_code
def yX3_blockedLines : MethodName := ⟨RX3, "blockedLines", "()I"⟩
abbrev cX3_freeOf : ByteArray := prog_5_method_10_code
def yX3_freeOf : MethodName := ⟨RX3, "freeOf", "(I)I"⟩
abbrev cX3_drawnBy : ByteArray := prog_5_method_11_code
def yX3_drawnBy : MethodName := ⟨RX3, "drawnBy", "(II)I"⟩
abbrev cX3_crowd : ByteArray := prog_5_method_12_code
def yX3_crowd : MethodName := ⟨RX3, "crowd", "()I"⟩
abbrev cX3_spare : ByteArray := prog_5_method_13_code
def yX3_spare : MethodName := ⟨RX3, "spare", "(I)I"⟩
abbrev cX3_mostFor : ByteArray := prog_5_method_14_code
def yX3_mostFor : MethodName := ⟨RX3, "mostFor", "(II)I"⟩
def RX4 : String := "SnakedBus$Text"
def TX4 : u_T := fun k => match k with
  | 0 => ("SnakedBus$Text", "bytes", "[I", true)
  | 1 => ("SnakedBus$Text", "letters", "[I", true)
  | 2 => ("SnakedBus$Text", "numbers", "[I", true)
  | 3 => ("SnakedBus$Text", "many", "I", false)
  | 4 => ("SnakedBus$Text", "orders", "I", false)
  | 5 => ("SnakedBus$Text", "letter", "I", false)
  | 6 => ("SnakedBus$Text", "begun", "I", false)
  | _ => ("SnakedBus$Text", "figures", "I", false)
def tyX4 : Nat → FieldType := fun k => match k with
  | 0 => .array .int
  | 1 => .array .int
  | 2 => .array .int
  | 3 => .int
  | 4 => .int
  | 5 => .int
  | 6 => .int
  | _ => .int
abbrev wsX40 : List Cond := u_ws RX4 TX4 8
theorem nmX4 : ∀ a, a < 8 → ∀ b, b < 8 → a ≠ b → (TX4 a).2.1 ≠ (TX4 b).2.1 := by decide +kernel
theorem tyX4_ok : ∀ k, k < 8 → parseFieldDescriptor (TX4 k).2.2.1 = some (tyX4 k) := by decide +kernel
abbrev cX4_init : ByteArray := prog_6_method_1_code
def yX4_init : MethodName := ⟨RX4, "<init>", "()V"⟩
abbrev cX4_size : ByteArray := prog_6_method_2_code
def yX4_size : MethodName := ⟨RX4, "size", "()I"⟩
abbrev cX4_append : ByteArray := prog_6_method_3_code
def yX4_append : MethodName := ⟨RX4, "append", "(I)Z"⟩
abbrev cX4_empty : ByteArray := prog_6_method_4_code
def yX4_empty : MethodName := ⟨RX4, "empty", "()V"⟩
abbrev cX4_orderCount : ByteArray := prog_6_method_5_code
def yX4_orderCount : MethodName := ⟨RX4, "orderCount", "()I"⟩
abbrev cX4_parse : ByteArray := prog_6_method_6_code
def yX4_parse : MethodName := ⟨RX4, "parse", "()I"⟩
abbrev cX4_takes : ByteArray := prog_6_method_7_code
def yX4_takes : MethodName := ⟨RX4, "takes", "(I)Z"⟩
abbrev cX4_opens : ByteArray := prog_6_method_8_code
def yX4_opens : MethodName := ⟨RX4, "opens", "(I)Z"⟩
abbrev cX4_closes : ByteArray := prog_6_method_9_code
def yX4_closes : MethodName := ⟨RX4, "closes", "()Z"⟩
abbrev cX4_takesFigure : ByteArray := prog_6_method_10_code
def yX4_takesFigure : MethodName := ⟨RX4, "takesFigure", "(I)Z"⟩
abbrev cX4_apply : ByteArray := prog_6_method_11_code
def yX4_apply : MethodName := ⟨RX4, "apply", "(LSnakedBus$Bus;)I"⟩
abbrev cX4_applyOne : ByteArray := prog_6_method_12_code
def yX4_applyOne : MethodName := ⟨RX4, "applyOne", "(LSnakedBus$Bus;I)I"⟩
abbrev cX4_numbersOf : ByteArray := prog_6_method_13_code
def yX4_numbersOf : MethodName := ⟨RX4, "numbersOf", "(I)I"⟩
def RX5 : String := "SnakedBus"
def TX5 : u_T := fun k => match k with
  | 0 => ("SnakedBus", "bus", "LSnakedBus$Bus;", true)
  | 1 => ("SnakedBus", "trial", "LSnakedBus$Bus;", true)
  | 2 => ("SnakedBus", "past", "LSnakedBus$Past;", true)
  | 3 => ("SnakedBus", "text", "LSnakedBus$Text;", true)
  | 4 => ("SnakedBus", "byTarget", "LSnakedBus$Sharing;", true)
  | 5 => ("SnakedBus", "tried", "LSnakedBus$Sharing;", true)
  | 6 => ("SnakedBus", "phasing", "LSnakedBus$Phasing;", true)
  | 7 => ("SnakedBus", "planned", "Z", false)
  | 8 => ("SnakedBus", "bads", "I", false)
  | 9 => ("SnakedBus", "noes", "I", false)
  | _ => ("SnakedBus", "fulls", "I", false)
def tyX5 : Nat → FieldType := fun k => match k with
  | 0 => .object "SnakedBus$Bus"
  | 1 => .object "SnakedBus$Bus"
  | 2 => .object "SnakedBus$Past"
  | 3 => .object "SnakedBus$Text"
  | 4 => .object "SnakedBus$Sharing"
  | 5 => .object "SnakedBus$Sharing"
  | 6 => .object "SnakedBus$Phasing"
  | 7 => .boolean
  | 8 => .int
  | 9 => .int
  | _ => .int
abbrev wsX50 : List Cond := u_ws RX5 TX5 11
theorem nmX5 : ∀ a, a < 11 → ∀ b, b < 11 → a ≠ b → (TX5 a).2.1 ≠ (TX5 b).2.1 := by decide +kernel
theorem tyX5_ok : ∀ k, k < 11 → parseFieldDescriptor (TX5 k).2.2.1 = some (tyX5 k) := by decide +kernel
abbrev cX5_init : ByteArray := prog_1_method_1_code
def yX5_init : MethodName := ⟨RX5, "<init>", "()V"⟩
abbrev cX5_line : ByteArray := prog_1_method_2_code
def yX5_line : MethodName := ⟨RX5, "line", "(I)I"⟩
abbrev cX5_goes : ByteArray := prog_1_method_3_code
def yX5_goes : MethodName := ⟨RX5, "goes", "(III)I"⟩
abbrev cX5_shortens : ByteArray := prog_1_method_4_code
def yX5_shortens : MethodName := ⟨RX5, "shortens", "(I)I"⟩
abbrev cX5_pocket : ByteArray := prog_1_method_5_code
def yX5_pocket : MethodName := ⟨RX5, "pocket", "(II)I"⟩
abbrev cX5_widens : ByteArray := prog_1_method_6_code
def yX5_widens : MethodName := ⟨RX5, "widens", "(II)I"⟩
abbrev cX5_touches : ByteArray := prog_1_method_7_code
def yX5_touches : MethodName := ⟨RX5, "touches", "(II)I"⟩
abbrev cX5_sets : ByteArray := prog_1_method_8_code
def yX5_sets : MethodName := ⟨RX5, "sets", "(II)I"⟩
abbrev cX5_of : ByteArray := prog_1_method_9_code
def yX5_of : MethodName := ⟨RX5, "of", "(II)I"⟩
abbrev cX5_run : ByteArray := prog_1_method_10_code
def yX5_run : MethodName := ⟨RX5, "run", "(III)I"⟩
abbrev cX5_about : ByteArray := prog_1_method_11_code
def yX5_about : MethodName := ⟨RX5, "about", "(II)I"⟩
abbrev cX5_setting : ByteArray := prog_1_method_12_code
def yX5_setting : MethodName := ⟨RX5, "setting", "(I)I"⟩
abbrev cX5_count : ByteArray := prog_1_method_13_code
def yX5_count : MethodName := ⟨RX5, "count", "(I)I"⟩
abbrev cX5_draws : ByteArray := prog_1_method_14_code
def yX5_draws : MethodName := ⟨RX5, "draws", "(II)I"⟩
abbrev cX5_length : ByteArray := prog_1_method_15_code
def yX5_length : MethodName := ⟨RX5, "length", "(I)I"⟩
abbrev cX5_blocked : ByteArray := prog_1_method_16_code
def yX5_blocked : MethodName := ⟨RX5, "blocked", "()I"⟩
abbrev cX5_can : ByteArray := prog_1_method_17_code
def yX5_can : MethodName := ⟨RX5, "can", "(I)I"⟩
abbrev cX5_least : ByteArray := prog_1_method_18_code
def yX5_least : MethodName := ⟨RX5, "least", "()I"⟩
abbrev cX5_greatest : ByteArray := prog_1_method_19_code
def yX5_greatest : MethodName := ⟨RX5, "greatest", "()I"⟩
abbrev cX5_more : ByteArray := prog_1_method_20_code
def yX5_more : MethodName := ⟨RX5, "more", "()I"⟩
abbrev cX5_bumps : ByteArray := prog_1_method_21_code
def yX5_bumps : MethodName := ⟨RX5, "bumps", "(I)I"⟩
abbrev cX5_skew : ByteArray := prog_1_method_22_code
def yX5_skew : MethodName := ⟨RX5, "skew", "(II)I"⟩
abbrev cX5_type : ByteArray := prog_1_method_23_code
def yX5_type : MethodName := ⟨RX5, "type", "(I)I"⟩
abbrev cX5_clear : ByteArray := prog_1_method_24_code
def yX5_clear : MethodName := ⟨RX5, "clear", "()I"⟩
abbrev cX5_does : ByteArray := prog_1_method_25_code
def yX5_does : MethodName := ⟨RX5, "does", "()I"⟩
abbrev cX5_back : ByteArray := prog_1_method_26_code
def yX5_back : MethodName := ⟨RX5, "back", "()I"⟩
abbrev cX5_told : ByteArray := prog_1_method_27_code
def yX5_told : MethodName := ⟨RX5, "told", "(I)I"⟩
abbrev cX5_digest : ByteArray := prog_1_method_28_code
def yX5_digest : MethodName := ⟨RX5, "digest", "()J"⟩
abbrev cX5_mixed : ByteArray := prog_1_method_29_code
def yX5_mixed : MethodName := ⟨RX5, "mixed", "(JI)J"⟩
abbrev cX5_mixedLine : ByteArray := prog_1_method_30_code
def yX5_mixedLine : MethodName := ⟨RX5, "mixedLine", "(JI)J"⟩
abbrev cX5_mixedHumps : ByteArray := prog_1_method_31_code
def yX5_mixedHumps : MethodName := ⟨RX5, "mixedHumps", "(J)J"⟩
abbrev cX5_draft : ByteArray := prog_1_method_32_code
def yX5_draft : MethodName := ⟨RX5, "draft", "()LSnakedBus$Bus;"⟩
abbrev cX5_settled : ByteArray := prog_1_method_33_code
def yX5_settled : MethodName := ⟨RX5, "settled", "(I)I"⟩
abbrev cX5_accept : ByteArray := prog_1_method_34_code
def yX5_accept : MethodName := ⟨RX5, "accept", "()V"⟩
abbrev cX5_refused : ByteArray := prog_1_method_35_code
def yX5_refused : MethodName := ⟨RX5, "refused", "(I)I"⟩
abbrev cX5_fitsBy : ByteArray := prog_1_method_36_code
def yX5_fitsBy : MethodName := ⟨RX5, "fitsBy", "(I)Z"⟩
abbrev cX5_plan : ByteArray := prog_1_method_37_code
def yX5_plan : MethodName := ⟨RX5, "plan", "()LSnakedBus$Sharing;"⟩
abbrev cX5_within : ByteArray := prog_1_method_38_code
def yX5_within : MethodName := ⟨RX5, "within", "(III)Z"⟩
abbrev cX5_hasBit : ByteArray := prog_1_method_39_code
def yX5_hasBit : MethodName := ⟨RX5, "hasBit", "(II)Z"⟩
abbrev cX5_at : ByteArray := prog_1_method_40_code
def yX5_at : MethodName := ⟨RX5, "at", "([II)I"⟩
abbrev cX5_put : ByteArray := prog_1_method_41_code
def yX5_put : MethodName := ⟨RX5, "put", "([III)V"⟩
abbrev cX5_cell : ByteArray := prog_1_method_42_code
def yX5_cell : MethodName := ⟨RX5, "cell", "(III)I"⟩
abbrev cX5_copy : ByteArray := prog_1_method_43_code
def yX5_copy : MethodName := ⟨RX5, "copy", "([I[I)V"⟩
def RX6 : String := "SnakedBusModel"
def TX6 : u_T := fun k => match k with
  | 0 => ("SnakedBusModel", "refused", "[I", true)
  | 1 => ("SnakedBusModel", "now", "[I", true)
  | 2 => ("SnakedBusModel", "kept", "[I", true)
  | 3 => ("SnakedBusModel", "states", "I", false)
  | 4 => ("SnakedBusModel", "need", "[I", true)
  | 5 => ("SnakedBusModel", "room", "[I", true)
  | 6 => ("SnakedBusModel", "may", "[I", true)
  | 7 => ("SnakedBusModel", "drawn", "[I", true)
  | 8 => ("SnakedBusModel", "fewest", "[I", true)
  | 9 => ("SnakedBusModel", "then", "[I", true)
  | 10 => ("SnakedBusModel", "text", "[I", true)
  | 11 => ("SnakedBusModel", "typed", "I", false)
  | 12 => ("SnakedBusModel", "orders", "[I", true)
  | 13 => ("SnakedBusModel", "written", "I", false)
  | _ => ("SnakedBusModel", "look", "I", false)
def tyX6 : Nat → FieldType := fun k => match k with
  | 0 => .array .int
  | 1 => .array .int
  | 2 => .array .int
  | 3 => .int
  | 4 => .array .int
  | 5 => .array .int
  | 6 => .array .int
  | 7 => .array .int
  | 8 => .array .int
  | 9 => .array .int
  | 10 => .array .int
  | 11 => .int
  | 12 => .array .int
  | 13 => .int
  | _ => .int
abbrev wsX60 : List Cond := u_ws RX6 TX6 15
theorem nmX6 : ∀ a, a < 15 → ∀ b, b < 15 → a ≠ b → (TX6 a).2.1 ≠ (TX6 b).2.1 := by decide +kernel
theorem tyX6_ok : ∀ k, k < 15 → parseFieldDescriptor (TX6 k).2.2.1 = some (tyX6 k) := by decide +kernel
abbrev cX6_init : ByteArray := prog_8_method_1_code
def yX6_init : MethodName := ⟨RX6, "<init>", "()V"⟩
abbrev cX6_bad : ByteArray := prog_8_method_2_code
def yX6_bad : MethodName := ⟨RX6, "bad", "()I"⟩
abbrev cX6_no : ByteArray := prog_8_method_3_code
def yX6_no : MethodName := ⟨RX6, "no", "()I"⟩
abbrev cX6_full : ByteArray := prog_8_method_4_code
def yX6_full : MethodName := ⟨RX6, "full", "()I"⟩
abbrev cX6_counted : ByteArray := prog_8_method_5_code
def yX6_counted : MethodName := ⟨RX6, "counted", "(I)I"⟩
abbrev cX6_in : ByteArray := prog_8_method_6_code
def yX6_in : MethodName := ⟨RX6, "in", "(III)Z"⟩
abbrev cX6_puts : ByteArray := prog_8_method_7_code
def yX6_puts : MethodName := ⟨RX6, "puts", "(I)V"⟩
abbrev cX6_takes : ByteArray := prog_8_method_8_code
def yX6_takes : MethodName := ⟨RX6, "takes", "(I)V"⟩
abbrev cX6_leavesState : ByteArray := prog_8_method_9_code
def yX6_leavesState : MethodName := ⟨RX6, "leavesState", "()V"⟩
abbrev cX6_back : ByteArray := prog_8_method_10_code
def yX6_back : MethodName := ⟨RX6, "back", "()I"⟩
abbrev cX6_isLine : ByteArray := prog_8_method_11_code
def yX6_isLine : MethodName := ⟨RX6, "isLine", "(I)Z"⟩
abbrev cX6_isPocket : ByteArray := prog_8_method_12_code
def yX6_isPocket : MethodName := ⟨RX6, "isPocket", "(I)Z"⟩
abbrev cX6_runsOf : ByteArray := prog_8_method_13_code
def yX6_runsOf : MethodName := ⟨RX6, "runsOf", "(I)I"⟩
abbrev cX6_longOf : ByteArray := prog_8_method_14_code
def yX6_longOf : MethodName := ⟨RX6, "longOf", "(II)I"⟩
abbrev cX6_turnOf : ByteArray := prog_8_method_15_code
def yX6_turnOf : MethodName := ⟨RX6, "turnOf", "(II)I"⟩
abbrev cX6_addLine : ByteArray := prog_8_method_16_code
def yX6_addLine : MethodName := ⟨RX6, "addLine", "(I)I"⟩
abbrev cX6_addRun : ByteArray := prog_8_method_17_code
def yX6_addRun : MethodName := ⟨RX6, "addRun", "(III)I"⟩
abbrev cX6_dropRun : ByteArray := prog_8_method_18_code
def yX6_dropRun : MethodName := ⟨RX6, "dropRun", "(I)I"⟩
abbrev cX6_addPocket : ByteArray := prog_8_method_19_code
def yX6_addPocket : MethodName := ⟨RX6, "addPocket", "(II)I"⟩
abbrev cX6_becomes : ByteArray := prog_8_method_20_code
def yX6_becomes : MethodName := ⟨RX6, "becomes", "(II)I"⟩
abbrev cX6_setWide : ByteArray := prog_8_method_21_code
def yX6_setWide : MethodName := ⟨RX6, "setWide", "(II)I"⟩
abbrev cX6_setTouch : ByteArray := prog_8_method_22_code
def yX6_setTouch : MethodName := ⟨RX6, "setTouch", "(II)I"⟩
abbrev cX6_leastOf : ByteArray := prog_8_method_23_code
def yX6_leastOf : MethodName := ⟨RX6, "leastOf", "(I)I"⟩
abbrev cX6_mostOf : ByteArray := prog_8_method_24_code
def yX6_mostOf : MethodName := ⟨RX6, "mostOf", "(I)I"⟩
abbrev cX6_setSetting : ByteArray := prog_8_method_25_code
def yX6_setSetting : MethodName := ⟨RX6, "setSetting", "(II)I"⟩
abbrev cX6_done : ByteArray := prog_8_method_26_code
def yX6_done : MethodName := ⟨RX6, "done", "(I)I"⟩
abbrev cX6_line : ByteArray := prog_8_method_27_code
def yX6_line : MethodName := ⟨RX6, "line", "(I)I"⟩
abbrev cX6_goes : ByteArray := prog_8_method_28_code
def yX6_goes : MethodName := ⟨RX6, "goes", "(III)I"⟩
abbrev cX6_shortens : ByteArray := prog_8_method_29_code
def yX6_shortens : MethodName := ⟨RX6, "shortens", "(I)I"⟩
abbrev cX6_pocket : ByteArray := prog_8_method_30_code
def yX6_pocket : MethodName := ⟨RX6, "pocket", "(II)I"⟩
abbrev cX6_widens : ByteArray := prog_8_method_31_code
def yX6_widens : MethodName := ⟨RX6, "widens", "(II)I"⟩
abbrev cX6_touches : ByteArray := prog_8_method_32_code
def yX6_touches : MethodName := ⟨RX6, "touches", "(II)I"⟩
abbrev cX6_sets : ByteArray := prog_8_method_33_code
def yX6_sets : MethodName := ⟨RX6, "sets", "(II)I"⟩
abbrev cX6_base : ByteArray := prog_8_method_34_code
def yX6_base : MethodName := ⟨RX6, "base", "(I)I"⟩
abbrev cX6_gain : ByteArray := prog_8_method_35_code
def yX6_gain : MethodName := ⟨RX6, "gain", "()I"⟩
abbrev cX6_humps : ByteArray := prog_8_method_36_code
def yX6_humps : MethodName := ⟨RX6, "humps", "(I)I"⟩
abbrev cX6_lack : ByteArray := prog_8_method_37_code
def yX6_lack : MethodName := ⟨RX6, "lack", "(II)I"⟩
abbrev cX6_needBy : ByteArray := prog_8_method_38_code
def yX6_needBy : MethodName := ⟨RX6, "needBy", "(II)I"⟩
abbrev cX6_pocketsOf : ByteArray := prog_8_method_39_code
def yX6_pocketsOf : MethodName := ⟨RX6, "pocketsOf", "(I)I"⟩
abbrev cX6_turns : ByteArray := prog_8_method_40_code
def yX6_turns : MethodName := ⟨RX6, "turns", "(II)I"⟩
abbrev cX6_toldLine : ByteArray := prog_8_method_41_code
def yX6_toldLine : MethodName := ⟨RX6, "toldLine", "(II)I"⟩
abbrev cX6_of : ByteArray := prog_8_method_42_code
def yX6_of : MethodName := ⟨RX6, "of", "(II)I"⟩
abbrev cX6_toldRun : ByteArray := prog_8_method_43_code
def yX6_toldRun : MethodName := ⟨RX6, "toldRun", "(III)I"⟩
abbrev cX6_isRun : ByteArray := prog_8_method_44_code
def yX6_isRun : MethodName := ⟨RX6, "isRun", "(II)Z"⟩
abbrev cX6_run : ByteArray := prog_8_method_45_code
def yX6_run : MethodName := ⟨RX6, "run", "(III)I"⟩
abbrev cX6_lays : ByteArray := prog_8_method_46_code
def yX6_lays : MethodName := ⟨RX6, "lays", "(I)Z"⟩
abbrev cX6_isEnough : ByteArray := prog_8_method_47_code
def yX6_isEnough : MethodName := ⟨RX6, "isEnough", "(I)Z"⟩
abbrev cX6_areEnough : ByteArray := prog_8_method_48_code
def yX6_areEnough : MethodName := ⟨RX6, "areEnough", "()Z"⟩
abbrev cX6_allCan : ByteArray := prog_8_method_49_code
def yX6_allCan : MethodName := ⟨RX6, "allCan", "(I)Z"⟩
abbrev cX6_allCanNow : ByteArray := prog_8_method_50_code
def yX6_allCanNow : MethodName := ⟨RX6, "allCanNow", "()Z"⟩
abbrev cX6_can : ByteArray := prog_8_method_51_code
def yX6_can : MethodName := ⟨RX6, "can", "(I)I"⟩
abbrev cX6_longest : ByteArray := prog_8_method_52_code
def yX6_longest : MethodName := ⟨RX6, "longest", "()I"⟩
abbrev cX6_least : ByteArray := prog_8_method_53_code
def yX6_least : MethodName := ⟨RX6, "least", "()I"⟩
abbrev cX6_greatest : ByteArray := prog_8_method_54_code
def yX6_greatest : MethodName := ⟨RX6, "greatest", "()I"⟩
abbrev cX6_ones : ByteArray := prog_8_method_55_code
def yX6_ones : MethodName := ⟨RX6, "ones", "(I)I"⟩
abbrev cX6_blocked : ByteArray := prog_8_method_56_code
def yX6_blocked : MethodName := ⟨RX6, "blocked", "()I"⟩
abbrev cX6_more : ByteArray := prog_8_method_57_code
def yX6_more : MethodName := ⟨RX6, "more", "()I"⟩
abbrev cX6_draw : ByteArray := prog_8_method_58_code
def yX6_draw : MethodName := ⟨RX6, "draw", "()Z"⟩
abbrev cX6_draws : ByteArray := prog_8_method_59_code
def yX6_draws : MethodName := ⟨RX6, "draws", "(II)I"⟩
abbrev cX6_length : ByteArray := prog_8_method_60_code
def yX6_length : MethodName := ⟨RX6, "length", "(I)I"⟩
abbrev cX6_free : ByteArray := prog_8_method_61_code
def yX6_free : MethodName := ⟨RX6, "free", "(I)I"⟩
abbrev cX6_toldPocket : ByteArray := prog_8_method_62_code
def yX6_toldPocket : MethodName := ⟨RX6, "toldPocket", "(II)I"⟩
abbrev cX6_about : ByteArray := prog_8_method_63_code
def yX6_about : MethodName := ⟨RX6, "about", "(II)I"⟩
abbrev cX6_setting : ByteArray := prog_8_method_64_code
def yX6_setting : MethodName := ⟨RX6, "setting", "(I)I"⟩
abbrev cX6_countOf : ByteArray := prog_8_method_65_code
def yX6_countOf : MethodName := ⟨RX6, "countOf", "(I)I"⟩
abbrev cX6_count : ByteArray := prog_8_method_66_code
def yX6_count : MethodName := ⟨RX6, "count", "(I)I"⟩
abbrev cX6_skewOf : ByteArray := prog_8_method_67_code
def yX6_skewOf : MethodName := ⟨RX6, "skewOf", "(II)I"⟩
abbrev cX6_skew : ByteArray := prog_8_method_68_code
def yX6_skew : MethodName := ⟨RX6, "skew", "(II)I"⟩
abbrev cX6_fewestBumps : ByteArray := prog_8_method_69_code
def yX6_fewestBumps : MethodName := ⟨RX6, "fewestBumps", "(I)I"⟩
abbrev cX6_bumps : ByteArray := prog_8_method_70_code
def yX6_bumps : MethodName := ⟨RX6, "bumps", "(I)I"⟩
abbrev cX6_type : ByteArray := prog_8_method_71_code
def yX6_type : MethodName := ⟨RX6, "type", "(I)I"⟩
abbrev cX6_clear : ByteArray := prog_8_method_72_code
def yX6_clear : MethodName := ⟨RX6, "clear", "()I"⟩
abbrev cX6_byteAt : ByteArray := prog_8_method_73_code
def yX6_byteAt : MethodName := ⟨RX6, "byteAt", "(I)I"⟩
abbrev cX6_isFigure : ByteArray := prog_8_method_74_code
def yX6_isFigure : MethodName := ⟨RX6, "isFigure", "(I)Z"⟩
abbrev cX6_blanks : ByteArray := prog_8_method_75_code
def yX6_blanks : MethodName := ⟨RX6, "blanks", "()V"⟩
abbrev cX6_wants : ByteArray := prog_8_method_76_code
def yX6_wants : MethodName := ⟨RX6, "wants", "(I)I"⟩
abbrev cX6_number : ByteArray := prog_8_method_77_code
def yX6_number : MethodName := ⟨RX6, "number", "()I"⟩
abbrev cX6_reads : ByteArray := prog_8_method_78_code
def yX6_reads : MethodName := ⟨RX6, "reads", "()Z"⟩
abbrev cX6_acted : ByteArray := prog_8_method_79_code
def yX6_acted : MethodName := ⟨RX6, "acted", "(I)I"⟩
abbrev cX6_does : ByteArray := prog_8_method_80_code
def yX6_does : MethodName := ⟨RX6, "does", "()I"⟩
abbrev cX6_toldOf : ByteArray := prog_8_method_81_code
def yX6_toldOf : MethodName := ⟨RX6, "toldOf", "(I)I"⟩
abbrev cX6_told : ByteArray := prog_8_method_82_code
def yX6_told : MethodName := ⟨RX6, "told", "(I)I"⟩
abbrev cX6_digest : ByteArray := prog_8_method_83_code
def yX6_digest : MethodName := ⟨RX6, "digest", "()J"⟩
def RJ6 : String := "java/lang/Integer"
def TJ6 : u_T := fun k => match k with
  | _ => ("", "", "", false)
def tyJ6 : Nat → FieldType := fun k => match k with
  | _ => .int
abbrev wsJ60 : List Cond := u_ws RJ6 TJ6 0
theorem nmJ6 : ∀ a, a < 0 → ∀ b, b < 0 → a ≠ b → (TJ6 a).2.1 ≠ (TJ6 b).2.1 := by decide +kernel
theorem tyJ6_ok : ∀ k, k < 0 → parseFieldDescriptor (TJ6 k).2.2.1 = some (tyJ6 k) := by decide +kernel
abbrev cJ6_bitCount_0f7a4 : ByteArray := prog_9_method_49_code
def yJ6_bitCount_0f7a4 : MethodName := ⟨RJ6, "bitCount", "(I)I"⟩
def RJ9 : String := "java/lang/Math"
def TJ9 : u_T := fun k => match k with
  | _ => ("", "", "", false)
def tyJ9 : Nat → FieldType := fun k => match k with
  | _ => .int
abbrev wsJ90 : List Cond := u_ws RJ9 TJ9 0
theorem nmJ9 : ∀ a, a < 0 → ∀ b, b < 0 → a ≠ b → (TJ9 a).2.1 ≠ (TJ9 b).2.1 := by decide +kernel
theorem tyJ9_ok : ∀ k, k < 0 → parseFieldDescriptor (TJ9 k).2.2.1 = some (tyJ9 k) := by decide +kernel
abbrev cJ9_abs_0f7a4 : ByteArray := prog_10_method_59_code
def yJ9_abs_0f7a4 : MethodName := ⟨RJ9, "abs", "(I)I"⟩
abbrev cJ9_max_7cf53 : ByteArray := prog_10_method_65_code
def yJ9_max_7cf53 : MethodName := ⟨RJ9, "max", "(II)I"⟩
abbrev cJ9_min_7cf53 : ByteArray := prog_10_method_69_code
def yJ9_min_7cf53 : MethodName := ⟨RJ9, "min", "(II)I"⟩
def RJ10 : String := "java/lang/System"
def TJ10 : u_T := fun k => match k with
  | _ => ("", "", "", false)
def tyJ10 : Nat → FieldType := fun k => match k with
  | _ => .int
abbrev wsJ100 : List Cond := u_ws RJ10 TJ10 0
theorem nmJ10 : ∀ a, a < 0 → ∀ b, b < 0 → a ≠ b → (TJ10 a).2.1 ≠ (TJ10 b).2.1 := by decide +kernel
theorem tyJ10_ok : ∀ k, k < 0 → parseFieldDescriptor (TJ10 k).2.2.1 = some (tyJ10 k) := by decide +kernel
def RJ7 : String := "java/util/Arrays"
def TJ7 : u_T := fun k => match k with
  | _ => ("", "", "", false)
def tyJ7 : Nat → FieldType := fun k => match k with
  | _ => .int
abbrev wsJ70 : List Cond := u_ws RJ7 TJ7 0
theorem nmJ7 : ∀ a, a < 0 → ∀ b, b < 0 → a ≠ b → (TJ7 a).2.1 ≠ (TJ7 b).2.1 := by decide +kernel
theorem tyJ7_ok : ∀ k, k < 0 → parseFieldDescriptor (TJ7 k).2.2.1 = some (tyJ7 k) := by decide +kernel
abbrev cJ7_fill_53178 : ByteArray := prog_12_method_103_code
def yJ7_fill_53178 : MethodName := ⟨RJ7, "fill", "([II)V"⟩
def RL : String := "SnakedBusLaw"
abbrev cL_law : ByteArray := code
def yL_law : MethodName := ⟨RL, "law", "([I)Z"⟩
abbrev vwCl : List vw_C := [(RX0, TX0, 8), (RX1, TX1, 3), (RX2, TX2, 2), (RX3, TX3, 8), (RX4, TX4, 8), (RX5, TX5, 11), (RX6, TX6, 15)]
end
section
theorem dX0_init_0 : decode cX0_init 0 = .ok (.aload_n 0, 1) := by decide +kernel
theorem dX0_init_1 : decode cX0_init 1 = .ok (.invokespecial 3, 3) := by decide +kernel
theorem dX0_init_4 : decode cX0_init 4 = .ok (.aload_n 0, 1) := by decide +kernel
theorem dX0_init_5 : decode cX0_init 5 = .ok (.bipush 6, 2) := by decide +kernel
theorem dX0_init_7 : decode cX0_init 7 = .ok (.newarray .int, 2) := by decide +kernel
theorem dX0_init_9 : decode cX0_init 9 = .ok (.putfield 9, 3) := by decide +kernel
theorem dX0_init_12 : decode cX0_init 12 = .ok (.aload_n 0, 1) := by decide +kernel
theorem dX0_init_13 : decode cX0_init 13 = .ok (.bipush 48, 2) := by decide +kernel
theorem dX0_init_15 : decode cX0_init 15 = .ok (.newarray .int, 2) := by decide +kernel
theorem dX0_init_17 : decode cX0_init 17 = .ok (.putfield 15, 3) := by decide +kernel
theorem dX0_init_20 : decode cX0_init 20 = .ok (.aload_n 0, 1) := by decide +kernel
theorem dX0_init_21 : decode cX0_init 21 = .ok (.bipush 48, 2) := by decide +kernel
theorem dX0_init_23 : decode cX0_init 23 = .ok (.newarray .int, 2) := by decide +kernel
theorem dX0_init_25 : decode cX0_init 25 = .ok (.putfield 18, 3) := by decide +kernel
theorem dX0_init_28 : decode cX0_init 28 = .ok (.aload_n 0, 1) := by decide +kernel
theorem dX0_init_29 : decode cX0_init 29 = .ok (.bipush 6, 2) := by decide +kernel
theorem dX0_init_31 : decode cX0_init 31 = .ok (.newarray .int, 2) := by decide +kernel
theorem dX0_init_33 : decode cX0_init 33 = .ok (.putfield 21, 3) := by decide +kernel
theorem dX0_init_36 : decode cX0_init 36 = .ok (.aload_n 0, 1) := by decide +kernel
theorem dX0_init_37 : decode cX0_init 37 = .ok (.bipush 6, 2) := by decide +kernel
theorem dX0_init_39 : decode cX0_init 39 = .ok (.newarray .int, 2) := by decide +kernel
theorem dX0_init_41 : decode cX0_init 41 = .ok (.putfield 24, 3) := by decide +kernel
theorem dX0_init_44 : decode cX0_init 44 = .ok (.aload_n 0, 1) := by decide +kernel
theorem dX0_init_45 : decode cX0_init 45 = .ok (.bipush 7, 2) := by decide +kernel
theorem dX0_init_47 : decode cX0_init 47 = .ok (.newarray .int, 2) := by decide +kernel
theorem dX0_init_49 : decode cX0_init 49 = .ok (.putfield 27, 3) := by decide +kernel
theorem dX0_init_52 : decode cX0_init 52 = .ok (.aload_n 0, 1) := by decide +kernel
theorem dX0_init_53 : decode cX0_init 53 = .ok (.iconst 0, 1) := by decide +kernel
theorem dX0_init_54 : decode cX0_init 54 = .ok (.putfield 30, 3) := by decide +kernel
theorem dX0_init_57 : decode cX0_init 57 = .ok (.aload_n 0, 1) := by decide +kernel
theorem dX0_init_58 : decode cX0_init 58 = .ok (.iconst 0, 1) := by decide +kernel
theorem dX0_init_59 : decode cX0_init 59 = .ok (.putfield 34, 3) := by decide +kernel
theorem dX0_init_62 : decode cX0_init 62 = .ok (.getstatic 37, 3) := by decide +kernel
theorem dX0_init_65 : decode cX0_init 65 = .ok (.aload_n 0, 1) := by decide +kernel
theorem dX0_init_66 : decode cX0_init 66 = .ok (.getfield 27, 3) := by decide +kernel
theorem dX0_init_69 : decode cX0_init 69 = .ok (.invokestatic 40, 3) := by decide +kernel
theorem dX0_init_72 : decode cX0_init 72 = .ok (.return_, 1) := by decide +kernel
theorem dX0_takeFrom_0 : decode cX0_takeFrom 0 = .ok (.aload_n 1, 1) := by decide +kernel
theorem dX0_takeFrom_1 : decode cX0_takeFrom 1 = .ok (.getfield 9, 3) := by decide +kernel
theorem dX0_takeFrom_4 : decode cX0_takeFrom 4 = .ok (.aload_n 0, 1) := by decide +kernel
theorem dX0_takeFrom_5 : decode cX0_takeFrom 5 = .ok (.getfield 9, 3) := by decide +kernel
theorem dX0_takeFrom_8 : decode cX0_takeFrom 8 = .ok (.invokestatic 40, 3) := by decide +kernel
theorem dX0_takeFrom_11 : decode cX0_takeFrom 11 = .ok (.aload_n 1, 1) := by decide +kernel
theorem dX0_takeFrom_12 : decode cX0_takeFrom 12 = .ok (.getfield 15, 3) := by decide +kernel
theorem dX0_takeFrom_15 : decode cX0_takeFrom 15 = .ok (.aload_n 0, 1) := by decide +kernel
theorem dX0_takeFrom_16 : decode cX0_takeFrom 16 = .ok (.getfield 15, 3) := by decide +kernel
theorem dX0_takeFrom_19 : decode cX0_takeFrom 19 = .ok (.invokestatic 40, 3) := by decide +kernel
theorem dX0_takeFrom_22 : decode cX0_takeFrom 22 = .ok (.aload_n 1, 1) := by decide +kernel
theorem dX0_takeFrom_23 : decode cX0_takeFrom 23 = .ok (.getfield 18, 3) := by decide +kernel
theorem dX0_takeFrom_26 : decode cX0_takeFrom 26 = .ok (.aload_n 0, 1) := by decide +kernel
theorem dX0_takeFrom_27 : decode cX0_takeFrom 27 = .ok (.getfield 18, 3) := by decide +kernel
theorem dX0_takeFrom_30 : decode cX0_takeFrom 30 = .ok (.invokestatic 40, 3) := by decide +kernel
theorem dX0_takeFrom_33 : decode cX0_takeFrom 33 = .ok (.aload_n 1, 1) := by decide +kernel
theorem dX0_takeFrom_34 : decode cX0_takeFrom 34 = .ok (.getfield 21, 3) := by decide +kernel
theorem dX0_takeFrom_37 : decode cX0_takeFrom 37 = .ok (.aload_n 0, 1) := by decide +kernel
theorem dX0_takeFrom_38 : decode cX0_takeFrom 38 = .ok (.getfield 21, 3) := by decide +kernel
theorem dX0_takeFrom_41 : decode cX0_takeFrom 41 = .ok (.invokestatic 40, 3) := by decide +kernel
theorem dX0_takeFrom_44 : decode cX0_takeFrom 44 = .ok (.aload_n 1, 1) := by decide +kernel
theorem dX0_takeFrom_45 : decode cX0_takeFrom 45 = .ok (.getfield 24, 3) := by decide +kernel
theorem dX0_takeFrom_48 : decode cX0_takeFrom 48 = .ok (.aload_n 0, 1) := by decide +kernel
theorem dX0_takeFrom_49 : decode cX0_takeFrom 49 = .ok (.getfield 24, 3) := by decide +kernel
theorem dX0_takeFrom_52 : decode cX0_takeFrom 52 = .ok (.invokestatic 40, 3) := by decide +kernel
theorem dX0_takeFrom_55 : decode cX0_takeFrom 55 = .ok (.aload_n 1, 1) := by decide +kernel
theorem dX0_takeFrom_56 : decode cX0_takeFrom 56 = .ok (.getfield 27, 3) := by decide +kernel
theorem dX0_takeFrom_59 : decode cX0_takeFrom 59 = .ok (.aload_n 0, 1) := by decide +kernel
theorem dX0_takeFrom_60 : decode cX0_takeFrom 60 = .ok (.getfield 27, 3) := by decide +kernel
theorem dX0_takeFrom_63 : decode cX0_takeFrom 63 = .ok (.invokestatic 40, 3) := by decide +kernel
theorem dX0_takeFrom_66 : decode cX0_takeFrom 66 = .ok (.aload_n 0, 1) := by decide +kernel
theorem dX0_takeFrom_67 : decode cX0_takeFrom 67 = .ok (.aload_n 1, 1) := by decide +kernel
theorem dX0_takeFrom_68 : decode cX0_takeFrom 68 = .ok (.getfield 30, 3) := by decide +kernel
theorem dX0_takeFrom_71 : decode cX0_takeFrom 71 = .ok (.putfield 30, 3) := by decide +kernel
theorem dX0_takeFrom_74 : decode cX0_takeFrom 74 = .ok (.aload_n 0, 1) := by decide +kernel
theorem dX0_takeFrom_75 : decode cX0_takeFrom 75 = .ok (.aload_n 1, 1) := by decide +kernel
theorem dX0_takeFrom_76 : decode cX0_takeFrom 76 = .ok (.getfield 34, 3) := by decide +kernel
theorem dX0_takeFrom_79 : decode cX0_takeFrom 79 = .ok (.putfield 34, 3) := by decide +kernel
theorem dX0_takeFrom_82 : decode cX0_takeFrom 82 = .ok (.return_, 1) := by decide +kernel
theorem dX0_addLine_0 : decode cX0_addLine 0 = .ok (.iload_n 1, 1) := by decide +kernel
theorem dX0_addLine_1 : decode cX0_addLine 1 = .ok (.iconst 1, 1) := by decide +kernel
theorem dX0_addLine_2 : decode cX0_addLine 2 = .ok (.bipush 60, 2) := by decide +kernel
theorem dX0_addLine_4 : decode cX0_addLine 4 = .ok (.invokestatic 44, 3) := by decide +kernel
theorem dX0_addLine_7 : decode cX0_addLine 7 = .ok (.ifCond .ne 6, 3) := by decide +kernel
theorem dX0_addLine_10 : decode cX0_addLine 10 = .ok (.bipush (-2), 2) := by decide +kernel
theorem dX0_addLine_12 : decode cX0_addLine 12 = .ok (.ireturn, 1) := by decide +kernel
theorem dX0_addLine_13 : decode cX0_addLine 13 = .ok (.aload_n 0, 1) := by decide +kernel
theorem dX0_addLine_14 : decode cX0_addLine 14 = .ok (.getfield 30, 3) := by decide +kernel
theorem dX0_addLine_17 : decode cX0_addLine 17 = .ok (.bipush 6, 2) := by decide +kernel
theorem dX0_addLine_19 : decode cX0_addLine 19 = .ok (.if_icmp .lt 6, 3) := by decide +kernel
theorem dX0_addLine_22 : decode cX0_addLine 22 = .ok (.bipush (-4), 2) := by decide +kernel
theorem dX0_addLine_24 : decode cX0_addLine 24 = .ok (.ireturn, 1) := by decide +kernel
theorem dX0_addLine_25 : decode cX0_addLine 25 = .ok (.aload_n 0, 1) := by decide +kernel
theorem dX0_addLine_26 : decode cX0_addLine 26 = .ok (.getfield 9, 3) := by decide +kernel
theorem dX0_addLine_29 : decode cX0_addLine 29 = .ok (.aload_n 0, 1) := by decide +kernel
theorem dX0_addLine_30 : decode cX0_addLine 30 = .ok (.getfield 30, 3) := by decide +kernel
theorem dX0_addLine_33 : decode cX0_addLine 33 = .ok (.iconst 1, 1) := by decide +kernel
theorem dX0_addLine_34 : decode cX0_addLine 34 = .ok (.invokestatic 48, 3) := by decide +kernel
theorem dX0_addLine_37 : decode cX0_addLine 37 = .ok (.aload_n 0, 1) := by decide +kernel
theorem dX0_addLine_38 : decode cX0_addLine 38 = .ok (.getfield 15, 3) := by decide +kernel
theorem dX0_addLine_41 : decode cX0_addLine 41 = .ok (.aload_n 0, 1) := by decide +kernel
theorem dX0_addLine_42 : decode cX0_addLine 42 = .ok (.getfield 30, 3) := by decide +kernel
theorem dX0_addLine_45 : decode cX0_addLine 45 = .ok (.iconst 0, 1) := by decide +kernel
theorem dX0_addLine_46 : decode cX0_addLine 46 = .ok (.bipush 8, 2) := by decide +kernel
theorem dX0_addLine_48 : decode cX0_addLine 48 = .ok (.invokestatic 52, 3) := by decide +kernel
theorem dX0_addLine_51 : decode cX0_addLine 51 = .ok (.iload_n 1, 1) := by decide +kernel
theorem dX0_addLine_52 : decode cX0_addLine 52 = .ok (.invokestatic 48, 3) := by decide +kernel
theorem dX0_addLine_55 : decode cX0_addLine 55 = .ok (.aload_n 0, 1) := by decide +kernel
theorem dX0_addLine_56 : decode cX0_addLine 56 = .ok (.getfield 18, 3) := by decide +kernel
theorem dX0_addLine_59 : decode cX0_addLine 59 = .ok (.aload_n 0, 1) := by decide +kernel
theorem dX0_addLine_60 : decode cX0_addLine 60 = .ok (.getfield 30, 3) := by decide +kernel
theorem dX0_addLine_63 : decode cX0_addLine 63 = .ok (.iconst 0, 1) := by decide +kernel
theorem dX0_addLine_64 : decode cX0_addLine 64 = .ok (.bipush 8, 2) := by decide +kernel
theorem dX0_addLine_66 : decode cX0_addLine 66 = .ok (.invokestatic 52, 3) := by decide +kernel
theorem dX0_addLine_69 : decode cX0_addLine 69 = .ok (.iconst (-1), 1) := by decide +kernel
theorem dX0_addLine_70 : decode cX0_addLine 70 = .ok (.invokestatic 48, 3) := by decide +kernel
theorem dX0_addLine_73 : decode cX0_addLine 73 = .ok (.aload_n 0, 1) := by decide +kernel
theorem dX0_addLine_74 : decode cX0_addLine 74 = .ok (.dup, 1) := by decide +kernel
theorem dX0_addLine_75 : decode cX0_addLine 75 = .ok (.getfield 30, 3) := by decide +kernel
theorem dX0_addLine_78 : decode cX0_addLine 78 = .ok (.iconst 1, 1) := by decide +kernel
theorem dX0_addLine_79 : decode cX0_addLine 79 = .ok (.iadd, 1) := by decide +kernel
theorem dX0_addLine_80 : decode cX0_addLine 80 = .ok (.putfield 30, 3) := by decide +kernel
theorem dX0_addLine_83 : decode cX0_addLine 83 = .ok (.aload_n 0, 1) := by decide +kernel
theorem dX0_addLine_84 : decode cX0_addLine 84 = .ok (.getfield 30, 3) := by decide +kernel
theorem dX0_addLine_87 : decode cX0_addLine 87 = .ok (.iconst 1, 1) := by decide +kernel
theorem dX0_addLine_88 : decode cX0_addLine 88 = .ok (.isub, 1) := by decide +kernel
theorem dX0_addLine_89 : decode cX0_addLine 89 = .ok (.ireturn, 1) := by decide +kernel
theorem dX0_addRun_0 : decode cX0_addRun 0 = .ok (.aload_n 0, 1) := by decide +kernel
theorem dX0_addRun_1 : decode cX0_addRun 1 = .ok (.iload_n 1, 1) := by decide +kernel
theorem dX0_addRun_2 : decode cX0_addRun 2 = .ok (.invokevirtual 56, 3) := by decide +kernel
theorem dX0_addRun_5 : decode cX0_addRun 5 = .ok (.ifCond .eq 22, 3) := by decide +kernel
theorem dX0_addRun_8 : decode cX0_addRun 8 = .ok (.iload_n 2, 1) := by decide +kernel
theorem dX0_addRun_9 : decode cX0_addRun 9 = .ok (.iconst 0, 1) := by decide +kernel
theorem dX0_addRun_10 : decode cX0_addRun 10 = .ok (.iconst 1, 1) := by decide +kernel
theorem dX0_addRun_11 : decode cX0_addRun 11 = .ok (.invokestatic 44, 3) := by decide +kernel
theorem dX0_addRun_14 : decode cX0_addRun 14 = .ok (.ifCond .eq 13, 3) := by decide +kernel
theorem dX0_addRun_17 : decode cX0_addRun 17 = .ok (.iload_n 3, 1) := by decide +kernel
theorem dX0_addRun_18 : decode cX0_addRun 18 = .ok (.iconst 1, 1) := by decide +kernel
theorem dX0_addRun_19 : decode cX0_addRun 19 = .ok (.bipush 60, 2) := by decide +kernel
theorem dX0_addRun_21 : decode cX0_addRun 21 = .ok (.invokestatic 44, 3) := by decide +kernel
theorem dX0_addRun_24 : decode cX0_addRun 24 = .ok (.ifCond .ne 6, 3) := by decide +kernel
theorem dX0_addRun_27 : decode cX0_addRun 27 = .ok (.bipush (-2), 2) := by decide +kernel
theorem dX0_addRun_29 : decode cX0_addRun 29 = .ok (.ireturn, 1) := by decide +kernel
theorem dX0_addRun_30 : decode cX0_addRun 30 = .ok (.aload_n 0, 1) := by decide +kernel
theorem dX0_addRun_31 : decode cX0_addRun 31 = .ok (.iload_n 1, 1) := by decide +kernel
theorem dX0_addRun_32 : decode cX0_addRun 32 = .ok (.invokevirtual 60, 3) := by decide +kernel
theorem dX0_addRun_35 : decode cX0_addRun 35 = .ok (.istore 4, 2) := by decide +kernel
theorem dX0_addRun_37 : decode cX0_addRun 37 = .ok (.iload 4, 2) := by decide +kernel
theorem dX0_addRun_39 : decode cX0_addRun 39 = .ok (.bipush 8, 2) := by decide +kernel
theorem dX0_addRun_41 : decode cX0_addRun 41 = .ok (.if_icmp .lt 6, 3) := by decide +kernel
theorem dX0_addRun_44 : decode cX0_addRun 44 = .ok (.bipush (-4), 2) := by decide +kernel
theorem dX0_addRun_46 : decode cX0_addRun 46 = .ok (.ireturn, 1) := by decide +kernel
theorem dX0_addRun_47 : decode cX0_addRun 47 = .ok (.aload_n 0, 1) := by decide +kernel
theorem dX0_addRun_48 : decode cX0_addRun 48 = .ok (.getfield 15, 3) := by decide +kernel
theorem dX0_addRun_51 : decode cX0_addRun 51 = .ok (.iload_n 1, 1) := by decide +kernel
theorem dX0_addRun_52 : decode cX0_addRun 52 = .ok (.iload 4, 2) := by decide +kernel
theorem dX0_addRun_54 : decode cX0_addRun 54 = .ok (.bipush 8, 2) := by decide +kernel
theorem dX0_addRun_56 : decode cX0_addRun 56 = .ok (.invokestatic 52, 3) := by decide +kernel
theorem dX0_addRun_59 : decode cX0_addRun 59 = .ok (.iload_n 3, 1) := by decide +kernel
theorem dX0_addRun_60 : decode cX0_addRun 60 = .ok (.invokestatic 48, 3) := by decide +kernel
theorem dX0_addRun_63 : decode cX0_addRun 63 = .ok (.aload_n 0, 1) := by decide +kernel
theorem dX0_addRun_64 : decode cX0_addRun 64 = .ok (.getfield 18, 3) := by decide +kernel
theorem dX0_addRun_67 : decode cX0_addRun 67 = .ok (.iload_n 1, 1) := by decide +kernel
theorem dX0_addRun_68 : decode cX0_addRun 68 = .ok (.iload 4, 2) := by decide +kernel
theorem dX0_addRun_70 : decode cX0_addRun 70 = .ok (.bipush 8, 2) := by decide +kernel
theorem dX0_addRun_72 : decode cX0_addRun 72 = .ok (.invokestatic 52, 3) := by decide +kernel
theorem dX0_addRun_75 : decode cX0_addRun 75 = .ok (.iload_n 2, 1) := by decide +kernel
theorem dX0_addRun_76 : decode cX0_addRun 76 = .ok (.invokestatic 48, 3) := by decide +kernel
theorem dX0_addRun_79 : decode cX0_addRun 79 = .ok (.aload_n 0, 1) := by decide +kernel
theorem dX0_addRun_80 : decode cX0_addRun 80 = .ok (.getfield 9, 3) := by decide +kernel
theorem dX0_addRun_83 : decode cX0_addRun 83 = .ok (.iload_n 1, 1) := by decide +kernel
theorem dX0_addRun_84 : decode cX0_addRun 84 = .ok (.iload 4, 2) := by decide +kernel
theorem dX0_addRun_86 : decode cX0_addRun 86 = .ok (.iconst 1, 1) := by decide +kernel
theorem dX0_addRun_87 : decode cX0_addRun 87 = .ok (.iadd, 1) := by decide +kernel
theorem dX0_addRun_88 : decode cX0_addRun 88 = .ok (.invokestatic 48, 3) := by decide +kernel
theorem dX0_addRun_91 : decode cX0_addRun 91 = .ok (.iload 4, 2) := by decide +kernel
theorem dX0_addRun_93 : decode cX0_addRun 93 = .ok (.iconst 1, 1) := by decide +kernel
theorem dX0_addRun_94 : decode cX0_addRun 94 = .ok (.iadd, 1) := by decide +kernel
theorem dX0_addRun_95 : decode cX0_addRun 95 = .ok (.ireturn, 1) := by decide +kernel
theorem dX0_dropRun_0 : decode cX0_dropRun 0 = .ok (.aload_n 0, 1) := by decide +kernel
theorem dX0_dropRun_1 : decode cX0_dropRun 1 = .ok (.iload_n 1, 1) := by decide +kernel
theorem dX0_dropRun_2 : decode cX0_dropRun 2 = .ok (.invokevirtual 56, 3) := by decide +kernel
theorem dX0_dropRun_5 : decode cX0_dropRun 5 = .ok (.ifCond .ne 6, 3) := by decide +kernel
theorem dX0_dropRun_8 : decode cX0_dropRun 8 = .ok (.bipush (-2), 2) := by decide +kernel
theorem dX0_dropRun_10 : decode cX0_dropRun 10 = .ok (.ireturn, 1) := by decide +kernel
theorem dX0_dropRun_11 : decode cX0_dropRun 11 = .ok (.aload_n 0, 1) := by decide +kernel
theorem dX0_dropRun_12 : decode cX0_dropRun 12 = .ok (.iload_n 1, 1) := by decide +kernel
theorem dX0_dropRun_13 : decode cX0_dropRun 13 = .ok (.invokevirtual 60, 3) := by decide +kernel
theorem dX0_dropRun_16 : decode cX0_dropRun 16 = .ok (.iconst 1, 1) := by decide +kernel
theorem dX0_dropRun_17 : decode cX0_dropRun 17 = .ok (.isub, 1) := by decide +kernel
theorem dX0_dropRun_18 : decode cX0_dropRun 18 = .ok (.istore_n 2, 1) := by decide +kernel
theorem dX0_dropRun_19 : decode cX0_dropRun 19 = .ok (.iload_n 2, 1) := by decide +kernel
theorem dX0_dropRun_20 : decode cX0_dropRun 20 = .ok (.iconst 1, 1) := by decide +kernel
theorem dX0_dropRun_21 : decode cX0_dropRun 21 = .ok (.if_icmp .ge 6, 3) := by decide +kernel
theorem dX0_dropRun_24 : decode cX0_dropRun 24 = .ok (.bipush (-3), 2) := by decide +kernel
theorem dX0_dropRun_26 : decode cX0_dropRun 26 = .ok (.ireturn, 1) := by decide +kernel
theorem dX0_dropRun_27 : decode cX0_dropRun 27 = .ok (.aload_n 0, 1) := by decide +kernel
theorem dX0_dropRun_28 : decode cX0_dropRun 28 = .ok (.getfield 9, 3) := by decide +kernel
theorem dX0_dropRun_31 : decode cX0_dropRun 31 = .ok (.iload_n 1, 1) := by decide +kernel
theorem dX0_dropRun_32 : decode cX0_dropRun 32 = .ok (.iload_n 2, 1) := by decide +kernel
theorem dX0_dropRun_33 : decode cX0_dropRun 33 = .ok (.invokestatic 48, 3) := by decide +kernel
theorem dX0_dropRun_36 : decode cX0_dropRun 36 = .ok (.iload_n 2, 1) := by decide +kernel
theorem dX0_dropRun_37 : decode cX0_dropRun 37 = .ok (.ireturn, 1) := by decide +kernel
theorem dX0_addPocket_0 : decode cX0_addPocket 0 = .ok (.iload_n 1, 1) := by decide +kernel
theorem dX0_addPocket_1 : decode cX0_addPocket 1 = .ok (.iconst 1, 1) := by decide +kernel
theorem dX0_addPocket_2 : decode cX0_addPocket 2 = .ok (.bipush 60, 2) := by decide +kernel
theorem dX0_addPocket_4 : decode cX0_addPocket 4 = .ok (.invokestatic 44, 3) := by decide +kernel
theorem dX0_addPocket_7 : decode cX0_addPocket 7 = .ok (.ifCond .eq 13, 3) := by decide +kernel
theorem dX0_addPocket_10 : decode cX0_addPocket 10 = .ok (.iload_n 2, 1) := by decide +kernel
theorem dX0_addPocket_11 : decode cX0_addPocket 11 = .ok (.iconst 0, 1) := by decide +kernel
theorem dX0_addPocket_12 : decode cX0_addPocket 12 = .ok (.bipush 63, 2) := by decide +kernel
theorem dX0_addPocket_14 : decode cX0_addPocket 14 = .ok (.invokestatic 44, 3) := by decide +kernel
theorem dX0_addPocket_17 : decode cX0_addPocket 17 = .ok (.ifCond .ne 6, 3) := by decide +kernel
theorem dX0_addPocket_20 : decode cX0_addPocket 20 = .ok (.bipush (-2), 2) := by decide +kernel
theorem dX0_addPocket_22 : decode cX0_addPocket 22 = .ok (.ireturn, 1) := by decide +kernel
theorem dX0_addPocket_23 : decode cX0_addPocket 23 = .ok (.aload_n 0, 1) := by decide +kernel
theorem dX0_addPocket_24 : decode cX0_addPocket 24 = .ok (.getfield 34, 3) := by decide +kernel
theorem dX0_addPocket_27 : decode cX0_addPocket 27 = .ok (.bipush 6, 2) := by decide +kernel
theorem dX0_addPocket_29 : decode cX0_addPocket 29 = .ok (.if_icmp .lt 6, 3) := by decide +kernel
theorem dX0_addPocket_32 : decode cX0_addPocket 32 = .ok (.bipush (-4), 2) := by decide +kernel
theorem dX0_addPocket_34 : decode cX0_addPocket 34 = .ok (.ireturn, 1) := by decide +kernel
theorem dX0_addPocket_35 : decode cX0_addPocket 35 = .ok (.aload_n 0, 1) := by decide +kernel
theorem dX0_addPocket_36 : decode cX0_addPocket 36 = .ok (.getfield 21, 3) := by decide +kernel
theorem dX0_addPocket_39 : decode cX0_addPocket 39 = .ok (.aload_n 0, 1) := by decide +kernel
theorem dX0_addPocket_40 : decode cX0_addPocket 40 = .ok (.getfield 34, 3) := by decide +kernel
theorem dX0_addPocket_43 : decode cX0_addPocket 43 = .ok (.iload_n 1, 1) := by decide +kernel
theorem dX0_addPocket_44 : decode cX0_addPocket 44 = .ok (.invokestatic 48, 3) := by decide +kernel
theorem dX0_addPocket_47 : decode cX0_addPocket 47 = .ok (.aload_n 0, 1) := by decide +kernel
theorem dX0_addPocket_48 : decode cX0_addPocket 48 = .ok (.getfield 24, 3) := by decide +kernel
theorem dX0_addPocket_51 : decode cX0_addPocket 51 = .ok (.aload_n 0, 1) := by decide +kernel
theorem dX0_addPocket_52 : decode cX0_addPocket 52 = .ok (.getfield 34, 3) := by decide +kernel
theorem dX0_addPocket_55 : decode cX0_addPocket 55 = .ok (.iload_n 2, 1) := by decide +kernel
theorem dX0_addPocket_56 : decode cX0_addPocket 56 = .ok (.invokestatic 48, 3) := by decide +kernel
theorem dX0_addPocket_59 : decode cX0_addPocket 59 = .ok (.aload_n 0, 1) := by decide +kernel
theorem dX0_addPocket_60 : decode cX0_addPocket 60 = .ok (.dup, 1) := by decide +kernel
theorem dX0_addPocket_61 : decode cX0_addPocket 61 = .ok (.getfield 34, 3) := by decide +kernel
theorem dX0_addPocket_64 : decode cX0_addPocket 64 = .ok (.iconst 1, 1) := by decide +kernel
theorem dX0_addPocket_65 : decode cX0_addPocket 65 = .ok (.iadd, 1) := by decide +kernel
theorem dX0_addPocket_66 : decode cX0_addPocket 66 = .ok (.putfield 34, 3) := by decide +kernel
theorem dX0_addPocket_69 : decode cX0_addPocket 69 = .ok (.aload_n 0, 1) := by decide +kernel
theorem dX0_addPocket_70 : decode cX0_addPocket 70 = .ok (.getfield 34, 3) := by decide +kernel
theorem dX0_addPocket_73 : decode cX0_addPocket 73 = .ok (.iconst 1, 1) := by decide +kernel
theorem dX0_addPocket_74 : decode cX0_addPocket 74 = .ok (.isub, 1) := by decide +kernel
theorem dX0_addPocket_75 : decode cX0_addPocket 75 = .ok (.ireturn, 1) := by decide +kernel
theorem dX0_changeWide_0 : decode cX0_changeWide 0 = .ok (.aload_n 0, 1) := by decide +kernel
theorem dX0_changeWide_1 : decode cX0_changeWide 1 = .ok (.iload_n 1, 1) := by decide +kernel
theorem dX0_changeWide_2 : decode cX0_changeWide 2 = .ok (.invokevirtual 64, 3) := by decide +kernel
theorem dX0_changeWide_5 : decode cX0_changeWide 5 = .ok (.ifCond .eq 13, 3) := by decide +kernel
theorem dX0_changeWide_8 : decode cX0_changeWide 8 = .ok (.iload_n 2, 1) := by decide +kernel
theorem dX0_changeWide_9 : decode cX0_changeWide 9 = .ok (.iconst 1, 1) := by decide +kernel
theorem dX0_changeWide_10 : decode cX0_changeWide 10 = .ok (.bipush 60, 2) := by decide +kernel
theorem dX0_changeWide_12 : decode cX0_changeWide 12 = .ok (.invokestatic 44, 3) := by decide +kernel
theorem dX0_changeWide_15 : decode cX0_changeWide 15 = .ok (.ifCond .ne 6, 3) := by decide +kernel
theorem dX0_changeWide_18 : decode cX0_changeWide 18 = .ok (.bipush (-2), 2) := by decide +kernel
theorem dX0_changeWide_20 : decode cX0_changeWide 20 = .ok (.ireturn, 1) := by decide +kernel
theorem dX0_changeWide_21 : decode cX0_changeWide 21 = .ok (.aload_n 0, 1) := by decide +kernel
theorem dX0_changeWide_22 : decode cX0_changeWide 22 = .ok (.iload_n 1, 1) := by decide +kernel
theorem dX0_changeWide_23 : decode cX0_changeWide 23 = .ok (.invokevirtual 67, 3) := by decide +kernel
theorem dX0_changeWide_26 : decode cX0_changeWide 26 = .ok (.istore_n 3, 1) := by decide +kernel
theorem dX0_changeWide_27 : decode cX0_changeWide 27 = .ok (.aload_n 0, 1) := by decide +kernel
theorem dX0_changeWide_28 : decode cX0_changeWide 28 = .ok (.getfield 21, 3) := by decide +kernel
theorem dX0_changeWide_31 : decode cX0_changeWide 31 = .ok (.iload_n 1, 1) := by decide +kernel
theorem dX0_changeWide_32 : decode cX0_changeWide 32 = .ok (.iload_n 2, 1) := by decide +kernel
theorem dX0_changeWide_33 : decode cX0_changeWide 33 = .ok (.invokestatic 48, 3) := by decide +kernel
theorem dX0_changeWide_36 : decode cX0_changeWide 36 = .ok (.iload_n 3, 1) := by decide +kernel
theorem dX0_changeWide_37 : decode cX0_changeWide 37 = .ok (.ireturn, 1) := by decide +kernel
theorem dX0_changeTouch_0 : decode cX0_changeTouch 0 = .ok (.aload_n 0, 1) := by decide +kernel
theorem dX0_changeTouch_1 : decode cX0_changeTouch 1 = .ok (.iload_n 1, 1) := by decide +kernel
theorem dX0_changeTouch_2 : decode cX0_changeTouch 2 = .ok (.invokevirtual 64, 3) := by decide +kernel
theorem dX0_changeTouch_5 : decode cX0_changeTouch 5 = .ok (.ifCond .eq 13, 3) := by decide +kernel
theorem dX0_changeTouch_8 : decode cX0_changeTouch 8 = .ok (.iload_n 2, 1) := by decide +kernel
theorem dX0_changeTouch_9 : decode cX0_changeTouch 9 = .ok (.iconst 0, 1) := by decide +kernel
theorem dX0_changeTouch_10 : decode cX0_changeTouch 10 = .ok (.bipush 63, 2) := by decide +kernel
theorem dX0_changeTouch_12 : decode cX0_changeTouch 12 = .ok (.invokestatic 44, 3) := by decide +kernel
theorem dX0_changeTouch_15 : decode cX0_changeTouch 15 = .ok (.ifCond .ne 6, 3) := by decide +kernel
theorem dX0_changeTouch_18 : decode cX0_changeTouch 18 = .ok (.bipush (-2), 2) := by decide +kernel
theorem dX0_changeTouch_20 : decode cX0_changeTouch 20 = .ok (.ireturn, 1) := by decide +kernel
theorem dX0_changeTouch_21 : decode cX0_changeTouch 21 = .ok (.aload_n 0, 1) := by decide +kernel
theorem dX0_changeTouch_22 : decode cX0_changeTouch 22 = .ok (.getfield 24, 3) := by decide +kernel
theorem dX0_changeTouch_25 : decode cX0_changeTouch 25 = .ok (.iload_n 1, 1) := by decide +kernel
theorem dX0_changeTouch_26 : decode cX0_changeTouch 26 = .ok (.invokestatic 70, 3) := by decide +kernel
theorem dX0_changeTouch_29 : decode cX0_changeTouch 29 = .ok (.istore_n 3, 1) := by decide +kernel
theorem dX0_changeTouch_30 : decode cX0_changeTouch 30 = .ok (.aload_n 0, 1) := by decide +kernel
theorem dX0_changeTouch_31 : decode cX0_changeTouch 31 = .ok (.getfield 24, 3) := by decide +kernel
theorem dX0_changeTouch_34 : decode cX0_changeTouch 34 = .ok (.iload_n 1, 1) := by decide +kernel
theorem dX0_changeTouch_35 : decode cX0_changeTouch 35 = .ok (.iload_n 2, 1) := by decide +kernel
theorem dX0_changeTouch_36 : decode cX0_changeTouch 36 = .ok (.invokestatic 48, 3) := by decide +kernel
theorem dX0_changeTouch_39 : decode cX0_changeTouch 39 = .ok (.iload_n 3, 1) := by decide +kernel
theorem dX0_changeTouch_40 : decode cX0_changeTouch 40 = .ok (.ireturn, 1) := by decide +kernel
theorem dX0_changeSetting_0 : decode cX0_changeSetting 0 = .ok (.iload_n 1, 1) := by decide +kernel
theorem dX0_changeSetting_1 : decode cX0_changeSetting 1 = .ok (.iconst 0, 1) := by decide +kernel
theorem dX0_changeSetting_2 : decode cX0_changeSetting 2 = .ok (.bipush 6, 2) := by decide +kernel
theorem dX0_changeSetting_4 : decode cX0_changeSetting 4 = .ok (.invokestatic 44, 3) := by decide +kernel
theorem dX0_changeSetting_7 : decode cX0_changeSetting 7 = .ok (.ifCond .eq 24, 3) := by decide +kernel
theorem dX0_changeSetting_10 : decode cX0_changeSetting 10 = .ok (.iload_n 2, 1) := by decide +kernel
theorem dX0_changeSetting_11 : decode cX0_changeSetting 11 = .ok (.getstatic 74, 3) := by decide +kernel
theorem dX0_changeSetting_14 : decode cX0_changeSetting 14 = .ok (.iload_n 1, 1) := by decide +kernel
theorem dX0_changeSetting_15 : decode cX0_changeSetting 15 = .ok (.invokestatic 70, 3) := by decide +kernel
theorem dX0_changeSetting_18 : decode cX0_changeSetting 18 = .ok (.getstatic 77, 3) := by decide +kernel
theorem dX0_changeSetting_21 : decode cX0_changeSetting 21 = .ok (.iload_n 1, 1) := by decide +kernel
theorem dX0_changeSetting_22 : decode cX0_changeSetting 22 = .ok (.invokestatic 70, 3) := by decide +kernel
theorem dX0_changeSetting_25 : decode cX0_changeSetting 25 = .ok (.invokestatic 44, 3) := by decide +kernel
theorem dX0_changeSetting_28 : decode cX0_changeSetting 28 = .ok (.ifCond .ne 6, 3) := by decide +kernel
theorem dX0_changeSetting_31 : decode cX0_changeSetting 31 = .ok (.bipush (-2), 2) := by decide +kernel
theorem dX0_changeSetting_33 : decode cX0_changeSetting 33 = .ok (.ireturn, 1) := by decide +kernel
theorem dX0_changeSetting_34 : decode cX0_changeSetting 34 = .ok (.aload_n 0, 1) := by decide +kernel
theorem dX0_changeSetting_35 : decode cX0_changeSetting 35 = .ok (.getfield 27, 3) := by decide +kernel
theorem dX0_changeSetting_38 : decode cX0_changeSetting 38 = .ok (.iload_n 1, 1) := by decide +kernel
theorem dX0_changeSetting_39 : decode cX0_changeSetting 39 = .ok (.invokestatic 70, 3) := by decide +kernel
theorem dX0_changeSetting_42 : decode cX0_changeSetting 42 = .ok (.istore_n 3, 1) := by decide +kernel
theorem dX0_changeSetting_43 : decode cX0_changeSetting 43 = .ok (.aload_n 0, 1) := by decide +kernel
theorem dX0_changeSetting_44 : decode cX0_changeSetting 44 = .ok (.getfield 27, 3) := by decide +kernel
theorem dX0_changeSetting_47 : decode cX0_changeSetting 47 = .ok (.iload_n 1, 1) := by decide +kernel
theorem dX0_changeSetting_48 : decode cX0_changeSetting 48 = .ok (.iload_n 2, 1) := by decide +kernel
theorem dX0_changeSetting_49 : decode cX0_changeSetting 49 = .ok (.invokestatic 48, 3) := by decide +kernel
theorem dX0_changeSetting_52 : decode cX0_changeSetting 52 = .ok (.iload_n 3, 1) := by decide +kernel
theorem dX0_changeSetting_53 : decode cX0_changeSetting 53 = .ok (.ireturn, 1) := by decide +kernel
theorem dX0_hasLine_0 : decode cX0_hasLine 0 = .ok (.iload_n 1, 1) := by decide +kernel
theorem dX0_hasLine_1 : decode cX0_hasLine 1 = .ok (.ifCond .lt 15, 3) := by decide +kernel
theorem dX0_hasLine_4 : decode cX0_hasLine 4 = .ok (.iload_n 1, 1) := by decide +kernel
theorem dX0_hasLine_5 : decode cX0_hasLine 5 = .ok (.aload_n 0, 1) := by decide +kernel
theorem dX0_hasLine_6 : decode cX0_hasLine 6 = .ok (.getfield 30, 3) := by decide +kernel
theorem dX0_hasLine_9 : decode cX0_hasLine 9 = .ok (.if_icmp .ge 7, 3) := by decide +kernel
theorem dX0_hasLine_12 : decode cX0_hasLine 12 = .ok (.iconst 1, 1) := by decide +kernel
theorem dX0_hasLine_13 : decode cX0_hasLine 13 = .ok (.goto 4, 3) := by decide +kernel
theorem dX0_hasLine_16 : decode cX0_hasLine 16 = .ok (.iconst 0, 1) := by decide +kernel
theorem dX0_hasLine_17 : decode cX0_hasLine 17 = .ok (.ireturn, 1) := by decide +kernel
theorem dX0_hasRun_0 : decode cX0_hasRun 0 = .ok (.aload_n 0, 1) := by decide +kernel
theorem dX0_hasRun_1 : decode cX0_hasRun 1 = .ok (.iload_n 1, 1) := by decide +kernel
theorem dX0_hasRun_2 : decode cX0_hasRun 2 = .ok (.invokevirtual 56, 3) := by decide +kernel
theorem dX0_hasRun_5 : decode cX0_hasRun 5 = .ok (.ifCond .eq 20, 3) := by decide +kernel
theorem dX0_hasRun_8 : decode cX0_hasRun 8 = .ok (.iload_n 2, 1) := by decide +kernel
theorem dX0_hasRun_9 : decode cX0_hasRun 9 = .ok (.ifCond .lt 16, 3) := by decide +kernel
theorem dX0_hasRun_12 : decode cX0_hasRun 12 = .ok (.iload_n 2, 1) := by decide +kernel
theorem dX0_hasRun_13 : decode cX0_hasRun 13 = .ok (.aload_n 0, 1) := by decide +kernel
theorem dX0_hasRun_14 : decode cX0_hasRun 14 = .ok (.iload_n 1, 1) := by decide +kernel
theorem dX0_hasRun_15 : decode cX0_hasRun 15 = .ok (.invokevirtual 60, 3) := by decide +kernel
theorem dX0_hasRun_18 : decode cX0_hasRun 18 = .ok (.if_icmp .ge 7, 3) := by decide +kernel
theorem dX0_hasRun_21 : decode cX0_hasRun 21 = .ok (.iconst 1, 1) := by decide +kernel
theorem dX0_hasRun_22 : decode cX0_hasRun 22 = .ok (.goto 4, 3) := by decide +kernel
theorem dX0_hasRun_25 : decode cX0_hasRun 25 = .ok (.iconst 0, 1) := by decide +kernel
theorem dX0_hasRun_26 : decode cX0_hasRun 26 = .ok (.ireturn, 1) := by decide +kernel
theorem dX0_hasPocket_0 : decode cX0_hasPocket 0 = .ok (.iload_n 1, 1) := by decide +kernel
theorem dX0_hasPocket_1 : decode cX0_hasPocket 1 = .ok (.ifCond .lt 15, 3) := by decide +kernel
theorem dX0_hasPocket_4 : decode cX0_hasPocket 4 = .ok (.iload_n 1, 1) := by decide +kernel
theorem dX0_hasPocket_5 : decode cX0_hasPocket 5 = .ok (.aload_n 0, 1) := by decide +kernel
theorem dX0_hasPocket_6 : decode cX0_hasPocket 6 = .ok (.getfield 34, 3) := by decide +kernel
theorem dX0_hasPocket_9 : decode cX0_hasPocket 9 = .ok (.if_icmp .ge 7, 3) := by decide +kernel
theorem dX0_hasPocket_12 : decode cX0_hasPocket 12 = .ok (.iconst 1, 1) := by decide +kernel
theorem dX0_hasPocket_13 : decode cX0_hasPocket 13 = .ok (.goto 4, 3) := by decide +kernel
theorem dX0_hasPocket_16 : decode cX0_hasPocket 16 = .ok (.iconst 0, 1) := by decide +kernel
theorem dX0_hasPocket_17 : decode cX0_hasPocket 17 = .ok (.ireturn, 1) := by decide +kernel
theorem dX0_lineCount_0 : decode cX0_lineCount 0 = .ok (.aload_n 0, 1) := by decide +kernel
theorem dX0_lineCount_1 : decode cX0_lineCount 1 = .ok (.getfield 30, 3) := by decide +kernel
theorem dX0_lineCount_4 : decode cX0_lineCount 4 = .ok (.ireturn, 1) := by decide +kernel
theorem dX0_pocketCount_0 : decode cX0_pocketCount 0 = .ok (.aload_n 0, 1) := by decide +kernel
theorem dX0_pocketCount_1 : decode cX0_pocketCount 1 = .ok (.getfield 34, 3) := by decide +kernel
theorem dX0_pocketCount_4 : decode cX0_pocketCount 4 = .ok (.ireturn, 1) := by decide +kernel
theorem dX0_settingAt_0 : decode cX0_settingAt 0 = .ok (.aload_n 0, 1) := by decide +kernel
theorem dX0_settingAt_1 : decode cX0_settingAt 1 = .ok (.getfield 27, 3) := by decide +kernel
theorem dX0_settingAt_4 : decode cX0_settingAt 4 = .ok (.iload_n 1, 1) := by decide +kernel
theorem dX0_settingAt_5 : decode cX0_settingAt 5 = .ok (.invokestatic 70, 3) := by decide +kernel
theorem dX0_settingAt_8 : decode cX0_settingAt 8 = .ok (.ireturn, 1) := by decide +kernel
theorem dX0_runsOf_0 : decode cX0_runsOf 0 = .ok (.aload_n 0, 1) := by decide +kernel
theorem dX0_runsOf_1 : decode cX0_runsOf 1 = .ok (.getfield 9, 3) := by decide +kernel
theorem dX0_runsOf_4 : decode cX0_runsOf 4 = .ok (.iload_n 1, 1) := by decide +kernel
theorem dX0_runsOf_5 : decode cX0_runsOf 5 = .ok (.invokestatic 70, 3) := by decide +kernel
theorem dX0_runsOf_8 : decode cX0_runsOf 8 = .ok (.ireturn, 1) := by decide +kernel
theorem dX0_longOf_0 : decode cX0_longOf 0 = .ok (.aload_n 0, 1) := by decide +kernel
theorem dX0_longOf_1 : decode cX0_longOf 1 = .ok (.getfield 15, 3) := by decide +kernel
theorem dX0_longOf_4 : decode cX0_longOf 4 = .ok (.iload_n 1, 1) := by decide +kernel
theorem dX0_longOf_5 : decode cX0_longOf 5 = .ok (.iload_n 2, 1) := by decide +kernel
theorem dX0_longOf_6 : decode cX0_longOf 6 = .ok (.bipush 8, 2) := by decide +kernel
theorem dX0_longOf_8 : decode cX0_longOf 8 = .ok (.invokestatic 52, 3) := by decide +kernel
theorem dX0_longOf_11 : decode cX0_longOf 11 = .ok (.invokestatic 70, 3) := by decide +kernel
theorem dX0_longOf_14 : decode cX0_longOf 14 = .ok (.ireturn, 1) := by decide +kernel
theorem dX0_turnAhead_0 : decode cX0_turnAhead 0 = .ok (.aload_n 0, 1) := by decide +kernel
theorem dX0_turnAhead_1 : decode cX0_turnAhead 1 = .ok (.getfield 18, 3) := by decide +kernel
theorem dX0_turnAhead_4 : decode cX0_turnAhead 4 = .ok (.iload_n 1, 1) := by decide +kernel
theorem dX0_turnAhead_5 : decode cX0_turnAhead 5 = .ok (.iload_n 2, 1) := by decide +kernel
theorem dX0_turnAhead_6 : decode cX0_turnAhead 6 = .ok (.bipush 8, 2) := by decide +kernel
theorem dX0_turnAhead_8 : decode cX0_turnAhead 8 = .ok (.invokestatic 52, 3) := by decide +kernel
theorem dX0_turnAhead_11 : decode cX0_turnAhead 11 = .ok (.invokestatic 70, 3) := by decide +kernel
theorem dX0_turnAhead_14 : decode cX0_turnAhead 14 = .ok (.ireturn, 1) := by decide +kernel
theorem dX0_bumpRoom_0 : decode cX0_bumpRoom 0 = .ok (.aload_n 0, 1) := by decide +kernel
theorem dX0_bumpRoom_1 : decode cX0_bumpRoom 1 = .ok (.getfield 27, 3) := by decide +kernel
theorem dX0_bumpRoom_4 : decode cX0_bumpRoom 4 = .ok (.bipush 6, 2) := by decide +kernel
theorem dX0_bumpRoom_6 : decode cX0_bumpRoom 6 = .ok (.invokestatic 70, 3) := by decide +kernel
theorem dX0_bumpRoom_9 : decode cX0_bumpRoom 9 = .ok (.istore_n 3, 1) := by decide +kernel
theorem dX0_bumpRoom_10 : decode cX0_bumpRoom 10 = .ok (.iload_n 3, 1) := by decide +kernel
theorem dX0_bumpRoom_11 : decode cX0_bumpRoom 11 = .ok (.iconst 1, 1) := by decide +kernel
theorem dX0_bumpRoom_12 : decode cX0_bumpRoom 12 = .ok (.if_icmp .ge 7, 3) := by decide +kernel
theorem dX0_bumpRoom_15 : decode cX0_bumpRoom 15 = .ok (.iconst 0, 1) := by decide +kernel
theorem dX0_bumpRoom_16 : decode cX0_bumpRoom 16 = .ok (.goto 11, 3) := by decide +kernel
theorem dX0_bumpRoom_19 : decode cX0_bumpRoom 19 = .ok (.aload_n 0, 1) := by decide +kernel
theorem dX0_bumpRoom_20 : decode cX0_bumpRoom 20 = .ok (.iload_n 1, 1) := by decide +kernel
theorem dX0_bumpRoom_21 : decode cX0_bumpRoom 21 = .ok (.iload_n 2, 1) := by decide +kernel
theorem dX0_bumpRoom_22 : decode cX0_bumpRoom 22 = .ok (.invokevirtual 80, 3) := by decide +kernel
theorem dX0_bumpRoom_25 : decode cX0_bumpRoom 25 = .ok (.iload_n 3, 1) := by decide +kernel
theorem dX0_bumpRoom_26 : decode cX0_bumpRoom 26 = .ok (.idiv, 1) := by decide +kernel
theorem dX0_bumpRoom_27 : decode cX0_bumpRoom 27 = .ok (.ireturn, 1) := by decide +kernel
theorem dX0_turnsOf_0 : decode cX0_turnsOf 0 = .ok (.iconst 0, 1) := by decide +kernel
theorem dX0_turnsOf_1 : decode cX0_turnsOf 1 = .ok (.istore_n 3, 1) := by decide +kernel
theorem dX0_turnsOf_2 : decode cX0_turnsOf 2 = .ok (.iconst 1, 1) := by decide +kernel
theorem dX0_turnsOf_3 : decode cX0_turnsOf 3 = .ok (.istore 4, 2) := by decide +kernel
theorem dX0_turnsOf_5 : decode cX0_turnsOf 5 = .ok (.iload 4, 2) := by decide +kernel
theorem dX0_turnsOf_7 : decode cX0_turnsOf 7 = .ok (.aload_n 0, 1) := by decide +kernel
theorem dX0_turnsOf_8 : decode cX0_turnsOf 8 = .ok (.iload_n 1, 1) := by decide +kernel
theorem dX0_turnsOf_9 : decode cX0_turnsOf 9 = .ok (.invokevirtual 60, 3) := by decide +kernel
theorem dX0_turnsOf_12 : decode cX0_turnsOf 12 = .ok (.if_icmp .ge 23, 3) := by decide +kernel
theorem dX0_turnsOf_15 : decode cX0_turnsOf 15 = .ok (.aload_n 0, 1) := by decide +kernel
theorem dX0_turnsOf_16 : decode cX0_turnsOf 16 = .ok (.iload_n 1, 1) := by decide +kernel
theorem dX0_turnsOf_17 : decode cX0_turnsOf 17 = .ok (.iload 4, 2) := by decide +kernel
theorem dX0_turnsOf_19 : decode cX0_turnsOf 19 = .ok (.invokevirtual 84, 3) := by decide +kernel
theorem dX0_turnsOf_22 : decode cX0_turnsOf 22 = .ok (.iload_n 2, 1) := by decide +kernel
theorem dX0_turnsOf_23 : decode cX0_turnsOf 23 = .ok (.if_icmp .ne 6, 3) := by decide +kernel
theorem dX0_turnsOf_26 : decode cX0_turnsOf 26 = .ok (.iinc 3 1, 3) := by decide +kernel
theorem dX0_turnsOf_29 : decode cX0_turnsOf 29 = .ok (.iinc 4 1, 3) := by decide +kernel
theorem dX0_turnsOf_32 : decode cX0_turnsOf 32 = .ok (.goto (-27), 3) := by decide +kernel
theorem dX0_turnsOf_35 : decode cX0_turnsOf 35 = .ok (.iload_n 3, 1) := by decide +kernel
theorem dX0_turnsOf_36 : decode cX0_turnsOf 36 = .ok (.ireturn, 1) := by decide +kernel
theorem dX0_plainSkew_0 : decode cX0_plainSkew 0 = .ok (.iconst 0, 1) := by decide +kernel
theorem dX0_plainSkew_1 : decode cX0_plainSkew 1 = .ok (.istore_n 3, 1) := by decide +kernel
theorem dX0_plainSkew_2 : decode cX0_plainSkew 2 = .ok (.iconst 1, 1) := by decide +kernel
theorem dX0_plainSkew_3 : decode cX0_plainSkew 3 = .ok (.istore 4, 2) := by decide +kernel
theorem dX0_plainSkew_5 : decode cX0_plainSkew 5 = .ok (.iload 4, 2) := by decide +kernel
theorem dX0_plainSkew_7 : decode cX0_plainSkew 7 = .ok (.iload_n 2, 1) := by decide +kernel
theorem dX0_plainSkew_8 : decode cX0_plainSkew 8 = .ok (.if_icmp .gt 39, 3) := by decide +kernel
theorem dX0_plainSkew_11 : decode cX0_plainSkew 11 = .ok (.iload 4, 2) := by decide +kernel
theorem dX0_plainSkew_13 : decode cX0_plainSkew 13 = .ok (.aload_n 0, 1) := by decide +kernel
theorem dX0_plainSkew_14 : decode cX0_plainSkew 14 = .ok (.iload_n 1, 1) := by decide +kernel
theorem dX0_plainSkew_15 : decode cX0_plainSkew 15 = .ok (.invokevirtual 60, 3) := by decide +kernel
theorem dX0_plainSkew_18 : decode cX0_plainSkew 18 = .ok (.if_icmp .ge 29, 3) := by decide +kernel
theorem dX0_plainSkew_21 : decode cX0_plainSkew 21 = .ok (.iload_n 3, 1) := by decide +kernel
theorem dX0_plainSkew_22 : decode cX0_plainSkew 22 = .ok (.aload_n 0, 1) := by decide +kernel
theorem dX0_plainSkew_23 : decode cX0_plainSkew 23 = .ok (.iload_n 1, 1) := by decide +kernel
theorem dX0_plainSkew_24 : decode cX0_plainSkew 24 = .ok (.iload 4, 2) := by decide +kernel
theorem dX0_plainSkew_26 : decode cX0_plainSkew 26 = .ok (.invokevirtual 84, 3) := by decide +kernel
theorem dX0_plainSkew_29 : decode cX0_plainSkew 29 = .ok (.iconst 1, 1) := by decide +kernel
theorem dX0_plainSkew_30 : decode cX0_plainSkew 30 = .ok (.if_icmp .ne 7, 3) := by decide +kernel
theorem dX0_plainSkew_33 : decode cX0_plainSkew 33 = .ok (.iconst 2, 1) := by decide +kernel
theorem dX0_plainSkew_34 : decode cX0_plainSkew 34 = .ok (.goto 5, 3) := by decide +kernel
theorem dX0_plainSkew_37 : decode cX0_plainSkew 37 = .ok (.bipush (-2), 2) := by decide +kernel
theorem dX0_plainSkew_39 : decode cX0_plainSkew 39 = .ok (.iadd, 1) := by decide +kernel
theorem dX0_plainSkew_40 : decode cX0_plainSkew 40 = .ok (.istore_n 3, 1) := by decide +kernel
theorem dX0_plainSkew_41 : decode cX0_plainSkew 41 = .ok (.iinc 4 1, 3) := by decide +kernel
theorem dX0_plainSkew_44 : decode cX0_plainSkew 44 = .ok (.goto (-39), 3) := by decide +kernel
theorem dX0_plainSkew_47 : decode cX0_plainSkew 47 = .ok (.iload_n 3, 1) := by decide +kernel
theorem dX0_plainSkew_48 : decode cX0_plainSkew 48 = .ok (.ireturn, 1) := by decide +kernel
theorem dX0_baseOf_0 : decode cX0_baseOf 0 = .ok (.iconst 0, 1) := by decide +kernel
theorem dX0_baseOf_1 : decode cX0_baseOf 1 = .ok (.istore_n 2, 1) := by decide +kernel
theorem dX0_baseOf_2 : decode cX0_baseOf 2 = .ok (.iconst 0, 1) := by decide +kernel
theorem dX0_baseOf_3 : decode cX0_baseOf 3 = .ok (.istore_n 3, 1) := by decide +kernel
theorem dX0_baseOf_4 : decode cX0_baseOf 4 = .ok (.iload_n 3, 1) := by decide +kernel
theorem dX0_baseOf_5 : decode cX0_baseOf 5 = .ok (.aload_n 0, 1) := by decide +kernel
theorem dX0_baseOf_6 : decode cX0_baseOf 6 = .ok (.iload_n 1, 1) := by decide +kernel
theorem dX0_baseOf_7 : decode cX0_baseOf 7 = .ok (.invokevirtual 60, 3) := by decide +kernel
theorem dX0_baseOf_10 : decode cX0_baseOf 10 = .ok (.if_icmp .ge 18, 3) := by decide +kernel
theorem dX0_baseOf_13 : decode cX0_baseOf 13 = .ok (.iload_n 2, 1) := by decide +kernel
theorem dX0_baseOf_14 : decode cX0_baseOf 14 = .ok (.aload_n 0, 1) := by decide +kernel
theorem dX0_baseOf_15 : decode cX0_baseOf 15 = .ok (.iload_n 1, 1) := by decide +kernel
theorem dX0_baseOf_16 : decode cX0_baseOf 16 = .ok (.iload_n 3, 1) := by decide +kernel
theorem dX0_baseOf_17 : decode cX0_baseOf 17 = .ok (.invokevirtual 80, 3) := by decide +kernel
theorem dX0_baseOf_20 : decode cX0_baseOf 20 = .ok (.iadd, 1) := by decide +kernel
theorem dX0_baseOf_21 : decode cX0_baseOf 21 = .ok (.istore_n 2, 1) := by decide +kernel
theorem dX0_baseOf_22 : decode cX0_baseOf 22 = .ok (.iinc 3 1, 3) := by decide +kernel
theorem dX0_baseOf_25 : decode cX0_baseOf 25 = .ok (.goto (-21), 3) := by decide +kernel
theorem dX0_baseOf_28 : decode cX0_baseOf 28 = .ok (.iconst 0, 1) := by decide +kernel
theorem dX0_baseOf_29 : decode cX0_baseOf 29 = .ok (.iload_n 2, 1) := by decide +kernel
theorem dX0_baseOf_30 : decode cX0_baseOf 30 = .ok (.aload_n 0, 1) := by decide +kernel
theorem dX0_baseOf_31 : decode cX0_baseOf 31 = .ok (.getfield 27, 3) := by decide +kernel
theorem dX0_baseOf_34 : decode cX0_baseOf 34 = .ok (.iconst 2, 1) := by decide +kernel
theorem dX0_baseOf_35 : decode cX0_baseOf 35 = .ok (.invokestatic 70, 3) := by decide +kernel
theorem dX0_baseOf_38 : decode cX0_baseOf 38 = .ok (.aload_n 0, 1) := by decide +kernel
theorem dX0_baseOf_39 : decode cX0_baseOf 39 = .ok (.iload_n 1, 1) := by decide +kernel
theorem dX0_baseOf_40 : decode cX0_baseOf 40 = .ok (.invokevirtual 60, 3) := by decide +kernel
theorem dX0_baseOf_43 : decode cX0_baseOf 43 = .ok (.iconst 1, 1) := by decide +kernel
theorem dX0_baseOf_44 : decode cX0_baseOf 44 = .ok (.isub, 1) := by decide +kernel
theorem dX0_baseOf_45 : decode cX0_baseOf 45 = .ok (.imul, 1) := by decide +kernel
theorem dX0_baseOf_46 : decode cX0_baseOf 46 = .ok (.isub, 1) := by decide +kernel
theorem dX0_baseOf_47 : decode cX0_baseOf 47 = .ok (.invokestatic 87, 3) := by decide +kernel
theorem dX0_baseOf_50 : decode cX0_baseOf 50 = .ok (.ireturn, 1) := by decide +kernel
theorem dX0_longestBase_0 : decode cX0_longestBase 0 = .ok (.iconst 0, 1) := by decide +kernel
theorem dX0_longestBase_1 : decode cX0_longestBase 1 = .ok (.istore_n 1, 1) := by decide +kernel
theorem dX0_longestBase_2 : decode cX0_longestBase 2 = .ok (.iconst 0, 1) := by decide +kernel
theorem dX0_longestBase_3 : decode cX0_longestBase 3 = .ok (.istore_n 2, 1) := by decide +kernel
theorem dX0_longestBase_4 : decode cX0_longestBase 4 = .ok (.iload_n 2, 1) := by decide +kernel
theorem dX0_longestBase_5 : decode cX0_longestBase 5 = .ok (.aload_n 0, 1) := by decide +kernel
theorem dX0_longestBase_6 : decode cX0_longestBase 6 = .ok (.getfield 30, 3) := by decide +kernel
theorem dX0_longestBase_9 : decode cX0_longestBase 9 = .ok (.if_icmp .ge 19, 3) := by decide +kernel
theorem dX0_longestBase_12 : decode cX0_longestBase 12 = .ok (.iload_n 1, 1) := by decide +kernel
theorem dX0_longestBase_13 : decode cX0_longestBase 13 = .ok (.aload_n 0, 1) := by decide +kernel
theorem dX0_longestBase_14 : decode cX0_longestBase 14 = .ok (.iload_n 2, 1) := by decide +kernel
theorem dX0_longestBase_15 : decode cX0_longestBase 15 = .ok (.invokevirtual 92, 3) := by decide +kernel
theorem dX0_longestBase_18 : decode cX0_longestBase 18 = .ok (.invokestatic 87, 3) := by decide +kernel
theorem dX0_longestBase_21 : decode cX0_longestBase 21 = .ok (.istore_n 1, 1) := by decide +kernel
theorem dX0_longestBase_22 : decode cX0_longestBase 22 = .ok (.iinc 2 1, 3) := by decide +kernel
theorem dX0_longestBase_25 : decode cX0_longestBase 25 = .ok (.goto (-21), 3) := by decide +kernel
theorem dX0_longestBase_28 : decode cX0_longestBase 28 = .ok (.iload_n 1, 1) := by decide +kernel
theorem dX0_longestBase_29 : decode cX0_longestBase 29 = .ok (.ireturn, 1) := by decide +kernel
theorem dX0_lackFor_0 : decode cX0_lackFor 0 = .ok (.iconst 0, 1) := by decide +kernel
theorem dX0_lackFor_1 : decode cX0_lackFor 1 = .ok (.iload_n 2, 1) := by decide +kernel
theorem dX0_lackFor_2 : decode cX0_lackFor 2 = .ok (.aload_n 0, 1) := by decide +kernel
theorem dX0_lackFor_3 : decode cX0_lackFor 3 = .ok (.getfield 27, 3) := by decide +kernel
theorem dX0_lackFor_6 : decode cX0_lackFor 6 = .ok (.iconst 3, 1) := by decide +kernel
theorem dX0_lackFor_7 : decode cX0_lackFor 7 = .ok (.invokestatic 70, 3) := by decide +kernel
theorem dX0_lackFor_10 : decode cX0_lackFor 10 = .ok (.isub, 1) := by decide +kernel
theorem dX0_lackFor_11 : decode cX0_lackFor 11 = .ok (.iload_n 1, 1) := by decide +kernel
theorem dX0_lackFor_12 : decode cX0_lackFor 12 = .ok (.isub, 1) := by decide +kernel
theorem dX0_lackFor_13 : decode cX0_lackFor 13 = .ok (.invokestatic 87, 3) := by decide +kernel
theorem dX0_lackFor_16 : decode cX0_lackFor 16 = .ok (.istore_n 3, 1) := by decide +kernel
theorem dX0_lackFor_17 : decode cX0_lackFor 17 = .ok (.iload_n 3, 1) := by decide +kernel
theorem dX0_lackFor_18 : decode cX0_lackFor 18 = .ok (.iload_n 3, 1) := by decide +kernel
theorem dX0_lackFor_19 : decode cX0_lackFor 19 = .ok (.iconst 1, 1) := by decide +kernel
theorem dX0_lackFor_20 : decode cX0_lackFor 20 = .ok (.iand, 1) := by decide +kernel
theorem dX0_lackFor_21 : decode cX0_lackFor 21 = .ok (.iadd, 1) := by decide +kernel
theorem dX0_lackFor_22 : decode cX0_lackFor 22 = .ok (.ireturn, 1) := by decide +kernel
theorem dX0_needFor_0 : decode cX0_needFor 0 = .ok (.aload_n 0, 1) := by decide +kernel
theorem dX0_needFor_1 : decode cX0_needFor 1 = .ok (.iload_n 1, 1) := by decide +kernel
theorem dX0_needFor_2 : decode cX0_needFor 2 = .ok (.iload_n 2, 1) := by decide +kernel
theorem dX0_needFor_3 : decode cX0_needFor 3 = .ok (.invokevirtual 95, 3) := by decide +kernel
theorem dX0_needFor_6 : decode cX0_needFor 6 = .ok (.istore_n 3, 1) := by decide +kernel
theorem dX0_needFor_7 : decode cX0_needFor 7 = .ok (.iload_n 3, 1) := by decide +kernel
theorem dX0_needFor_8 : decode cX0_needFor 8 = .ok (.ifCond .ne 5, 3) := by decide +kernel
theorem dX0_needFor_11 : decode cX0_needFor 11 = .ok (.iconst 0, 1) := by decide +kernel
theorem dX0_needFor_12 : decode cX0_needFor 12 = .ok (.ireturn, 1) := by decide +kernel
theorem dX0_needFor_13 : decode cX0_needFor 13 = .ok (.aload_n 0, 1) := by decide +kernel
theorem dX0_needFor_14 : decode cX0_needFor 14 = .ok (.invokevirtual 98, 3) := by decide +kernel
theorem dX0_needFor_17 : decode cX0_needFor 17 = .ok (.istore 4, 2) := by decide +kernel
theorem dX0_needFor_19 : decode cX0_needFor 19 = .ok (.iload 4, 2) := by decide +kernel
theorem dX0_needFor_21 : decode cX0_needFor 21 = .ok (.iconst 2, 1) := by decide +kernel
theorem dX0_needFor_22 : decode cX0_needFor 22 = .ok (.if_icmp .ge 9, 3) := by decide +kernel
theorem dX0_needFor_25 : decode cX0_needFor 25 = .ok (.sipush 1000, 3) := by decide +kernel
theorem dX0_needFor_28 : decode cX0_needFor 28 = .ok (.goto 12, 3) := by decide +kernel
theorem dX0_needFor_31 : decode cX0_needFor 31 = .ok (.iload_n 3, 1) := by decide +kernel
theorem dX0_needFor_32 : decode cX0_needFor 32 = .ok (.iload 4, 2) := by decide +kernel
theorem dX0_needFor_34 : decode cX0_needFor 34 = .ok (.iadd, 1) := by decide +kernel
theorem dX0_needFor_35 : decode cX0_needFor 35 = .ok (.iconst 1, 1) := by decide +kernel
theorem dX0_needFor_36 : decode cX0_needFor 36 = .ok (.isub, 1) := by decide +kernel
theorem dX0_needFor_37 : decode cX0_needFor 37 = .ok (.iload 4, 2) := by decide +kernel
theorem dX0_needFor_39 : decode cX0_needFor 39 = .ok (.idiv, 1) := by decide +kernel
theorem dX0_needFor_40 : decode cX0_needFor 40 = .ok (.ireturn, 1) := by decide +kernel
theorem dX0_allNeeds_0 : decode cX0_allNeeds 0 = .ok (.iconst 0, 1) := by decide +kernel
theorem dX0_allNeeds_1 : decode cX0_allNeeds 1 = .ok (.istore_n 2, 1) := by decide +kernel
theorem dX0_allNeeds_2 : decode cX0_allNeeds 2 = .ok (.iconst 0, 1) := by decide +kernel
theorem dX0_allNeeds_3 : decode cX0_allNeeds 3 = .ok (.istore_n 3, 1) := by decide +kernel
theorem dX0_allNeeds_4 : decode cX0_allNeeds 4 = .ok (.iload_n 3, 1) := by decide +kernel
theorem dX0_allNeeds_5 : decode cX0_allNeeds 5 = .ok (.aload_n 0, 1) := by decide +kernel
theorem dX0_allNeeds_6 : decode cX0_allNeeds 6 = .ok (.getfield 30, 3) := by decide +kernel
theorem dX0_allNeeds_9 : decode cX0_allNeeds 9 = .ok (.if_icmp .ge 22, 3) := by decide +kernel
theorem dX0_allNeeds_12 : decode cX0_allNeeds 12 = .ok (.iload_n 2, 1) := by decide +kernel
theorem dX0_allNeeds_13 : decode cX0_allNeeds 13 = .ok (.aload_n 0, 1) := by decide +kernel
theorem dX0_allNeeds_14 : decode cX0_allNeeds 14 = .ok (.aload_n 0, 1) := by decide +kernel
theorem dX0_allNeeds_15 : decode cX0_allNeeds 15 = .ok (.iload_n 3, 1) := by decide +kernel
theorem dX0_allNeeds_16 : decode cX0_allNeeds 16 = .ok (.invokevirtual 92, 3) := by decide +kernel
theorem dX0_allNeeds_19 : decode cX0_allNeeds 19 = .ok (.iload_n 1, 1) := by decide +kernel
theorem dX0_allNeeds_20 : decode cX0_allNeeds 20 = .ok (.invokevirtual 102, 3) := by decide +kernel
theorem dX0_allNeeds_23 : decode cX0_allNeeds 23 = .ok (.iadd, 1) := by decide +kernel
theorem dX0_allNeeds_24 : decode cX0_allNeeds 24 = .ok (.istore_n 2, 1) := by decide +kernel
theorem dX0_allNeeds_25 : decode cX0_allNeeds 25 = .ok (.iinc 3 1, 3) := by decide +kernel
theorem dX0_allNeeds_28 : decode cX0_allNeeds 28 = .ok (.goto (-24), 3) := by decide +kernel
theorem dX0_allNeeds_31 : decode cX0_allNeeds 31 = .ok (.iload_n 2, 1) := by decide +kernel
theorem dX0_allNeeds_32 : decode cX0_allNeeds 32 = .ok (.ireturn, 1) := by decide +kernel
theorem dX0_gain_0 : decode cX0_gain 0 = .ok (.iconst 2, 1) := by decide +kernel
theorem dX0_gain_1 : decode cX0_gain 1 = .ok (.aload_n 0, 1) := by decide +kernel
theorem dX0_gain_2 : decode cX0_gain 2 = .ok (.getfield 27, 3) := by decide +kernel
theorem dX0_gain_5 : decode cX0_gain 5 = .ok (.iconst 0, 1) := by decide +kernel
theorem dX0_gain_6 : decode cX0_gain 6 = .ok (.invokestatic 70, 3) := by decide +kernel
theorem dX0_gain_9 : decode cX0_gain 9 = .ok (.aload_n 0, 1) := by decide +kernel
theorem dX0_gain_10 : decode cX0_gain 10 = .ok (.getfield 27, 3) := by decide +kernel
theorem dX0_gain_13 : decode cX0_gain 13 = .ok (.iconst 1, 1) := by decide +kernel
theorem dX0_gain_14 : decode cX0_gain 14 = .ok (.invokestatic 70, 3) := by decide +kernel
theorem dX0_gain_17 : decode cX0_gain 17 = .ok (.isub, 1) := by decide +kernel
theorem dX0_gain_18 : decode cX0_gain 18 = .ok (.imul, 1) := by decide +kernel
theorem dX0_gain_19 : decode cX0_gain 19 = .ok (.iconst 4, 1) := by decide +kernel
theorem dX0_gain_20 : decode cX0_gain 20 = .ok (.aload_n 0, 1) := by decide +kernel
theorem dX0_gain_21 : decode cX0_gain 21 = .ok (.getfield 27, 3) := by decide +kernel
theorem dX0_gain_24 : decode cX0_gain 24 = .ok (.iconst 2, 1) := by decide +kernel
theorem dX0_gain_25 : decode cX0_gain 25 = .ok (.invokestatic 70, 3) := by decide +kernel
theorem dX0_gain_28 : decode cX0_gain 28 = .ok (.imul, 1) := by decide +kernel
theorem dX0_gain_29 : decode cX0_gain 29 = .ok (.isub, 1) := by decide +kernel
theorem dX0_gain_30 : decode cX0_gain 30 = .ok (.ireturn, 1) := by decide +kernel
theorem dX0_wideOf_0 : decode cX0_wideOf 0 = .ok (.aload_n 0, 1) := by decide +kernel
theorem dX0_wideOf_1 : decode cX0_wideOf 1 = .ok (.getfield 21, 3) := by decide +kernel
theorem dX0_wideOf_4 : decode cX0_wideOf 4 = .ok (.iload_n 1, 1) := by decide +kernel
theorem dX0_wideOf_5 : decode cX0_wideOf 5 = .ok (.invokestatic 70, 3) := by decide +kernel
theorem dX0_wideOf_8 : decode cX0_wideOf 8 = .ok (.ireturn, 1) := by decide +kernel
theorem dX0_presentAt_0 : decode cX0_presentAt 0 = .ok (.aload_n 0, 1) := by decide +kernel
theorem dX0_presentAt_1 : decode cX0_presentAt 1 = .ok (.getfield 24, 3) := by decide +kernel
theorem dX0_presentAt_4 : decode cX0_presentAt 4 = .ok (.iload_n 1, 1) := by decide +kernel
theorem dX0_presentAt_5 : decode cX0_presentAt 5 = .ok (.invokestatic 70, 3) := by decide +kernel
theorem dX0_presentAt_8 : decode cX0_presentAt 8 = .ok (.iconst 1, 1) := by decide +kernel
theorem dX0_presentAt_9 : decode cX0_presentAt 9 = .ok (.aload_n 0, 1) := by decide +kernel
theorem dX0_presentAt_10 : decode cX0_presentAt 10 = .ok (.getfield 30, 3) := by decide +kernel
theorem dX0_presentAt_13 : decode cX0_presentAt 13 = .ok (.ishl, 1) := by decide +kernel
theorem dX0_presentAt_14 : decode cX0_presentAt 14 = .ok (.iconst 1, 1) := by decide +kernel
theorem dX0_presentAt_15 : decode cX0_presentAt 15 = .ok (.isub, 1) := by decide +kernel
theorem dX0_presentAt_16 : decode cX0_presentAt 16 = .ok (.iand, 1) := by decide +kernel
theorem dX0_presentAt_17 : decode cX0_presentAt 17 = .ok (.ireturn, 1) := by decide +kernel
theorem dX0_reachOf_0 : decode cX0_reachOf 0 = .ok (.iconst 0, 1) := by decide +kernel
theorem dX0_reachOf_1 : decode cX0_reachOf 1 = .ok (.istore_n 2, 1) := by decide +kernel
theorem dX0_reachOf_2 : decode cX0_reachOf 2 = .ok (.iconst 0, 1) := by decide +kernel
theorem dX0_reachOf_3 : decode cX0_reachOf 3 = .ok (.istore_n 3, 1) := by decide +kernel
theorem dX0_reachOf_4 : decode cX0_reachOf 4 = .ok (.iload_n 3, 1) := by decide +kernel
theorem dX0_reachOf_5 : decode cX0_reachOf 5 = .ok (.aload_n 0, 1) := by decide +kernel
theorem dX0_reachOf_6 : decode cX0_reachOf 6 = .ok (.getfield 34, 3) := by decide +kernel
theorem dX0_reachOf_9 : decode cX0_reachOf 9 = .ok (.if_icmp .ge 30, 3) := by decide +kernel
theorem dX0_reachOf_12 : decode cX0_reachOf 12 = .ok (.aload_n 0, 1) := by decide +kernel
theorem dX0_reachOf_13 : decode cX0_reachOf 13 = .ok (.getfield 24, 3) := by decide +kernel
theorem dX0_reachOf_16 : decode cX0_reachOf 16 = .ok (.iload_n 3, 1) := by decide +kernel
theorem dX0_reachOf_17 : decode cX0_reachOf 17 = .ok (.invokestatic 70, 3) := by decide +kernel
theorem dX0_reachOf_20 : decode cX0_reachOf 20 = .ok (.iload_n 1, 1) := by decide +kernel
theorem dX0_reachOf_21 : decode cX0_reachOf 21 = .ok (.invokestatic 105, 3) := by decide +kernel
theorem dX0_reachOf_24 : decode cX0_reachOf 24 = .ok (.ifCond .eq 9, 3) := by decide +kernel
theorem dX0_reachOf_27 : decode cX0_reachOf 27 = .ok (.iload_n 2, 1) := by decide +kernel
theorem dX0_reachOf_28 : decode cX0_reachOf 28 = .ok (.iconst 1, 1) := by decide +kernel
theorem dX0_reachOf_29 : decode cX0_reachOf 29 = .ok (.iload_n 3, 1) := by decide +kernel
theorem dX0_reachOf_30 : decode cX0_reachOf 30 = .ok (.ishl, 1) := by decide +kernel
theorem dX0_reachOf_31 : decode cX0_reachOf 31 = .ok (.ior, 1) := by decide +kernel
theorem dX0_reachOf_32 : decode cX0_reachOf 32 = .ok (.istore_n 2, 1) := by decide +kernel
theorem dX0_reachOf_33 : decode cX0_reachOf 33 = .ok (.iinc 3 1, 3) := by decide +kernel
theorem dX0_reachOf_36 : decode cX0_reachOf 36 = .ok (.goto (-32), 3) := by decide +kernel
theorem dX0_reachOf_39 : decode cX0_reachOf 39 = .ok (.iload_n 2, 1) := by decide +kernel
theorem dX0_reachOf_40 : decode cX0_reachOf 40 = .ok (.ireturn, 1) := by decide +kernel
theorem dX0_humpsOf_0 : decode cX0_humpsOf 0 = .ok (.aload_n 0, 1) := by decide +kernel
theorem dX0_humpsOf_1 : decode cX0_humpsOf 1 = .ok (.getfield 27, 3) := by decide +kernel
theorem dX0_humpsOf_4 : decode cX0_humpsOf 4 = .ok (.iconst 1, 1) := by decide +kernel
theorem dX0_humpsOf_5 : decode cX0_humpsOf 5 = .ok (.invokestatic 70, 3) := by decide +kernel
theorem dX0_humpsOf_8 : decode cX0_humpsOf 8 = .ok (.istore_n 2, 1) := by decide +kernel
theorem dX0_humpsOf_9 : decode cX0_humpsOf 9 = .ok (.iload_n 2, 1) := by decide +kernel
theorem dX0_humpsOf_10 : decode cX0_humpsOf 10 = .ok (.iconst 1, 1) := by decide +kernel
theorem dX0_humpsOf_11 : decode cX0_humpsOf 11 = .ok (.if_icmp .lt 11, 3) := by decide +kernel
theorem dX0_humpsOf_14 : decode cX0_humpsOf 14 = .ok (.aload_n 0, 1) := by decide +kernel
theorem dX0_humpsOf_15 : decode cX0_humpsOf 15 = .ok (.invokevirtual 98, 3) := by decide +kernel
theorem dX0_humpsOf_18 : decode cX0_humpsOf 18 = .ok (.iconst 2, 1) := by decide +kernel
theorem dX0_humpsOf_19 : decode cX0_humpsOf 19 = .ok (.if_icmp .ge 7, 3) := by decide +kernel
theorem dX0_humpsOf_22 : decode cX0_humpsOf 22 = .ok (.iconst 0, 1) := by decide +kernel
theorem dX0_humpsOf_23 : decode cX0_humpsOf 23 = .ok (.goto 14, 3) := by decide +kernel
theorem dX0_humpsOf_26 : decode cX0_humpsOf 26 = .ok (.aload_n 0, 1) := by decide +kernel
theorem dX0_humpsOf_27 : decode cX0_humpsOf 27 = .ok (.iload_n 1, 1) := by decide +kernel
theorem dX0_humpsOf_28 : decode cX0_humpsOf 28 = .ok (.invokevirtual 67, 3) := by decide +kernel
theorem dX0_humpsOf_31 : decode cX0_humpsOf 31 = .ok (.iload_n 2, 1) := by decide +kernel
theorem dX0_humpsOf_32 : decode cX0_humpsOf 32 = .ok (.iadd, 1) := by decide +kernel
theorem dX0_humpsOf_33 : decode cX0_humpsOf 33 = .ok (.iconst 2, 1) := by decide +kernel
theorem dX0_humpsOf_34 : decode cX0_humpsOf 34 = .ok (.iload_n 2, 1) := by decide +kernel
theorem dX0_humpsOf_35 : decode cX0_humpsOf 35 = .ok (.imul, 1) := by decide +kernel
theorem dX0_humpsOf_36 : decode cX0_humpsOf 36 = .ok (.idiv, 1) := by decide +kernel
theorem dX0_humpsOf_37 : decode cX0_humpsOf 37 = .ok (.ireturn, 1) := by decide +kernel
theorem dX0_allHumps_0 : decode cX0_allHumps 0 = .ok (.iconst 0, 1) := by decide +kernel
theorem dX0_allHumps_1 : decode cX0_allHumps 1 = .ok (.istore_n 1, 1) := by decide +kernel
theorem dX0_allHumps_2 : decode cX0_allHumps 2 = .ok (.iconst 0, 1) := by decide +kernel
theorem dX0_allHumps_3 : decode cX0_allHumps 3 = .ok (.istore_n 2, 1) := by decide +kernel
theorem dX0_allHumps_4 : decode cX0_allHumps 4 = .ok (.iload_n 2, 1) := by decide +kernel
theorem dX0_allHumps_5 : decode cX0_allHumps 5 = .ok (.aload_n 0, 1) := by decide +kernel
theorem dX0_allHumps_6 : decode cX0_allHumps 6 = .ok (.getfield 34, 3) := by decide +kernel
theorem dX0_allHumps_9 : decode cX0_allHumps 9 = .ok (.if_icmp .ge 17, 3) := by decide +kernel
theorem dX0_allHumps_12 : decode cX0_allHumps 12 = .ok (.iload_n 1, 1) := by decide +kernel
theorem dX0_allHumps_13 : decode cX0_allHumps 13 = .ok (.aload_n 0, 1) := by decide +kernel
theorem dX0_allHumps_14 : decode cX0_allHumps 14 = .ok (.iload_n 2, 1) := by decide +kernel
theorem dX0_allHumps_15 : decode cX0_allHumps 15 = .ok (.invokevirtual 109, 3) := by decide +kernel
theorem dX0_allHumps_18 : decode cX0_allHumps 18 = .ok (.iadd, 1) := by decide +kernel
theorem dX0_allHumps_19 : decode cX0_allHumps 19 = .ok (.istore_n 1, 1) := by decide +kernel
theorem dX0_allHumps_20 : decode cX0_allHumps 20 = .ok (.iinc 2 1, 3) := by decide +kernel
theorem dX0_allHumps_23 : decode cX0_allHumps 23 = .ok (.goto (-19), 3) := by decide +kernel
theorem dX0_allHumps_26 : decode cX0_allHumps 26 = .ok (.iload_n 1, 1) := by decide +kernel
theorem dX0_allHumps_27 : decode cX0_allHumps 27 = .ok (.ireturn, 1) := by decide +kernel
theorem dX1_init_0 : decode cX1_init 0 = .ok (.aload_n 0, 1) := by decide +kernel
theorem dX1_init_1 : decode cX1_init 1 = .ok (.invokespecial 3, 3) := by decide +kernel
theorem dX1_init_4 : decode cX1_init 4 = .ok (.aload_n 0, 1) := by decide +kernel
theorem dX1_init_5 : decode cX1_init 5 = .ok (.iconst 5, 1) := by decide +kernel
theorem dX1_init_6 : decode cX1_init 6 = .ok (.anewarray 9, 3) := by decide +kernel
theorem dX1_init_9 : decode cX1_init 9 = .ok (.putfield 11, 3) := by decide +kernel
theorem dX1_init_12 : decode cX1_init 12 = .ok (.aload_n 0, 1) := by decide +kernel
theorem dX1_init_13 : decode cX1_init 13 = .ok (.iconst 0, 1) := by decide +kernel
theorem dX1_init_14 : decode cX1_init 14 = .ok (.putfield 17, 3) := by decide +kernel
theorem dX1_init_17 : decode cX1_init 17 = .ok (.aload_n 0, 1) := by decide +kernel
theorem dX1_init_18 : decode cX1_init 18 = .ok (.iconst 0, 1) := by decide +kernel
theorem dX1_init_19 : decode cX1_init 19 = .ok (.putfield 21, 3) := by decide +kernel
theorem dX1_init_22 : decode cX1_init 22 = .ok (.iconst 0, 1) := by decide +kernel
theorem dX1_init_23 : decode cX1_init 23 = .ok (.istore_n 1, 1) := by decide +kernel
theorem dX1_init_24 : decode cX1_init 24 = .ok (.iload_n 1, 1) := by decide +kernel
theorem dX1_init_25 : decode cX1_init 25 = .ok (.aload_n 0, 1) := by decide +kernel
theorem dX1_init_26 : decode cX1_init 26 = .ok (.getfield 11, 3) := by decide +kernel
theorem dX1_init_29 : decode cX1_init 29 = .ok (.arraylength, 1) := by decide +kernel
theorem dX1_init_30 : decode cX1_init 30 = .ok (.if_icmp .ge 22, 3) := by decide +kernel
theorem dX1_init_33 : decode cX1_init 33 = .ok (.aload_n 0, 1) := by decide +kernel
theorem dX1_init_34 : decode cX1_init 34 = .ok (.getfield 11, 3) := by decide +kernel
theorem dX1_init_37 : decode cX1_init 37 = .ok (.iload_n 1, 1) := by decide +kernel
theorem dX1_init_38 : decode cX1_init 38 = .ok (.new 9, 3) := by decide +kernel
theorem dX1_init_41 : decode cX1_init 41 = .ok (.dup, 1) := by decide +kernel
theorem dX1_init_42 : decode cX1_init 42 = .ok (.invokespecial 24, 3) := by decide +kernel
theorem dX1_init_45 : decode cX1_init 45 = .ok (.aastore, 1) := by decide +kernel
theorem dX1_init_46 : decode cX1_init 46 = .ok (.iinc 1 1, 3) := by decide +kernel
theorem dX1_init_49 : decode cX1_init 49 = .ok (.goto (-25), 3) := by decide +kernel
theorem dX1_init_52 : decode cX1_init 52 = .ok (.return_, 1) := by decide +kernel
theorem dX1_size_0 : decode cX1_size 0 = .ok (.aload_n 0, 1) := by decide +kernel
theorem dX1_size_1 : decode cX1_size 1 = .ok (.getfield 21, 3) := by decide +kernel
theorem dX1_size_4 : decode cX1_size 4 = .ok (.ireturn, 1) := by decide +kernel
theorem dX1_keep_0 : decode cX1_keep 0 = .ok (.aload_n 0, 1) := by decide +kernel
theorem dX1_keep_1 : decode cX1_keep 1 = .ok (.aload_n 0, 1) := by decide +kernel
theorem dX1_keep_2 : decode cX1_keep 2 = .ok (.getfield 17, 3) := by decide +kernel
theorem dX1_keep_5 : decode cX1_keep 5 = .ok (.invokevirtual 25, 3) := by decide +kernel
theorem dX1_keep_8 : decode cX1_keep 8 = .ok (.astore_n 2, 1) := by decide +kernel
theorem dX1_keep_9 : decode cX1_keep 9 = .ok (.aload_n 2, 1) := by decide +kernel
theorem dX1_keep_10 : decode cX1_keep 10 = .ok (.ifnull 34, 3) := by decide +kernel
theorem dX1_keep_13 : decode cX1_keep 13 = .ok (.aload_n 2, 1) := by decide +kernel
theorem dX1_keep_14 : decode cX1_keep 14 = .ok (.aload_n 1, 1) := by decide +kernel
theorem dX1_keep_15 : decode cX1_keep 15 = .ok (.invokevirtual 29, 3) := by decide +kernel
theorem dX1_keep_18 : decode cX1_keep 18 = .ok (.aload_n 0, 1) := by decide +kernel
theorem dX1_keep_19 : decode cX1_keep 19 = .ok (.aload_n 0, 1) := by decide +kernel
theorem dX1_keep_20 : decode cX1_keep 20 = .ok (.getfield 17, 3) := by decide +kernel
theorem dX1_keep_23 : decode cX1_keep 23 = .ok (.iconst 1, 1) := by decide +kernel
theorem dX1_keep_24 : decode cX1_keep 24 = .ok (.iadd, 1) := by decide +kernel
theorem dX1_keep_25 : decode cX1_keep 25 = .ok (.iconst 5, 1) := by decide +kernel
theorem dX1_keep_26 : decode cX1_keep 26 = .ok (.irem, 1) := by decide +kernel
theorem dX1_keep_27 : decode cX1_keep 27 = .ok (.putfield 17, 3) := by decide +kernel
theorem dX1_keep_30 : decode cX1_keep 30 = .ok (.aload_n 0, 1) := by decide +kernel
theorem dX1_keep_31 : decode cX1_keep 31 = .ok (.iconst 5, 1) := by decide +kernel
theorem dX1_keep_32 : decode cX1_keep 32 = .ok (.aload_n 0, 1) := by decide +kernel
theorem dX1_keep_33 : decode cX1_keep 33 = .ok (.getfield 21, 3) := by decide +kernel
theorem dX1_keep_36 : decode cX1_keep 36 = .ok (.iconst 1, 1) := by decide +kernel
theorem dX1_keep_37 : decode cX1_keep 37 = .ok (.iadd, 1) := by decide +kernel
theorem dX1_keep_38 : decode cX1_keep 38 = .ok (.invokestatic 33, 3) := by decide +kernel
theorem dX1_keep_41 : decode cX1_keep 41 = .ok (.putfield 21, 3) := by decide +kernel
theorem dX1_keep_44 : decode cX1_keep 44 = .ok (.return_, 1) := by decide +kernel
theorem dX1_giveBack_0 : decode cX1_giveBack 0 = .ok (.aload_n 0, 1) := by decide +kernel
theorem dX1_giveBack_1 : decode cX1_giveBack 1 = .ok (.getfield 17, 3) := by decide +kernel
theorem dX1_giveBack_4 : decode cX1_giveBack 4 = .ok (.iconst 5, 1) := by decide +kernel
theorem dX1_giveBack_5 : decode cX1_giveBack 5 = .ok (.iadd, 1) := by decide +kernel
theorem dX1_giveBack_6 : decode cX1_giveBack 6 = .ok (.iconst 1, 1) := by decide +kernel
theorem dX1_giveBack_7 : decode cX1_giveBack 7 = .ok (.isub, 1) := by decide +kernel
theorem dX1_giveBack_8 : decode cX1_giveBack 8 = .ok (.iconst 5, 1) := by decide +kernel
theorem dX1_giveBack_9 : decode cX1_giveBack 9 = .ok (.irem, 1) := by decide +kernel
theorem dX1_giveBack_10 : decode cX1_giveBack 10 = .ok (.istore_n 2, 1) := by decide +kernel
theorem dX1_giveBack_11 : decode cX1_giveBack 11 = .ok (.aload_n 0, 1) := by decide +kernel
theorem dX1_giveBack_12 : decode cX1_giveBack 12 = .ok (.iload_n 2, 1) := by decide +kernel
theorem dX1_giveBack_13 : decode cX1_giveBack 13 = .ok (.invokevirtual 25, 3) := by decide +kernel
theorem dX1_giveBack_16 : decode cX1_giveBack 16 = .ok (.astore_n 3, 1) := by decide +kernel
theorem dX1_giveBack_17 : decode cX1_giveBack 17 = .ok (.aload_n 0, 1) := by decide +kernel
theorem dX1_giveBack_18 : decode cX1_giveBack 18 = .ok (.getfield 21, 3) := by decide +kernel
theorem dX1_giveBack_21 : decode cX1_giveBack 21 = .ok (.ifCond .eq 7, 3) := by decide +kernel
theorem dX1_giveBack_24 : decode cX1_giveBack 24 = .ok (.aload_n 3, 1) := by decide +kernel
theorem dX1_giveBack_25 : decode cX1_giveBack 25 = .ok (.ifnonnull 5, 3) := by decide +kernel
theorem dX1_giveBack_28 : decode cX1_giveBack 28 = .ok (.iconst 0, 1) := by decide +kernel
theorem dX1_giveBack_29 : decode cX1_giveBack 29 = .ok (.ireturn, 1) := by decide +kernel
theorem dX1_giveBack_30 : decode cX1_giveBack 30 = .ok (.aload_n 1, 1) := by decide +kernel
theorem dX1_giveBack_31 : decode cX1_giveBack 31 = .ok (.aload_n 3, 1) := by decide +kernel
theorem dX1_giveBack_32 : decode cX1_giveBack 32 = .ok (.invokevirtual 29, 3) := by decide +kernel
theorem dX1_giveBack_35 : decode cX1_giveBack 35 = .ok (.aload_n 0, 1) := by decide +kernel
theorem dX1_giveBack_36 : decode cX1_giveBack 36 = .ok (.iload_n 2, 1) := by decide +kernel
theorem dX1_giveBack_37 : decode cX1_giveBack 37 = .ok (.putfield 17, 3) := by decide +kernel
theorem dX1_giveBack_40 : decode cX1_giveBack 40 = .ok (.aload_n 0, 1) := by decide +kernel
theorem dX1_giveBack_41 : decode cX1_giveBack 41 = .ok (.dup, 1) := by decide +kernel
theorem dX1_giveBack_42 : decode cX1_giveBack 42 = .ok (.getfield 21, 3) := by decide +kernel
theorem dX1_giveBack_45 : decode cX1_giveBack 45 = .ok (.iconst 1, 1) := by decide +kernel
theorem dX1_giveBack_46 : decode cX1_giveBack 46 = .ok (.isub, 1) := by decide +kernel
theorem dX1_giveBack_47 : decode cX1_giveBack 47 = .ok (.putfield 21, 3) := by decide +kernel
theorem dX1_giveBack_50 : decode cX1_giveBack 50 = .ok (.iconst 1, 1) := by decide +kernel
theorem dX1_giveBack_51 : decode cX1_giveBack 51 = .ok (.ireturn, 1) := by decide +kernel
theorem dX1_slotAt_0 : decode cX1_slotAt 0 = .ok (.iload_n 1, 1) := by decide +kernel
theorem dX1_slotAt_1 : decode cX1_slotAt 1 = .ok (.ifCond .lt 21, 3) := by decide +kernel
theorem dX1_slotAt_4 : decode cX1_slotAt 4 = .ok (.iload_n 1, 1) := by decide +kernel
theorem dX1_slotAt_5 : decode cX1_slotAt 5 = .ok (.aload_n 0, 1) := by decide +kernel
theorem dX1_slotAt_6 : decode cX1_slotAt 6 = .ok (.getfield 11, 3) := by decide +kernel
theorem dX1_slotAt_9 : decode cX1_slotAt 9 = .ok (.arraylength, 1) := by decide +kernel
theorem dX1_slotAt_10 : decode cX1_slotAt 10 = .ok (.if_icmp .ge 12, 3) := by decide +kernel
theorem dX1_slotAt_13 : decode cX1_slotAt 13 = .ok (.aload_n 0, 1) := by decide +kernel
theorem dX1_slotAt_14 : decode cX1_slotAt 14 = .ok (.getfield 11, 3) := by decide +kernel
theorem dX1_slotAt_17 : decode cX1_slotAt 17 = .ok (.iload_n 1, 1) := by decide +kernel
theorem dX1_slotAt_18 : decode cX1_slotAt 18 = .ok (.aaload, 1) := by decide +kernel
theorem dX1_slotAt_19 : decode cX1_slotAt 19 = .ok (.goto 4, 3) := by decide +kernel
theorem dX1_slotAt_22 : decode cX1_slotAt 22 = .ok (.aconst_null, 1) := by decide +kernel
theorem dX1_slotAt_23 : decode cX1_slotAt 23 = .ok (.areturn, 1) := by decide +kernel
theorem dX2_init_0 : decode cX2_init 0 = .ok (.aload_n 0, 1) := by decide +kernel
theorem dX2_init_1 : decode cX2_init 1 = .ok (.invokespecial 3, 3) := by decide +kernel
theorem dX2_init_4 : decode cX2_init 4 = .ok (.aload_n 0, 1) := by decide +kernel
theorem dX2_init_5 : decode cX2_init 5 = .ok (.bipush 15, 2) := by decide +kernel
theorem dX2_init_7 : decode cX2_init 7 = .ok (.newarray .int, 2) := by decide +kernel
theorem dX2_init_9 : decode cX2_init 9 = .ok (.putfield 11, 3) := by decide +kernel
theorem dX2_init_12 : decode cX2_init 12 = .ok (.aload_n 0, 1) := by decide +kernel
theorem dX2_init_13 : decode cX2_init 13 = .ok (.bipush 15, 2) := by decide +kernel
theorem dX2_init_15 : decode cX2_init 15 = .ok (.newarray .int, 2) := by decide +kernel
theorem dX2_init_17 : decode cX2_init 17 = .ok (.putfield 15, 3) := by decide +kernel
theorem dX2_init_20 : decode cX2_init 20 = .ok (.return_, 1) := by decide +kernel
theorem dX2_fewestFor_0 : decode cX2_fewestFor 0 = .ok (.aload_n 0, 1) := by decide +kernel
theorem dX2_fewestFor_1 : decode cX2_fewestFor 1 = .ok (.getfield 11, 3) := by decide +kernel
theorem dX2_fewestFor_4 : decode cX2_fewestFor 4 = .ok (.ldc 18, 2) := by decide +kernel
theorem dX2_fewestFor_6 : decode cX2_fewestFor 6 = .ok (.invokestatic 19, 3) := by decide +kernel
theorem dX2_fewestFor_9 : decode cX2_fewestFor 9 = .ok (.aload_n 0, 1) := by decide +kernel
theorem dX2_fewestFor_10 : decode cX2_fewestFor 10 = .ok (.getfield 11, 3) := by decide +kernel
theorem dX2_fewestFor_13 : decode cX2_fewestFor 13 = .ok (.bipush 7, 2) := by decide +kernel
theorem dX2_fewestFor_15 : decode cX2_fewestFor 15 = .ok (.iconst 0, 1) := by decide +kernel
theorem dX2_fewestFor_16 : decode cX2_fewestFor 16 = .ok (.invokestatic 25, 3) := by decide +kernel
theorem dX2_fewestFor_19 : decode cX2_fewestFor 19 = .ok (.iconst 0, 1) := by decide +kernel
theorem dX2_fewestFor_20 : decode cX2_fewestFor 20 = .ok (.istore_n 3, 1) := by decide +kernel
theorem dX2_fewestFor_21 : decode cX2_fewestFor 21 = .ok (.iload_n 3, 1) := by decide +kernel
theorem dX2_fewestFor_22 : decode cX2_fewestFor 22 = .ok (.aload_n 1, 1) := by decide +kernel
theorem dX2_fewestFor_23 : decode cX2_fewestFor 23 = .ok (.iload_n 2, 1) := by decide +kernel
theorem dX2_fewestFor_24 : decode cX2_fewestFor 24 = .ok (.invokevirtual 29, 3) := by decide +kernel
theorem dX2_fewestFor_27 : decode cX2_fewestFor 27 = .ok (.if_icmp .ge 53, 3) := by decide +kernel
theorem dX2_fewestFor_30 : decode cX2_fewestFor 30 = .ok (.aload_n 0, 1) := by decide +kernel
theorem dX2_fewestFor_31 : decode cX2_fewestFor 31 = .ok (.getfield 15, 3) := by decide +kernel
theorem dX2_fewestFor_34 : decode cX2_fewestFor 34 = .ok (.ldc 18, 2) := by decide +kernel
theorem dX2_fewestFor_36 : decode cX2_fewestFor 36 = .ok (.invokestatic 19, 3) := by decide +kernel
theorem dX2_fewestFor_39 : decode cX2_fewestFor 39 = .ok (.aload_n 0, 1) := by decide +kernel
theorem dX2_fewestFor_40 : decode cX2_fewestFor 40 = .ok (.aload_n 1, 1) := by decide +kernel
theorem dX2_fewestFor_41 : decode cX2_fewestFor 41 = .ok (.iload_n 2, 1) := by decide +kernel
theorem dX2_fewestFor_42 : decode cX2_fewestFor 42 = .ok (.iload_n 3, 1) := by decide +kernel
theorem dX2_fewestFor_43 : decode cX2_fewestFor 43 = .ok (.invokevirtual 35, 3) := by decide +kernel
theorem dX2_fewestFor_46 : decode cX2_fewestFor 46 = .ok (.invokestatic 39, 3) := by decide +kernel
theorem dX2_fewestFor_49 : decode cX2_fewestFor 49 = .ok (.aload_n 1, 1) := by decide +kernel
theorem dX2_fewestFor_50 : decode cX2_fewestFor 50 = .ok (.iload_n 2, 1) := by decide +kernel
theorem dX2_fewestFor_51 : decode cX2_fewestFor 51 = .ok (.iload_n 3, 1) := by decide +kernel
theorem dX2_fewestFor_52 : decode cX2_fewestFor 52 = .ok (.invokevirtual 42, 3) := by decide +kernel
theorem dX2_fewestFor_55 : decode cX2_fewestFor 55 = .ok (.aload_n 1, 1) := by decide +kernel
theorem dX2_fewestFor_56 : decode cX2_fewestFor 56 = .ok (.iconst 5, 1) := by decide +kernel
theorem dX2_fewestFor_57 : decode cX2_fewestFor 57 = .ok (.invokevirtual 45, 3) := by decide +kernel
theorem dX2_fewestFor_60 : decode cX2_fewestFor 60 = .ok (.invokevirtual 48, 3) := by decide +kernel
theorem dX2_fewestFor_63 : decode cX2_fewestFor 63 = .ok (.aload_n 0, 1) := by decide +kernel
theorem dX2_fewestFor_64 : decode cX2_fewestFor 64 = .ok (.getfield 15, 3) := by decide +kernel
theorem dX2_fewestFor_67 : decode cX2_fewestFor 67 = .ok (.aload_n 0, 1) := by decide +kernel
theorem dX2_fewestFor_68 : decode cX2_fewestFor 68 = .ok (.getfield 11, 3) := by decide +kernel
theorem dX2_fewestFor_71 : decode cX2_fewestFor 71 = .ok (.invokestatic 52, 3) := by decide +kernel
theorem dX2_fewestFor_74 : decode cX2_fewestFor 74 = .ok (.iinc 3 1, 3) := by decide +kernel
theorem dX2_fewestFor_77 : decode cX2_fewestFor 77 = .ok (.goto (-56), 3) := by decide +kernel
theorem dX2_fewestFor_80 : decode cX2_fewestFor 80 = .ok (.aload_n 0, 1) := by decide +kernel
theorem dX2_fewestFor_81 : decode cX2_fewestFor 81 = .ok (.getfield 11, 3) := by decide +kernel
theorem dX2_fewestFor_84 : decode cX2_fewestFor 84 = .ok (.bipush 7, 2) := by decide +kernel
theorem dX2_fewestFor_86 : decode cX2_fewestFor 86 = .ok (.invokestatic 56, 3) := by decide +kernel
theorem dX2_fewestFor_89 : decode cX2_fewestFor 89 = .ok (.istore_n 3, 1) := by decide +kernel
theorem dX2_fewestFor_90 : decode cX2_fewestFor 90 = .ok (.iload_n 3, 1) := by decide +kernel
theorem dX2_fewestFor_91 : decode cX2_fewestFor 91 = .ok (.ldc 18, 2) := by decide +kernel
theorem dX2_fewestFor_93 : decode cX2_fewestFor 93 = .ok (.if_icmp .ge 7, 3) := by decide +kernel
theorem dX2_fewestFor_96 : decode cX2_fewestFor 96 = .ok (.iload_n 3, 1) := by decide +kernel
theorem dX2_fewestFor_97 : decode cX2_fewestFor 97 = .ok (.goto 4, 3) := by decide +kernel
theorem dX2_fewestFor_100 : decode cX2_fewestFor 100 = .ok (.iconst (-1), 1) := by decide +kernel
theorem dX2_fewestFor_101 : decode cX2_fewestFor 101 = .ok (.ireturn, 1) := by decide +kernel
theorem dX2_turnStep_0 : decode cX2_turnStep 0 = .ok (.iload_n 0, 1) := by decide +kernel
theorem dX2_turnStep_1 : decode cX2_turnStep 1 = .ok (.iconst 1, 1) := by decide +kernel
theorem dX2_turnStep_2 : decode cX2_turnStep 2 = .ok (.if_icmp .ne 5, 3) := by decide +kernel
theorem dX2_turnStep_5 : decode cX2_turnStep 5 = .ok (.iconst 1, 1) := by decide +kernel
theorem dX2_turnStep_6 : decode cX2_turnStep 6 = .ok (.ireturn, 1) := by decide +kernel
theorem dX2_turnStep_7 : decode cX2_turnStep 7 = .ok (.iload_n 0, 1) := by decide +kernel
theorem dX2_turnStep_8 : decode cX2_turnStep 8 = .ok (.ifCond .ne 7, 3) := by decide +kernel
theorem dX2_turnStep_11 : decode cX2_turnStep 11 = .ok (.iconst (-1), 1) := by decide +kernel
theorem dX2_turnStep_12 : decode cX2_turnStep 12 = .ok (.goto 4, 3) := by decide +kernel
theorem dX2_turnStep_15 : decode cX2_turnStep 15 = .ok (.iconst 0, 1) := by decide +kernel
theorem dX2_turnStep_16 : decode cX2_turnStep 16 = .ok (.ireturn, 1) := by decide +kernel
theorem dX2_passRun_0 : decode cX2_passRun 0 = .ok (.bipush (-7), 2) := by decide +kernel
theorem dX2_passRun_2 : decode cX2_passRun 2 = .ok (.istore 4, 2) := by decide +kernel
theorem dX2_passRun_4 : decode cX2_passRun 4 = .ok (.iload 4, 2) := by decide +kernel
theorem dX2_passRun_6 : decode cX2_passRun 6 = .ok (.bipush 7, 2) := by decide +kernel
theorem dX2_passRun_8 : decode cX2_passRun 8 = .ok (.if_icmp .gt 42, 3) := by decide +kernel
theorem dX2_passRun_11 : decode cX2_passRun 11 = .ok (.aload_n 0, 1) := by decide +kernel
theorem dX2_passRun_12 : decode cX2_passRun 12 = .ok (.getfield 11, 3) := by decide +kernel
theorem dX2_passRun_15 : decode cX2_passRun 15 = .ok (.iload 4, 2) := by decide +kernel
theorem dX2_passRun_17 : decode cX2_passRun 17 = .ok (.bipush 7, 2) := by decide +kernel
theorem dX2_passRun_19 : decode cX2_passRun 19 = .ok (.iadd, 1) := by decide +kernel
theorem dX2_passRun_20 : decode cX2_passRun 20 = .ok (.invokestatic 56, 3) := by decide +kernel
theorem dX2_passRun_23 : decode cX2_passRun 23 = .ok (.istore 5, 2) := by decide +kernel
theorem dX2_passRun_25 : decode cX2_passRun 25 = .ok (.iload 5, 2) := by decide +kernel
theorem dX2_passRun_27 : decode cX2_passRun 27 = .ok (.ldc 18, 2) := by decide +kernel
theorem dX2_passRun_29 : decode cX2_passRun 29 = .ok (.if_icmp .ge 15, 3) := by decide +kernel
theorem dX2_passRun_32 : decode cX2_passRun 32 = .ok (.aload_n 0, 1) := by decide +kernel
theorem dX2_passRun_33 : decode cX2_passRun 33 = .ok (.iload 4, 2) := by decide +kernel
theorem dX2_passRun_35 : decode cX2_passRun 35 = .ok (.iload_n 1, 1) := by decide +kernel
theorem dX2_passRun_36 : decode cX2_passRun 36 = .ok (.iadd, 1) := by decide +kernel
theorem dX2_passRun_37 : decode cX2_passRun 37 = .ok (.iload 5, 2) := by decide +kernel
theorem dX2_passRun_39 : decode cX2_passRun 39 = .ok (.iload_n 2, 1) := by decide +kernel
theorem dX2_passRun_40 : decode cX2_passRun 40 = .ok (.iload_n 3, 1) := by decide +kernel
theorem dX2_passRun_41 : decode cX2_passRun 41 = .ok (.invokevirtual 60, 3) := by decide +kernel
theorem dX2_passRun_44 : decode cX2_passRun 44 = .ok (.iinc 4 1, 3) := by decide +kernel
theorem dX2_passRun_47 : decode cX2_passRun 47 = .ok (.goto (-43), 3) := by decide +kernel
theorem dX2_passRun_50 : decode cX2_passRun 50 = .ok (.return_, 1) := by decide +kernel
theorem dX2_putBumps_0 : decode cX2_putBumps 0 = .ok (.iload_n 3, 1) := by decide +kernel
theorem dX2_putBumps_1 : decode cX2_putBumps 1 = .ok (.iload_n 1, 1) := by decide +kernel
theorem dX2_putBumps_2 : decode cX2_putBumps 2 = .ok (.invokestatic 64, 3) := by decide +kernel
theorem dX2_putBumps_5 : decode cX2_putBumps 5 = .ok (.invokestatic 69, 3) := by decide +kernel
theorem dX2_putBumps_8 : decode cX2_putBumps 8 = .ok (.istore 5, 2) := by decide +kernel
theorem dX2_putBumps_10 : decode cX2_putBumps 10 = .ok (.iconst 0, 1) := by decide +kernel
theorem dX2_putBumps_11 : decode cX2_putBumps 11 = .ok (.istore 6, 2) := by decide +kernel
theorem dX2_putBumps_13 : decode cX2_putBumps 13 = .ok (.iload 6, 2) := by decide +kernel
theorem dX2_putBumps_15 : decode cX2_putBumps 15 = .ok (.iload 5, 2) := by decide +kernel
theorem dX2_putBumps_17 : decode cX2_putBumps 17 = .ok (.if_icmp .gt 70, 3) := by decide +kernel
theorem dX2_putBumps_20 : decode cX2_putBumps 20 = .ok (.iload_n 1, 1) := by decide +kernel
theorem dX2_putBumps_21 : decode cX2_putBumps 21 = .ok (.ifCond .le 10, 3) := by decide +kernel
theorem dX2_putBumps_24 : decode cX2_putBumps 24 = .ok (.iload_n 1, 1) := by decide +kernel
theorem dX2_putBumps_25 : decode cX2_putBumps 25 = .ok (.iload 6, 2) := by decide +kernel
theorem dX2_putBumps_27 : decode cX2_putBumps 27 = .ok (.isub, 1) := by decide +kernel
theorem dX2_putBumps_28 : decode cX2_putBumps 28 = .ok (.goto 7, 3) := by decide +kernel
theorem dX2_putBumps_31 : decode cX2_putBumps 31 = .ok (.iload_n 1, 1) := by decide +kernel
theorem dX2_putBumps_32 : decode cX2_putBumps 32 = .ok (.iload 6, 2) := by decide +kernel
theorem dX2_putBumps_34 : decode cX2_putBumps 34 = .ok (.iadd, 1) := by decide +kernel
theorem dX2_putBumps_35 : decode cX2_putBumps 35 = .ok (.istore 7, 2) := by decide +kernel
theorem dX2_putBumps_37 : decode cX2_putBumps 37 = .ok (.iload 7, 2) := by decide +kernel
theorem dX2_putBumps_39 : decode cX2_putBumps 39 = .ok (.bipush 7, 2) := by decide +kernel
theorem dX2_putBumps_41 : decode cX2_putBumps 41 = .ok (.iadd, 1) := by decide +kernel
theorem dX2_putBumps_42 : decode cX2_putBumps 42 = .ok (.istore 8, 2) := by decide +kernel
theorem dX2_putBumps_44 : decode cX2_putBumps 44 = .ok (.iconst 2, 1) := by decide +kernel
theorem dX2_putBumps_45 : decode cX2_putBumps 45 = .ok (.iload 7, 2) := by decide +kernel
theorem dX2_putBumps_47 : decode cX2_putBumps 47 = .ok (.imul, 1) := by decide +kernel
theorem dX2_putBumps_48 : decode cX2_putBumps 48 = .ok (.invokestatic 64, 3) := by decide +kernel
theorem dX2_putBumps_51 : decode cX2_putBumps 51 = .ok (.iload 4, 2) := by decide +kernel
theorem dX2_putBumps_53 : decode cX2_putBumps 53 = .ok (.if_icmp .gt 28, 3) := by decide +kernel
theorem dX2_putBumps_56 : decode cX2_putBumps 56 = .ok (.aload_n 0, 1) := by decide +kernel
theorem dX2_putBumps_57 : decode cX2_putBumps 57 = .ok (.getfield 15, 3) := by decide +kernel
theorem dX2_putBumps_60 : decode cX2_putBumps 60 = .ok (.iload 8, 2) := by decide +kernel
theorem dX2_putBumps_62 : decode cX2_putBumps 62 = .ok (.aload_n 0, 1) := by decide +kernel
theorem dX2_putBumps_63 : decode cX2_putBumps 63 = .ok (.getfield 15, 3) := by decide +kernel
theorem dX2_putBumps_66 : decode cX2_putBumps 66 = .ok (.iload 8, 2) := by decide +kernel
theorem dX2_putBumps_68 : decode cX2_putBumps 68 = .ok (.invokestatic 56, 3) := by decide +kernel
theorem dX2_putBumps_71 : decode cX2_putBumps 71 = .ok (.iload_n 2, 1) := by decide +kernel
theorem dX2_putBumps_72 : decode cX2_putBumps 72 = .ok (.iload 6, 2) := by decide +kernel
theorem dX2_putBumps_74 : decode cX2_putBumps 74 = .ok (.iadd, 1) := by decide +kernel
theorem dX2_putBumps_75 : decode cX2_putBumps 75 = .ok (.invokestatic 69, 3) := by decide +kernel
theorem dX2_putBumps_78 : decode cX2_putBumps 78 = .ok (.invokestatic 25, 3) := by decide +kernel
theorem dX2_putBumps_81 : decode cX2_putBumps 81 = .ok (.iinc 6 1, 3) := by decide +kernel
theorem dX2_putBumps_84 : decode cX2_putBumps 84 = .ok (.goto (-71), 3) := by decide +kernel
theorem dX2_putBumps_87 : decode cX2_putBumps 87 = .ok (.return_, 1) := by decide +kernel
theorem dJ6_bitCount_0f7a4_0 : decode cJ6_bitCount_0f7a4 0 = .ok (.iload_n 0, 1) := by decide +kernel
theorem dJ6_bitCount_0f7a4_1 : decode cJ6_bitCount_0f7a4 1 = .ok (.iload_n 0, 1) := by decide +kernel
theorem dJ6_bitCount_0f7a4_2 : decode cJ6_bitCount_0f7a4 2 = .ok (.iconst 1, 1) := by decide +kernel
theorem dJ6_bitCount_0f7a4_3 : decode cJ6_bitCount_0f7a4 3 = .ok (.iushr, 1) := by decide +kernel
theorem dJ6_bitCount_0f7a4_4 : decode cJ6_bitCount_0f7a4 4 = .ok (.ldc_w 265, 3) := by decide +kernel
theorem dJ6_bitCount_0f7a4_7 : decode cJ6_bitCount_0f7a4 7 = .ok (.iand, 1) := by decide +kernel
theorem dJ6_bitCount_0f7a4_8 : decode cJ6_bitCount_0f7a4 8 = .ok (.isub, 1) := by decide +kernel
theorem dJ6_bitCount_0f7a4_9 : decode cJ6_bitCount_0f7a4 9 = .ok (.istore_n 0, 1) := by decide +kernel
theorem dJ6_bitCount_0f7a4_10 : decode cJ6_bitCount_0f7a4 10 = .ok (.iload_n 0, 1) := by decide +kernel
theorem dJ6_bitCount_0f7a4_11 : decode cJ6_bitCount_0f7a4 11 = .ok (.ldc_w 266, 3) := by decide +kernel
theorem dJ6_bitCount_0f7a4_14 : decode cJ6_bitCount_0f7a4 14 = .ok (.iand, 1) := by decide +kernel
theorem dJ6_bitCount_0f7a4_15 : decode cJ6_bitCount_0f7a4 15 = .ok (.iload_n 0, 1) := by decide +kernel
theorem dJ6_bitCount_0f7a4_16 : decode cJ6_bitCount_0f7a4 16 = .ok (.iconst 2, 1) := by decide +kernel
theorem dJ6_bitCount_0f7a4_17 : decode cJ6_bitCount_0f7a4 17 = .ok (.iushr, 1) := by decide +kernel
theorem dJ6_bitCount_0f7a4_18 : decode cJ6_bitCount_0f7a4 18 = .ok (.ldc_w 266, 3) := by decide +kernel
theorem dJ6_bitCount_0f7a4_21 : decode cJ6_bitCount_0f7a4 21 = .ok (.iand, 1) := by decide +kernel
theorem dJ6_bitCount_0f7a4_22 : decode cJ6_bitCount_0f7a4 22 = .ok (.iadd, 1) := by decide +kernel
theorem dJ6_bitCount_0f7a4_23 : decode cJ6_bitCount_0f7a4 23 = .ok (.istore_n 0, 1) := by decide +kernel
theorem dJ6_bitCount_0f7a4_24 : decode cJ6_bitCount_0f7a4 24 = .ok (.iload_n 0, 1) := by decide +kernel
theorem dJ6_bitCount_0f7a4_25 : decode cJ6_bitCount_0f7a4 25 = .ok (.iload_n 0, 1) := by decide +kernel
theorem dJ6_bitCount_0f7a4_26 : decode cJ6_bitCount_0f7a4 26 = .ok (.iconst 4, 1) := by decide +kernel
theorem dJ6_bitCount_0f7a4_27 : decode cJ6_bitCount_0f7a4 27 = .ok (.iushr, 1) := by decide +kernel
theorem dJ6_bitCount_0f7a4_28 : decode cJ6_bitCount_0f7a4 28 = .ok (.iadd, 1) := by decide +kernel
theorem dJ6_bitCount_0f7a4_29 : decode cJ6_bitCount_0f7a4 29 = .ok (.ldc_w 267, 3) := by decide +kernel
theorem dJ6_bitCount_0f7a4_32 : decode cJ6_bitCount_0f7a4 32 = .ok (.iand, 1) := by decide +kernel
theorem dJ6_bitCount_0f7a4_33 : decode cJ6_bitCount_0f7a4 33 = .ok (.istore_n 0, 1) := by decide +kernel
theorem dJ6_bitCount_0f7a4_34 : decode cJ6_bitCount_0f7a4 34 = .ok (.iload_n 0, 1) := by decide +kernel
theorem dJ6_bitCount_0f7a4_35 : decode cJ6_bitCount_0f7a4 35 = .ok (.iload_n 0, 1) := by decide +kernel
theorem dJ6_bitCount_0f7a4_36 : decode cJ6_bitCount_0f7a4 36 = .ok (.bipush 8, 2) := by decide +kernel
theorem dJ6_bitCount_0f7a4_38 : decode cJ6_bitCount_0f7a4 38 = .ok (.iushr, 1) := by decide +kernel
theorem dJ6_bitCount_0f7a4_39 : decode cJ6_bitCount_0f7a4 39 = .ok (.iadd, 1) := by decide +kernel
theorem dJ6_bitCount_0f7a4_40 : decode cJ6_bitCount_0f7a4 40 = .ok (.istore_n 0, 1) := by decide +kernel
theorem dJ6_bitCount_0f7a4_41 : decode cJ6_bitCount_0f7a4 41 = .ok (.iload_n 0, 1) := by decide +kernel
theorem dJ6_bitCount_0f7a4_42 : decode cJ6_bitCount_0f7a4 42 = .ok (.iload_n 0, 1) := by decide +kernel
theorem dJ6_bitCount_0f7a4_43 : decode cJ6_bitCount_0f7a4 43 = .ok (.bipush 16, 2) := by decide +kernel
theorem dJ6_bitCount_0f7a4_45 : decode cJ6_bitCount_0f7a4 45 = .ok (.iushr, 1) := by decide +kernel
theorem dJ6_bitCount_0f7a4_46 : decode cJ6_bitCount_0f7a4 46 = .ok (.iadd, 1) := by decide +kernel
theorem dJ6_bitCount_0f7a4_47 : decode cJ6_bitCount_0f7a4 47 = .ok (.istore_n 0, 1) := by decide +kernel
theorem dJ6_bitCount_0f7a4_48 : decode cJ6_bitCount_0f7a4 48 = .ok (.iload_n 0, 1) := by decide +kernel
theorem dJ6_bitCount_0f7a4_49 : decode cJ6_bitCount_0f7a4 49 = .ok (.bipush 63, 2) := by decide +kernel
theorem dJ6_bitCount_0f7a4_51 : decode cJ6_bitCount_0f7a4 51 = .ok (.iand, 1) := by decide +kernel
theorem dJ6_bitCount_0f7a4_52 : decode cJ6_bitCount_0f7a4 52 = .ok (.ireturn, 1) := by decide +kernel
theorem dJ7_fill_53178_0 : decode cJ7_fill_53178 0 = .ok (.iconst 0, 1) := by decide +kernel
theorem dJ7_fill_53178_1 : decode cJ7_fill_53178 1 = .ok (.istore_n 2, 1) := by decide +kernel
theorem dJ7_fill_53178_2 : decode cJ7_fill_53178 2 = .ok (.aload_n 0, 1) := by decide +kernel
theorem dJ7_fill_53178_3 : decode cJ7_fill_53178 3 = .ok (.arraylength, 1) := by decide +kernel
theorem dJ7_fill_53178_4 : decode cJ7_fill_53178 4 = .ok (.istore_n 3, 1) := by decide +kernel
theorem dJ7_fill_53178_5 : decode cJ7_fill_53178 5 = .ok (.iload_n 2, 1) := by decide +kernel
theorem dJ7_fill_53178_6 : decode cJ7_fill_53178 6 = .ok (.iload_n 3, 1) := by decide +kernel
theorem dJ7_fill_53178_7 : decode cJ7_fill_53178 7 = .ok (.if_icmp .ge 13, 3) := by decide +kernel
theorem dJ7_fill_53178_10 : decode cJ7_fill_53178 10 = .ok (.aload_n 0, 1) := by decide +kernel
theorem dJ7_fill_53178_11 : decode cJ7_fill_53178 11 = .ok (.iload_n 2, 1) := by decide +kernel
theorem dJ7_fill_53178_12 : decode cJ7_fill_53178 12 = .ok (.iload_n 1, 1) := by decide +kernel
theorem dJ7_fill_53178_13 : decode cJ7_fill_53178 13 = .ok (.iastore, 1) := by decide +kernel
theorem dJ7_fill_53178_14 : decode cJ7_fill_53178 14 = .ok (.iinc 2 1, 3) := by decide +kernel
theorem dJ7_fill_53178_17 : decode cJ7_fill_53178 17 = .ok (.goto (-12), 3) := by decide +kernel
theorem dJ7_fill_53178_20 : decode cJ7_fill_53178 20 = .ok (.return_, 1) := by decide +kernel
theorem dJ9_abs_0f7a4_0 : decode cJ9_abs_0f7a4 0 = .ok (.iload_n 0, 1) := by decide +kernel
theorem dJ9_abs_0f7a4_1 : decode cJ9_abs_0f7a4 1 = .ok (.ifCond .ge 8, 3) := by decide +kernel
theorem dJ9_abs_0f7a4_4 : decode cJ9_abs_0f7a4 4 = .ok (.iload_n 0, 1) := by decide +kernel
theorem dJ9_abs_0f7a4_5 : decode cJ9_abs_0f7a4 5 = .ok (.ineg, 1) := by decide +kernel
theorem dJ9_abs_0f7a4_6 : decode cJ9_abs_0f7a4 6 = .ok (.goto 4, 3) := by decide +kernel
theorem dJ9_abs_0f7a4_9 : decode cJ9_abs_0f7a4 9 = .ok (.iload_n 0, 1) := by decide +kernel
theorem dJ9_abs_0f7a4_10 : decode cJ9_abs_0f7a4 10 = .ok (.ireturn, 1) := by decide +kernel
theorem dJ9_max_7cf53_0 : decode cJ9_max_7cf53 0 = .ok (.iload_n 0, 1) := by decide +kernel
theorem dJ9_max_7cf53_1 : decode cJ9_max_7cf53 1 = .ok (.iload_n 1, 1) := by decide +kernel
theorem dJ9_max_7cf53_2 : decode cJ9_max_7cf53 2 = .ok (.if_icmp .lt 7, 3) := by decide +kernel
theorem dJ9_max_7cf53_5 : decode cJ9_max_7cf53 5 = .ok (.iload_n 0, 1) := by decide +kernel
theorem dJ9_max_7cf53_6 : decode cJ9_max_7cf53 6 = .ok (.goto 4, 3) := by decide +kernel
theorem dJ9_max_7cf53_9 : decode cJ9_max_7cf53 9 = .ok (.iload_n 1, 1) := by decide +kernel
theorem dJ9_max_7cf53_10 : decode cJ9_max_7cf53 10 = .ok (.ireturn, 1) := by decide +kernel
theorem dJ9_min_7cf53_0 : decode cJ9_min_7cf53 0 = .ok (.iload_n 0, 1) := by decide +kernel
theorem dJ9_min_7cf53_1 : decode cJ9_min_7cf53 1 = .ok (.iload_n 1, 1) := by decide +kernel
theorem dJ9_min_7cf53_2 : decode cJ9_min_7cf53 2 = .ok (.if_icmp .gt 7, 3) := by decide +kernel
theorem dJ9_min_7cf53_5 : decode cJ9_min_7cf53 5 = .ok (.iload_n 0, 1) := by decide +kernel
theorem dJ9_min_7cf53_6 : decode cJ9_min_7cf53 6 = .ok (.goto 4, 3) := by decide +kernel
theorem dJ9_min_7cf53_9 : decode cJ9_min_7cf53 9 = .ok (.iload_n 1, 1) := by decide +kernel
theorem dJ9_min_7cf53_10 : decode cJ9_min_7cf53 10 = .ok (.ireturn, 1) := by decide +kernel
end
section
theorem dX3_init_0 : decode cX3_init 0 = .ok (.aload_n 0, 1) := by decide +kernel
theorem dX3_init_1 : decode cX3_init 1 = .ok (.invokespecial 3, 3) := by decide +kernel
theorem dX3_init_4 : decode cX3_init 4 = .ok (.aload_n 0, 1) := by decide +kernel
theorem dX3_init_5 : decode cX3_init 5 = .ok (.bipush 64, 2) := by decide +kernel
theorem dX3_init_7 : decode cX3_init 7 = .ok (.newarray .int, 2) := by decide +kernel
theorem dX3_init_9 : decode cX3_init 9 = .ok (.putfield 9, 3) := by decide +kernel
theorem dX3_init_12 : decode cX3_init 12 = .ok (.aload_n 0, 1) := by decide +kernel
theorem dX3_init_13 : decode cX3_init 13 = .ok (.bipush 64, 2) := by decide +kernel
theorem dX3_init_15 : decode cX3_init 15 = .ok (.newarray .int, 2) := by decide +kernel
theorem dX3_init_17 : decode cX3_init 17 = .ok (.putfield 15, 3) := by decide +kernel
theorem dX3_init_20 : decode cX3_init 20 = .ok (.aload_n 0, 1) := by decide +kernel
theorem dX3_init_21 : decode cX3_init 21 = .ok (.bipush 6, 2) := by decide +kernel
theorem dX3_init_23 : decode cX3_init 23 = .ok (.newarray .int, 2) := by decide +kernel
theorem dX3_init_25 : decode cX3_init 25 = .ok (.putfield 18, 3) := by decide +kernel
theorem dX3_init_28 : decode cX3_init 28 = .ok (.aload_n 0, 1) := by decide +kernel
theorem dX3_init_29 : decode cX3_init 29 = .ok (.bipush 36, 2) := by decide +kernel
theorem dX3_init_31 : decode cX3_init 31 = .ok (.newarray .int, 2) := by decide +kernel
theorem dX3_init_33 : decode cX3_init 33 = .ok (.putfield 21, 3) := by decide +kernel
theorem dX3_init_36 : decode cX3_init 36 = .ok (.aload_n 0, 1) := by decide +kernel
theorem dX3_init_37 : decode cX3_init 37 = .ok (.iconst 0, 1) := by decide +kernel
theorem dX3_init_38 : decode cX3_init 38 = .ok (.putfield 24, 3) := by decide +kernel
theorem dX3_init_41 : decode cX3_init 41 = .ok (.aload_n 0, 1) := by decide +kernel
theorem dX3_init_42 : decode cX3_init 42 = .ok (.iconst 0, 1) := by decide +kernel
theorem dX3_init_43 : decode cX3_init 43 = .ok (.putfield 28, 3) := by decide +kernel
theorem dX3_init_46 : decode cX3_init 46 = .ok (.aload_n 0, 1) := by decide +kernel
theorem dX3_init_47 : decode cX3_init 47 = .ok (.iconst 0, 1) := by decide +kernel
theorem dX3_init_48 : decode cX3_init 48 = .ok (.putfield 31, 3) := by decide +kernel
theorem dX3_init_51 : decode cX3_init 51 = .ok (.aload_n 0, 1) := by decide +kernel
theorem dX3_init_52 : decode cX3_init 52 = .ok (.iconst 0, 1) := by decide +kernel
theorem dX3_init_53 : decode cX3_init 53 = .ok (.putfield 34, 3) := by decide +kernel
theorem dX3_init_56 : decode cX3_init 56 = .ok (.return_, 1) := by decide +kernel
theorem dX3_look_0 : decode cX3_look 0 = .ok (.aload_n 0, 1) := by decide +kernel
theorem dX3_look_1 : decode cX3_look 1 = .ok (.aload_n 1, 1) := by decide +kernel
theorem dX3_look_2 : decode cX3_look 2 = .ok (.invokevirtual 37, 3) := by decide +kernel
theorem dX3_look_5 : decode cX3_look 5 = .ok (.putfield 24, 3) := by decide +kernel
theorem dX3_look_8 : decode cX3_look 8 = .ok (.aload_n 0, 1) := by decide +kernel
theorem dX3_look_9 : decode cX3_look 9 = .ok (.aload_n 1, 1) := by decide +kernel
theorem dX3_look_10 : decode cX3_look 10 = .ok (.invokevirtual 43, 3) := by decide +kernel
theorem dX3_look_13 : decode cX3_look 13 = .ok (.putfield 28, 3) := by decide +kernel
theorem dX3_look_16 : decode cX3_look 16 = .ok (.aload_n 0, 1) := by decide +kernel
theorem dX3_look_17 : decode cX3_look 17 = .ok (.iconst 0, 1) := by decide +kernel
theorem dX3_look_18 : decode cX3_look 18 = .ok (.putfield 31, 3) := by decide +kernel
theorem dX3_look_21 : decode cX3_look 21 = .ok (.iconst 0, 1) := by decide +kernel
theorem dX3_look_22 : decode cX3_look 22 = .ok (.istore_n 3, 1) := by decide +kernel
theorem dX3_look_23 : decode cX3_look 23 = .ok (.iload_n 3, 1) := by decide +kernel
theorem dX3_look_24 : decode cX3_look 24 = .ok (.aload_n 0, 1) := by decide +kernel
theorem dX3_look_25 : decode cX3_look 25 = .ok (.getfield 24, 3) := by decide +kernel
theorem dX3_look_28 : decode cX3_look 28 = .ok (.if_icmp .ge 66, 3) := by decide +kernel
theorem dX3_look_31 : decode cX3_look 31 = .ok (.aload_n 1, 1) := by decide +kernel
theorem dX3_look_32 : decode cX3_look 32 = .ok (.iload_n 3, 1) := by decide +kernel
theorem dX3_look_33 : decode cX3_look 33 = .ok (.invokevirtual 46, 3) := by decide +kernel
theorem dX3_look_36 : decode cX3_look 36 = .ok (.istore 4, 2) := by decide +kernel
theorem dX3_look_38 : decode cX3_look 38 = .ok (.aload_n 0, 1) := by decide +kernel
theorem dX3_look_39 : decode cX3_look 39 = .ok (.getfield 9, 3) := by decide +kernel
theorem dX3_look_42 : decode cX3_look 42 = .ok (.iconst 1, 1) := by decide +kernel
theorem dX3_look_43 : decode cX3_look 43 = .ok (.iload_n 3, 1) := by decide +kernel
theorem dX3_look_44 : decode cX3_look 44 = .ok (.ishl, 1) := by decide +kernel
theorem dX3_look_45 : decode cX3_look 45 = .ok (.aload_n 1, 1) := by decide +kernel
theorem dX3_look_46 : decode cX3_look 46 = .ok (.iload 4, 2) := by decide +kernel
theorem dX3_look_48 : decode cX3_look 48 = .ok (.iload_n 2, 1) := by decide +kernel
theorem dX3_look_49 : decode cX3_look 49 = .ok (.invokevirtual 50, 3) := by decide +kernel
theorem dX3_look_52 : decode cX3_look 52 = .ok (.invokestatic 54, 3) := by decide +kernel
theorem dX3_look_55 : decode cX3_look 55 = .ok (.aload_n 0, 1) := by decide +kernel
theorem dX3_look_56 : decode cX3_look 56 = .ok (.getfield 15, 3) := by decide +kernel
theorem dX3_look_59 : decode cX3_look 59 = .ok (.iconst 1, 1) := by decide +kernel
theorem dX3_look_60 : decode cX3_look 60 = .ok (.iload_n 3, 1) := by decide +kernel
theorem dX3_look_61 : decode cX3_look 61 = .ok (.ishl, 1) := by decide +kernel
theorem dX3_look_62 : decode cX3_look 62 = .ok (.aload_n 1, 1) := by decide +kernel
theorem dX3_look_63 : decode cX3_look 63 = .ok (.iload_n 3, 1) := by decide +kernel
theorem dX3_look_64 : decode cX3_look 64 = .ok (.invokevirtual 58, 3) := by decide +kernel
theorem dX3_look_67 : decode cX3_look 67 = .ok (.invokestatic 54, 3) := by decide +kernel
theorem dX3_look_70 : decode cX3_look 70 = .ok (.iload 4, 2) := by decide +kernel
theorem dX3_look_72 : decode cX3_look 72 = .ok (.iload_n 2, 1) := by decide +kernel
theorem dX3_look_73 : decode cX3_look 73 = .ok (.if_icmp .le 15, 3) := by decide +kernel
theorem dX3_look_76 : decode cX3_look 76 = .ok (.aload_n 0, 1) := by decide +kernel
theorem dX3_look_77 : decode cX3_look 77 = .ok (.dup, 1) := by decide +kernel
theorem dX3_look_78 : decode cX3_look 78 = .ok (.getfield 31, 3) := by decide +kernel
theorem dX3_look_81 : decode cX3_look 81 = .ok (.iconst 1, 1) := by decide +kernel
theorem dX3_look_82 : decode cX3_look 82 = .ok (.iload_n 3, 1) := by decide +kernel
theorem dX3_look_83 : decode cX3_look 83 = .ok (.ishl, 1) := by decide +kernel
theorem dX3_look_84 : decode cX3_look 84 = .ok (.ior, 1) := by decide +kernel
theorem dX3_look_85 : decode cX3_look 85 = .ok (.putfield 31, 3) := by decide +kernel
theorem dX3_look_88 : decode cX3_look 88 = .ok (.iinc 3 1, 3) := by decide +kernel
theorem dX3_look_91 : decode cX3_look 91 = .ok (.goto (-68), 3) := by decide +kernel
theorem dX3_look_94 : decode cX3_look 94 = .ok (.iconst 0, 1) := by decide +kernel
theorem dX3_look_95 : decode cX3_look 95 = .ok (.istore_n 3, 1) := by decide +kernel
theorem dX3_look_96 : decode cX3_look 96 = .ok (.iload_n 3, 1) := by decide +kernel
theorem dX3_look_97 : decode cX3_look 97 = .ok (.aload_n 0, 1) := by decide +kernel
theorem dX3_look_98 : decode cX3_look 98 = .ok (.getfield 28, 3) := by decide +kernel
theorem dX3_look_101 : decode cX3_look 101 = .ok (.if_icmp .ge 22, 3) := by decide +kernel
theorem dX3_look_104 : decode cX3_look 104 = .ok (.aload_n 0, 1) := by decide +kernel
theorem dX3_look_105 : decode cX3_look 105 = .ok (.getfield 18, 3) := by decide +kernel
theorem dX3_look_108 : decode cX3_look 108 = .ok (.iload_n 3, 1) := by decide +kernel
theorem dX3_look_109 : decode cX3_look 109 = .ok (.aload_n 1, 1) := by decide +kernel
theorem dX3_look_110 : decode cX3_look 110 = .ok (.iload_n 3, 1) := by decide +kernel
theorem dX3_look_111 : decode cX3_look 111 = .ok (.invokevirtual 61, 3) := by decide +kernel
theorem dX3_look_114 : decode cX3_look 114 = .ok (.invokestatic 54, 3) := by decide +kernel
theorem dX3_look_117 : decode cX3_look 117 = .ok (.iinc 3 1, 3) := by decide +kernel
theorem dX3_look_120 : decode cX3_look 120 = .ok (.goto (-24), 3) := by decide +kernel
theorem dX3_look_123 : decode cX3_look 123 = .ok (.aload_n 0, 1) := by decide +kernel
theorem dX3_look_124 : decode cX3_look 124 = .ok (.invokevirtual 64, 3) := by decide +kernel
theorem dX3_look_127 : decode cX3_look 127 = .ok (.return_, 1) := by decide +kernel
theorem dX3_joinSets_0 : decode cX3_joinSets 0 = .ok (.iconst 1, 1) := by decide +kernel
theorem dX3_joinSets_1 : decode cX3_joinSets 1 = .ok (.istore_n 1, 1) := by decide +kernel
theorem dX3_joinSets_2 : decode cX3_joinSets 2 = .ok (.iload_n 1, 1) := by decide +kernel
theorem dX3_joinSets_3 : decode cX3_joinSets 3 = .ok (.iconst 1, 1) := by decide +kernel
theorem dX3_joinSets_4 : decode cX3_joinSets 4 = .ok (.aload_n 0, 1) := by decide +kernel
theorem dX3_joinSets_5 : decode cX3_joinSets 5 = .ok (.getfield 24, 3) := by decide +kernel
theorem dX3_joinSets_8 : decode cX3_joinSets 8 = .ok (.ishl, 1) := by decide +kernel
theorem dX3_joinSets_9 : decode cX3_joinSets 9 = .ok (.if_icmp .ge 69, 3) := by decide +kernel
theorem dX3_joinSets_12 : decode cX3_joinSets 12 = .ok (.iload_n 1, 1) := by decide +kernel
theorem dX3_joinSets_13 : decode cX3_joinSets 13 = .ok (.iload_n 1, 1) := by decide +kernel
theorem dX3_joinSets_14 : decode cX3_joinSets 14 = .ok (.iconst 1, 1) := by decide +kernel
theorem dX3_joinSets_15 : decode cX3_joinSets 15 = .ok (.isub, 1) := by decide +kernel
theorem dX3_joinSets_16 : decode cX3_joinSets 16 = .ok (.iand, 1) := by decide +kernel
theorem dX3_joinSets_17 : decode cX3_joinSets 17 = .ok (.istore_n 2, 1) := by decide +kernel
theorem dX3_joinSets_18 : decode cX3_joinSets 18 = .ok (.iload_n 1, 1) := by decide +kernel
theorem dX3_joinSets_19 : decode cX3_joinSets 19 = .ok (.iload_n 2, 1) := by decide +kernel
theorem dX3_joinSets_20 : decode cX3_joinSets 20 = .ok (.ixor, 1) := by decide +kernel
theorem dX3_joinSets_21 : decode cX3_joinSets 21 = .ok (.istore_n 3, 1) := by decide +kernel
theorem dX3_joinSets_22 : decode cX3_joinSets 22 = .ok (.aload_n 0, 1) := by decide +kernel
theorem dX3_joinSets_23 : decode cX3_joinSets 23 = .ok (.getfield 9, 3) := by decide +kernel
theorem dX3_joinSets_26 : decode cX3_joinSets 26 = .ok (.iload_n 1, 1) := by decide +kernel
theorem dX3_joinSets_27 : decode cX3_joinSets 27 = .ok (.aload_n 0, 1) := by decide +kernel
theorem dX3_joinSets_28 : decode cX3_joinSets 28 = .ok (.getfield 9, 3) := by decide +kernel
theorem dX3_joinSets_31 : decode cX3_joinSets 31 = .ok (.iload_n 2, 1) := by decide +kernel
theorem dX3_joinSets_32 : decode cX3_joinSets 32 = .ok (.invokestatic 67, 3) := by decide +kernel
theorem dX3_joinSets_35 : decode cX3_joinSets 35 = .ok (.aload_n 0, 1) := by decide +kernel
theorem dX3_joinSets_36 : decode cX3_joinSets 36 = .ok (.getfield 9, 3) := by decide +kernel
theorem dX3_joinSets_39 : decode cX3_joinSets 39 = .ok (.iload_n 3, 1) := by decide +kernel
theorem dX3_joinSets_40 : decode cX3_joinSets 40 = .ok (.invokestatic 67, 3) := by decide +kernel
theorem dX3_joinSets_43 : decode cX3_joinSets 43 = .ok (.iadd, 1) := by decide +kernel
theorem dX3_joinSets_44 : decode cX3_joinSets 44 = .ok (.invokestatic 54, 3) := by decide +kernel
theorem dX3_joinSets_47 : decode cX3_joinSets 47 = .ok (.aload_n 0, 1) := by decide +kernel
theorem dX3_joinSets_48 : decode cX3_joinSets 48 = .ok (.getfield 15, 3) := by decide +kernel
theorem dX3_joinSets_51 : decode cX3_joinSets 51 = .ok (.iload_n 1, 1) := by decide +kernel
theorem dX3_joinSets_52 : decode cX3_joinSets 52 = .ok (.aload_n 0, 1) := by decide +kernel
theorem dX3_joinSets_53 : decode cX3_joinSets 53 = .ok (.getfield 15, 3) := by decide +kernel
theorem dX3_joinSets_56 : decode cX3_joinSets 56 = .ok (.iload_n 2, 1) := by decide +kernel
theorem dX3_joinSets_57 : decode cX3_joinSets 57 = .ok (.invokestatic 67, 3) := by decide +kernel
theorem dX3_joinSets_60 : decode cX3_joinSets 60 = .ok (.aload_n 0, 1) := by decide +kernel
theorem dX3_joinSets_61 : decode cX3_joinSets 61 = .ok (.getfield 15, 3) := by decide +kernel
theorem dX3_joinSets_64 : decode cX3_joinSets 64 = .ok (.iload_n 3, 1) := by decide +kernel
theorem dX3_joinSets_65 : decode cX3_joinSets 65 = .ok (.invokestatic 67, 3) := by decide +kernel
theorem dX3_joinSets_68 : decode cX3_joinSets 68 = .ok (.ior, 1) := by decide +kernel
theorem dX3_joinSets_69 : decode cX3_joinSets 69 = .ok (.invokestatic 54, 3) := by decide +kernel
theorem dX3_joinSets_72 : decode cX3_joinSets 72 = .ok (.iinc 1 1, 3) := by decide +kernel
theorem dX3_joinSets_75 : decode cX3_joinSets 75 = .ok (.goto (-73), 3) := by decide +kernel
theorem dX3_joinSets_78 : decode cX3_joinSets 78 = .ok (.return_, 1) := by decide +kernel
theorem dX3_fits_0 : decode cX3_fits 0 = .ok (.aload_n 0, 1) := by decide +kernel
theorem dX3_fits_1 : decode cX3_fits 1 = .ok (.getfield 31, 3) := by decide +kernel
theorem dX3_fits_4 : decode cX3_fits 4 = .ok (.ifCond .ne 14, 3) := by decide +kernel
theorem dX3_fits_7 : decode cX3_fits 7 = .ok (.aload_n 0, 1) := by decide +kernel
theorem dX3_fits_8 : decode cX3_fits 8 = .ok (.invokevirtual 71, 3) := by decide +kernel
theorem dX3_fits_11 : decode cX3_fits 11 = .ok (.ifCond .ne 7, 3) := by decide +kernel
theorem dX3_fits_14 : decode cX3_fits 14 = .ok (.iconst 1, 1) := by decide +kernel
theorem dX3_fits_15 : decode cX3_fits 15 = .ok (.goto 4, 3) := by decide +kernel
theorem dX3_fits_18 : decode cX3_fits 18 = .ok (.iconst 0, 1) := by decide +kernel
theorem dX3_fits_19 : decode cX3_fits 19 = .ok (.ireturn, 1) := by decide +kernel
theorem dX3_fitsWithOneMore_0 : decode cX3_fitsWithOneMore 0 = .ok (.aload_n 0, 1) := by decide +kernel
theorem dX3_fitsWithOneMore_1 : decode cX3_fitsWithOneMore 1 = .ok (.getfield 18, 3) := by decide +kernel
theorem dX3_fitsWithOneMore_4 : decode cX3_fitsWithOneMore 4 = .ok (.iload_n 1, 1) := by decide +kernel
theorem dX3_fitsWithOneMore_5 : decode cX3_fitsWithOneMore 5 = .ok (.invokestatic 67, 3) := by decide +kernel
theorem dX3_fitsWithOneMore_8 : decode cX3_fitsWithOneMore 8 = .ok (.istore_n 2, 1) := by decide +kernel
theorem dX3_fitsWithOneMore_9 : decode cX3_fitsWithOneMore 9 = .ok (.aload_n 0, 1) := by decide +kernel
theorem dX3_fitsWithOneMore_10 : decode cX3_fitsWithOneMore 10 = .ok (.getfield 18, 3) := by decide +kernel
theorem dX3_fitsWithOneMore_13 : decode cX3_fitsWithOneMore 13 = .ok (.iload_n 1, 1) := by decide +kernel
theorem dX3_fitsWithOneMore_14 : decode cX3_fitsWithOneMore 14 = .ok (.iload_n 2, 1) := by decide +kernel
theorem dX3_fitsWithOneMore_15 : decode cX3_fitsWithOneMore 15 = .ok (.iconst 1, 1) := by decide +kernel
theorem dX3_fitsWithOneMore_16 : decode cX3_fitsWithOneMore 16 = .ok (.iadd, 1) := by decide +kernel
theorem dX3_fitsWithOneMore_17 : decode cX3_fitsWithOneMore 17 = .ok (.invokestatic 54, 3) := by decide +kernel
theorem dX3_fitsWithOneMore_20 : decode cX3_fitsWithOneMore 20 = .ok (.aload_n 0, 1) := by decide +kernel
theorem dX3_fitsWithOneMore_21 : decode cX3_fitsWithOneMore 21 = .ok (.invokevirtual 74, 3) := by decide +kernel
theorem dX3_fitsWithOneMore_24 : decode cX3_fitsWithOneMore 24 = .ok (.istore_n 3, 1) := by decide +kernel
theorem dX3_fitsWithOneMore_25 : decode cX3_fitsWithOneMore 25 = .ok (.aload_n 0, 1) := by decide +kernel
theorem dX3_fitsWithOneMore_26 : decode cX3_fitsWithOneMore 26 = .ok (.getfield 18, 3) := by decide +kernel
theorem dX3_fitsWithOneMore_29 : decode cX3_fitsWithOneMore 29 = .ok (.iload_n 1, 1) := by decide +kernel
theorem dX3_fitsWithOneMore_30 : decode cX3_fitsWithOneMore 30 = .ok (.iload_n 2, 1) := by decide +kernel
theorem dX3_fitsWithOneMore_31 : decode cX3_fitsWithOneMore 31 = .ok (.invokestatic 54, 3) := by decide +kernel
theorem dX3_fitsWithOneMore_34 : decode cX3_fitsWithOneMore 34 = .ok (.iload_n 3, 1) := by decide +kernel
theorem dX3_fitsWithOneMore_35 : decode cX3_fitsWithOneMore 35 = .ok (.ireturn, 1) := by decide +kernel
theorem dX3_findBlocked_0 : decode cX3_findBlocked 0 = .ok (.aload_n 0, 1) := by decide +kernel
theorem dX3_findBlocked_1 : decode cX3_findBlocked 1 = .ok (.aload_n 0, 1) := by decide +kernel
theorem dX3_findBlocked_2 : decode cX3_findBlocked 2 = .ok (.getfield 31, 3) := by decide +kernel
theorem dX3_findBlocked_5 : decode cX3_findBlocked 5 = .ok (.ifCond .eq 10, 3) := by decide +kernel
theorem dX3_findBlocked_8 : decode cX3_findBlocked 8 = .ok (.aload_n 0, 1) := by decide +kernel
theorem dX3_findBlocked_9 : decode cX3_findBlocked 9 = .ok (.getfield 31, 3) := by decide +kernel
theorem dX3_findBlocked_12 : decode cX3_findBlocked 12 = .ok (.goto 7, 3) := by decide +kernel
theorem dX3_findBlocked_15 : decode cX3_findBlocked 15 = .ok (.aload_n 0, 1) := by decide +kernel
theorem dX3_findBlocked_16 : decode cX3_findBlocked 16 = .ok (.invokevirtual 71, 3) := by decide +kernel
theorem dX3_findBlocked_19 : decode cX3_findBlocked 19 = .ok (.putfield 34, 3) := by decide +kernel
theorem dX3_findBlocked_22 : decode cX3_findBlocked 22 = .ok (.return_, 1) := by decide +kernel
theorem dX3_drawLine_0 : decode cX3_drawLine 0 = .ok (.aload_n 0, 1) := by decide +kernel
theorem dX3_drawLine_1 : decode cX3_drawLine 1 = .ok (.getfield 9, 3) := by decide +kernel
theorem dX3_drawLine_4 : decode cX3_drawLine 4 = .ok (.iconst 1, 1) := by decide +kernel
theorem dX3_drawLine_5 : decode cX3_drawLine 5 = .ok (.iload_n 1, 1) := by decide +kernel
theorem dX3_drawLine_6 : decode cX3_drawLine 6 = .ok (.ishl, 1) := by decide +kernel
theorem dX3_drawLine_7 : decode cX3_drawLine 7 = .ok (.invokestatic 67, 3) := by decide +kernel
theorem dX3_drawLine_10 : decode cX3_drawLine 10 = .ok (.istore_n 2, 1) := by decide +kernel
theorem dX3_drawLine_11 : decode cX3_drawLine 11 = .ok (.iconst 0, 1) := by decide +kernel
theorem dX3_drawLine_12 : decode cX3_drawLine 12 = .ok (.istore_n 3, 1) := by decide +kernel
theorem dX3_drawLine_13 : decode cX3_drawLine 13 = .ok (.iload_n 3, 1) := by decide +kernel
theorem dX3_drawLine_14 : decode cX3_drawLine 14 = .ok (.aload_n 0, 1) := by decide +kernel
theorem dX3_drawLine_15 : decode cX3_drawLine 15 = .ok (.getfield 28, 3) := by decide +kernel
theorem dX3_drawLine_18 : decode cX3_drawLine 18 = .ok (.if_icmp .ge 86, 3) := by decide +kernel
theorem dX3_drawLine_21 : decode cX3_drawLine 21 = .ok (.aload_n 0, 1) := by decide +kernel
theorem dX3_drawLine_22 : decode cX3_drawLine 22 = .ok (.getfield 15, 3) := by decide +kernel
theorem dX3_drawLine_25 : decode cX3_drawLine 25 = .ok (.iconst 1, 1) := by decide +kernel
theorem dX3_drawLine_26 : decode cX3_drawLine 26 = .ok (.iload_n 1, 1) := by decide +kernel
theorem dX3_drawLine_27 : decode cX3_drawLine 27 = .ok (.ishl, 1) := by decide +kernel
theorem dX3_drawLine_28 : decode cX3_drawLine 28 = .ok (.invokestatic 67, 3) := by decide +kernel
theorem dX3_drawLine_31 : decode cX3_drawLine 31 = .ok (.iload_n 3, 1) := by decide +kernel
theorem dX3_drawLine_32 : decode cX3_drawLine 32 = .ok (.invokestatic 78, 3) := by decide +kernel
theorem dX3_drawLine_35 : decode cX3_drawLine 35 = .ok (.istore 4, 2) := by decide +kernel
theorem dX3_drawLine_37 : decode cX3_drawLine 37 = .ok (.iload 4, 2) := by decide +kernel
theorem dX3_drawLine_39 : decode cX3_drawLine 39 = .ok (.ifCond .eq 16, 3) := by decide +kernel
theorem dX3_drawLine_42 : decode cX3_drawLine 42 = .ok (.iload_n 2, 1) := by decide +kernel
theorem dX3_drawLine_43 : decode cX3_drawLine 43 = .ok (.aload_n 0, 1) := by decide +kernel
theorem dX3_drawLine_44 : decode cX3_drawLine 44 = .ok (.iload_n 1, 1) := by decide +kernel
theorem dX3_drawLine_45 : decode cX3_drawLine 45 = .ok (.iload_n 3, 1) := by decide +kernel
theorem dX3_drawLine_46 : decode cX3_drawLine 46 = .ok (.invokevirtual 82, 3) := by decide +kernel
theorem dX3_drawLine_49 : decode cX3_drawLine 49 = .ok (.invokestatic 85, 3) := by decide +kernel
theorem dX3_drawLine_52 : decode cX3_drawLine 52 = .ok (.goto 4, 3) := by decide +kernel
theorem dX3_drawLine_55 : decode cX3_drawLine 55 = .ok (.iconst 0, 1) := by decide +kernel
theorem dX3_drawLine_56 : decode cX3_drawLine 56 = .ok (.istore 5, 2) := by decide +kernel
theorem dX3_drawLine_58 : decode cX3_drawLine 58 = .ok (.aload_n 0, 1) := by decide +kernel
theorem dX3_drawLine_59 : decode cX3_drawLine 59 = .ok (.getfield 21, 3) := by decide +kernel
theorem dX3_drawLine_62 : decode cX3_drawLine 62 = .ok (.iload_n 1, 1) := by decide +kernel
theorem dX3_drawLine_63 : decode cX3_drawLine 63 = .ok (.iload_n 3, 1) := by decide +kernel
theorem dX3_drawLine_64 : decode cX3_drawLine 64 = .ok (.bipush 6, 2) := by decide +kernel
theorem dX3_drawLine_66 : decode cX3_drawLine 66 = .ok (.invokestatic 90, 3) := by decide +kernel
theorem dX3_drawLine_69 : decode cX3_drawLine 69 = .ok (.iload 5, 2) := by decide +kernel
theorem dX3_drawLine_71 : decode cX3_drawLine 71 = .ok (.invokestatic 54, 3) := by decide +kernel
theorem dX3_drawLine_74 : decode cX3_drawLine 74 = .ok (.aload_n 0, 1) := by decide +kernel
theorem dX3_drawLine_75 : decode cX3_drawLine 75 = .ok (.getfield 18, 3) := by decide +kernel
theorem dX3_drawLine_78 : decode cX3_drawLine 78 = .ok (.iload_n 3, 1) := by decide +kernel
theorem dX3_drawLine_79 : decode cX3_drawLine 79 = .ok (.aload_n 0, 1) := by decide +kernel
theorem dX3_drawLine_80 : decode cX3_drawLine 80 = .ok (.getfield 18, 3) := by decide +kernel
theorem dX3_drawLine_83 : decode cX3_drawLine 83 = .ok (.iload_n 3, 1) := by decide +kernel
theorem dX3_drawLine_84 : decode cX3_drawLine 84 = .ok (.invokestatic 67, 3) := by decide +kernel
theorem dX3_drawLine_87 : decode cX3_drawLine 87 = .ok (.iload 5, 2) := by decide +kernel
theorem dX3_drawLine_89 : decode cX3_drawLine 89 = .ok (.isub, 1) := by decide +kernel
theorem dX3_drawLine_90 : decode cX3_drawLine 90 = .ok (.invokestatic 54, 3) := by decide +kernel
theorem dX3_drawLine_93 : decode cX3_drawLine 93 = .ok (.iload_n 2, 1) := by decide +kernel
theorem dX3_drawLine_94 : decode cX3_drawLine 94 = .ok (.iload 5, 2) := by decide +kernel
theorem dX3_drawLine_96 : decode cX3_drawLine 96 = .ok (.isub, 1) := by decide +kernel
theorem dX3_drawLine_97 : decode cX3_drawLine 97 = .ok (.istore_n 2, 1) := by decide +kernel
theorem dX3_drawLine_98 : decode cX3_drawLine 98 = .ok (.iinc 3 1, 3) := by decide +kernel
theorem dX3_drawLine_101 : decode cX3_drawLine 101 = .ok (.goto (-88), 3) := by decide +kernel
theorem dX3_drawLine_104 : decode cX3_drawLine 104 = .ok (.return_, 1) := by decide +kernel
theorem dX3_allFit_0 : decode cX3_allFit 0 = .ok (.aload_n 0, 1) := by decide +kernel
theorem dX3_allFit_1 : decode cX3_allFit 1 = .ok (.getfield 34, 3) := by decide +kernel
theorem dX3_allFit_4 : decode cX3_allFit 4 = .ok (.ifCond .ne 7, 3) := by decide +kernel
theorem dX3_allFit_7 : decode cX3_allFit 7 = .ok (.iconst 1, 1) := by decide +kernel
theorem dX3_allFit_8 : decode cX3_allFit 8 = .ok (.goto 4, 3) := by decide +kernel
theorem dX3_allFit_11 : decode cX3_allFit 11 = .ok (.iconst 0, 1) := by decide +kernel
theorem dX3_allFit_12 : decode cX3_allFit 12 = .ok (.ireturn, 1) := by decide +kernel
theorem dX3_blockedLines_0 : decode cX3_blockedLines 0 = .ok (.aload_n 0, 1) := by decide +kernel
theorem dX3_blockedLines_1 : decode cX3_blockedLines 1 = .ok (.getfield 34, 3) := by decide +kernel
theorem dX3_blockedLines_4 : decode cX3_blockedLines 4 = .ok (.ireturn, 1) := by decide +kernel
theorem dX3_freeOf_0 : decode cX3_freeOf 0 = .ok (.aload_n 0, 1) := by decide +kernel
theorem dX3_freeOf_1 : decode cX3_freeOf 1 = .ok (.getfield 18, 3) := by decide +kernel
theorem dX3_freeOf_4 : decode cX3_freeOf 4 = .ok (.iload_n 1, 1) := by decide +kernel
theorem dX3_freeOf_5 : decode cX3_freeOf 5 = .ok (.invokestatic 67, 3) := by decide +kernel
theorem dX3_freeOf_8 : decode cX3_freeOf 8 = .ok (.ireturn, 1) := by decide +kernel
theorem dX3_drawnBy_0 : decode cX3_drawnBy 0 = .ok (.aload_n 0, 1) := by decide +kernel
theorem dX3_drawnBy_1 : decode cX3_drawnBy 1 = .ok (.getfield 21, 3) := by decide +kernel
theorem dX3_drawnBy_4 : decode cX3_drawnBy 4 = .ok (.iload_n 1, 1) := by decide +kernel
theorem dX3_drawnBy_5 : decode cX3_drawnBy 5 = .ok (.iload_n 2, 1) := by decide +kernel
theorem dX3_drawnBy_6 : decode cX3_drawnBy 6 = .ok (.bipush 6, 2) := by decide +kernel
theorem dX3_drawnBy_8 : decode cX3_drawnBy 8 = .ok (.invokestatic 90, 3) := by decide +kernel
theorem dX3_drawnBy_11 : decode cX3_drawnBy 11 = .ok (.invokestatic 67, 3) := by decide +kernel
theorem dX3_drawnBy_14 : decode cX3_drawnBy 14 = .ok (.ireturn, 1) := by decide +kernel
theorem dX3_crowd_0 : decode cX3_crowd 0 = .ok (.iconst 0, 1) := by decide +kernel
theorem dX3_crowd_1 : decode cX3_crowd 1 = .ok (.istore_n 1, 1) := by decide +kernel
theorem dX3_crowd_2 : decode cX3_crowd 2 = .ok (.bipush 7, 2) := by decide +kernel
theorem dX3_crowd_4 : decode cX3_crowd 4 = .ok (.istore_n 2, 1) := by decide +kernel
theorem dX3_crowd_5 : decode cX3_crowd 5 = .ok (.iconst 1, 1) := by decide +kernel
theorem dX3_crowd_6 : decode cX3_crowd 6 = .ok (.istore_n 3, 1) := by decide +kernel
theorem dX3_crowd_7 : decode cX3_crowd 7 = .ok (.iload_n 3, 1) := by decide +kernel
theorem dX3_crowd_8 : decode cX3_crowd 8 = .ok (.iconst 1, 1) := by decide +kernel
theorem dX3_crowd_9 : decode cX3_crowd 9 = .ok (.aload_n 0, 1) := by decide +kernel
theorem dX3_crowd_10 : decode cX3_crowd 10 = .ok (.getfield 24, 3) := by decide +kernel
theorem dX3_crowd_13 : decode cX3_crowd 13 = .ok (.ishl, 1) := by decide +kernel
theorem dX3_crowd_14 : decode cX3_crowd 14 = .ok (.if_icmp .ge 34, 3) := by decide +kernel
theorem dX3_crowd_17 : decode cX3_crowd 17 = .ok (.iload_n 3, 1) := by decide +kernel
theorem dX3_crowd_18 : decode cX3_crowd 18 = .ok (.invokestatic 94, 3) := by decide +kernel
theorem dX3_crowd_21 : decode cX3_crowd 21 = .ok (.istore 4, 2) := by decide +kernel
theorem dX3_crowd_23 : decode cX3_crowd 23 = .ok (.iload 4, 2) := by decide +kernel
theorem dX3_crowd_25 : decode cX3_crowd 25 = .ok (.iload_n 2, 1) := by decide +kernel
theorem dX3_crowd_26 : decode cX3_crowd 26 = .ok (.if_icmp .ge 16, 3) := by decide +kernel
theorem dX3_crowd_29 : decode cX3_crowd 29 = .ok (.aload_n 0, 1) := by decide +kernel
theorem dX3_crowd_30 : decode cX3_crowd 30 = .ok (.iload_n 3, 1) := by decide +kernel
theorem dX3_crowd_31 : decode cX3_crowd 31 = .ok (.invokevirtual 99, 3) := by decide +kernel
theorem dX3_crowd_34 : decode cX3_crowd 34 = .ok (.ifCond .ge 8, 3) := by decide +kernel
theorem dX3_crowd_37 : decode cX3_crowd 37 = .ok (.iload_n 3, 1) := by decide +kernel
theorem dX3_crowd_38 : decode cX3_crowd 38 = .ok (.istore_n 1, 1) := by decide +kernel
theorem dX3_crowd_39 : decode cX3_crowd 39 = .ok (.iload 4, 2) := by decide +kernel
theorem dX3_crowd_41 : decode cX3_crowd 41 = .ok (.istore_n 2, 1) := by decide +kernel
theorem dX3_crowd_42 : decode cX3_crowd 42 = .ok (.iinc 3 1, 3) := by decide +kernel
theorem dX3_crowd_45 : decode cX3_crowd 45 = .ok (.goto (-38), 3) := by decide +kernel
theorem dX3_crowd_48 : decode cX3_crowd 48 = .ok (.iload_n 1, 1) := by decide +kernel
theorem dX3_crowd_49 : decode cX3_crowd 49 = .ok (.ireturn, 1) := by decide +kernel
theorem dX3_spare_0 : decode cX3_spare 0 = .ok (.aload_n 0, 1) := by decide +kernel
theorem dX3_spare_1 : decode cX3_spare 1 = .ok (.getfield 9, 3) := by decide +kernel
theorem dX3_spare_4 : decode cX3_spare 4 = .ok (.iload_n 1, 1) := by decide +kernel
theorem dX3_spare_5 : decode cX3_spare 5 = .ok (.invokestatic 67, 3) := by decide +kernel
theorem dX3_spare_8 : decode cX3_spare 8 = .ok (.ineg, 1) := by decide +kernel
theorem dX3_spare_9 : decode cX3_spare 9 = .ok (.istore_n 2, 1) := by decide +kernel
theorem dX3_spare_10 : decode cX3_spare 10 = .ok (.iconst 0, 1) := by decide +kernel
theorem dX3_spare_11 : decode cX3_spare 11 = .ok (.istore_n 3, 1) := by decide +kernel
theorem dX3_spare_12 : decode cX3_spare 12 = .ok (.iload_n 3, 1) := by decide +kernel
theorem dX3_spare_13 : decode cX3_spare 13 = .ok (.aload_n 0, 1) := by decide +kernel
theorem dX3_spare_14 : decode cX3_spare 14 = .ok (.getfield 28, 3) := by decide +kernel
theorem dX3_spare_17 : decode cX3_spare 17 = .ok (.if_icmp .ge 35, 3) := by decide +kernel
theorem dX3_spare_20 : decode cX3_spare 20 = .ok (.aload_n 0, 1) := by decide +kernel
theorem dX3_spare_21 : decode cX3_spare 21 = .ok (.getfield 15, 3) := by decide +kernel
theorem dX3_spare_24 : decode cX3_spare 24 = .ok (.iload_n 1, 1) := by decide +kernel
theorem dX3_spare_25 : decode cX3_spare 25 = .ok (.invokestatic 67, 3) := by decide +kernel
theorem dX3_spare_28 : decode cX3_spare 28 = .ok (.iload_n 3, 1) := by decide +kernel
theorem dX3_spare_29 : decode cX3_spare 29 = .ok (.invokestatic 78, 3) := by decide +kernel
theorem dX3_spare_32 : decode cX3_spare 32 = .ok (.ifCond .eq 14, 3) := by decide +kernel
theorem dX3_spare_35 : decode cX3_spare 35 = .ok (.iload_n 2, 1) := by decide +kernel
theorem dX3_spare_36 : decode cX3_spare 36 = .ok (.aload_n 0, 1) := by decide +kernel
theorem dX3_spare_37 : decode cX3_spare 37 = .ok (.getfield 18, 3) := by decide +kernel
theorem dX3_spare_40 : decode cX3_spare 40 = .ok (.iload_n 3, 1) := by decide +kernel
theorem dX3_spare_41 : decode cX3_spare 41 = .ok (.invokestatic 67, 3) := by decide +kernel
theorem dX3_spare_44 : decode cX3_spare 44 = .ok (.iadd, 1) := by decide +kernel
theorem dX3_spare_45 : decode cX3_spare 45 = .ok (.istore_n 2, 1) := by decide +kernel
theorem dX3_spare_46 : decode cX3_spare 46 = .ok (.iinc 3 1, 3) := by decide +kernel
theorem dX3_spare_49 : decode cX3_spare 49 = .ok (.goto (-37), 3) := by decide +kernel
theorem dX3_spare_52 : decode cX3_spare 52 = .ok (.iload_n 2, 1) := by decide +kernel
theorem dX3_spare_53 : decode cX3_spare 53 = .ok (.ireturn, 1) := by decide +kernel
theorem dX3_mostFor_0 : decode cX3_mostFor 0 = .ok (.aload_n 0, 1) := by decide +kernel
theorem dX3_mostFor_1 : decode cX3_mostFor 1 = .ok (.getfield 18, 3) := by decide +kernel
theorem dX3_mostFor_4 : decode cX3_mostFor 4 = .ok (.iload_n 2, 1) := by decide +kernel
theorem dX3_mostFor_5 : decode cX3_mostFor 5 = .ok (.invokestatic 67, 3) := by decide +kernel
theorem dX3_mostFor_8 : decode cX3_mostFor 8 = .ok (.istore_n 3, 1) := by decide +kernel
theorem dX3_mostFor_9 : decode cX3_mostFor 9 = .ok (.iconst 2, 1) := by decide +kernel
theorem dX3_mostFor_10 : decode cX3_mostFor 10 = .ok (.iload_n 1, 1) := by decide +kernel
theorem dX3_mostFor_11 : decode cX3_mostFor 11 = .ok (.ishl, 1) := by decide +kernel
theorem dX3_mostFor_12 : decode cX3_mostFor 12 = .ok (.istore 4, 2) := by decide +kernel
theorem dX3_mostFor_14 : decode cX3_mostFor 14 = .ok (.iload 4, 2) := by decide +kernel
theorem dX3_mostFor_16 : decode cX3_mostFor 16 = .ok (.istore 5, 2) := by decide +kernel
theorem dX3_mostFor_18 : decode cX3_mostFor 18 = .ok (.iload 5, 2) := by decide +kernel
theorem dX3_mostFor_20 : decode cX3_mostFor 20 = .ok (.iconst 1, 1) := by decide +kernel
theorem dX3_mostFor_21 : decode cX3_mostFor 21 = .ok (.aload_n 0, 1) := by decide +kernel
theorem dX3_mostFor_22 : decode cX3_mostFor 22 = .ok (.getfield 24, 3) := by decide +kernel
theorem dX3_mostFor_25 : decode cX3_mostFor 25 = .ok (.ishl, 1) := by decide +kernel
theorem dX3_mostFor_26 : decode cX3_mostFor 26 = .ok (.if_icmp .ge 40, 3) := by decide +kernel
theorem dX3_mostFor_29 : decode cX3_mostFor 29 = .ok (.aload_n 0, 1) := by decide +kernel
theorem dX3_mostFor_30 : decode cX3_mostFor 30 = .ok (.getfield 15, 3) := by decide +kernel
theorem dX3_mostFor_33 : decode cX3_mostFor 33 = .ok (.iload 5, 2) := by decide +kernel
theorem dX3_mostFor_35 : decode cX3_mostFor 35 = .ok (.invokestatic 67, 3) := by decide +kernel
theorem dX3_mostFor_38 : decode cX3_mostFor 38 = .ok (.iload_n 2, 1) := by decide +kernel
theorem dX3_mostFor_39 : decode cX3_mostFor 39 = .ok (.invokestatic 78, 3) := by decide +kernel
theorem dX3_mostFor_42 : decode cX3_mostFor 42 = .ok (.ifCond .eq 14, 3) := by decide +kernel
theorem dX3_mostFor_45 : decode cX3_mostFor 45 = .ok (.iload_n 3, 1) := by decide +kernel
theorem dX3_mostFor_46 : decode cX3_mostFor 46 = .ok (.aload_n 0, 1) := by decide +kernel
theorem dX3_mostFor_47 : decode cX3_mostFor 47 = .ok (.iload 5, 2) := by decide +kernel
theorem dX3_mostFor_49 : decode cX3_mostFor 49 = .ok (.invokevirtual 99, 3) := by decide +kernel
theorem dX3_mostFor_52 : decode cX3_mostFor 52 = .ok (.invokestatic 85, 3) := by decide +kernel
theorem dX3_mostFor_55 : decode cX3_mostFor 55 = .ok (.istore_n 3, 1) := by decide +kernel
theorem dX3_mostFor_56 : decode cX3_mostFor 56 = .ok (.iload 5, 2) := by decide +kernel
theorem dX3_mostFor_58 : decode cX3_mostFor 58 = .ok (.iload 4, 2) := by decide +kernel
theorem dX3_mostFor_60 : decode cX3_mostFor 60 = .ok (.iadd, 1) := by decide +kernel
theorem dX3_mostFor_61 : decode cX3_mostFor 61 = .ok (.istore 5, 2) := by decide +kernel
theorem dX3_mostFor_63 : decode cX3_mostFor 63 = .ok (.goto (-45), 3) := by decide +kernel
theorem dX3_mostFor_66 : decode cX3_mostFor 66 = .ok (.iload_n 3, 1) := by decide +kernel
theorem dX3_mostFor_67 : decode cX3_mostFor 67 = .ok (.ireturn, 1) := by decide +kernel
theorem dX4_init_0 : decode cX4_init 0 = .ok (.aload_n 0, 1) := by decide +kernel
theorem dX4_init_1 : decode cX4_init 1 = .ok (.invokespecial 3, 3) := by decide +kernel
theorem dX4_init_4 : decode cX4_init 4 = .ok (.aload_n 0, 1) := by decide +kernel
theorem dX4_init_5 : decode cX4_init 5 = .ok (.bipush 120, 2) := by decide +kernel
theorem dX4_init_7 : decode cX4_init 7 = .ok (.newarray .int, 2) := by decide +kernel
theorem dX4_init_9 : decode cX4_init 9 = .ok (.putfield 9, 3) := by decide +kernel
theorem dX4_init_12 : decode cX4_init 12 = .ok (.aload_n 0, 1) := by decide +kernel
theorem dX4_init_13 : decode cX4_init 13 = .ok (.bipush 40, 2) := by decide +kernel
theorem dX4_init_15 : decode cX4_init 15 = .ok (.newarray .int, 2) := by decide +kernel
theorem dX4_init_17 : decode cX4_init 17 = .ok (.putfield 15, 3) := by decide +kernel
theorem dX4_init_20 : decode cX4_init 20 = .ok (.aload_n 0, 1) := by decide +kernel
theorem dX4_init_21 : decode cX4_init 21 = .ok (.bipush 120, 2) := by decide +kernel
theorem dX4_init_23 : decode cX4_init 23 = .ok (.newarray .int, 2) := by decide +kernel
theorem dX4_init_25 : decode cX4_init 25 = .ok (.putfield 18, 3) := by decide +kernel
theorem dX4_init_28 : decode cX4_init 28 = .ok (.aload_n 0, 1) := by decide +kernel
theorem dX4_init_29 : decode cX4_init 29 = .ok (.iconst 0, 1) := by decide +kernel
theorem dX4_init_30 : decode cX4_init 30 = .ok (.putfield 21, 3) := by decide +kernel
theorem dX4_init_33 : decode cX4_init 33 = .ok (.aload_n 0, 1) := by decide +kernel
theorem dX4_init_34 : decode cX4_init 34 = .ok (.iconst 0, 1) := by decide +kernel
theorem dX4_init_35 : decode cX4_init 35 = .ok (.putfield 25, 3) := by decide +kernel
theorem dX4_init_38 : decode cX4_init 38 = .ok (.aload_n 0, 1) := by decide +kernel
theorem dX4_init_39 : decode cX4_init 39 = .ok (.iconst 0, 1) := by decide +kernel
theorem dX4_init_40 : decode cX4_init 40 = .ok (.putfield 28, 3) := by decide +kernel
theorem dX4_init_43 : decode cX4_init 43 = .ok (.aload_n 0, 1) := by decide +kernel
theorem dX4_init_44 : decode cX4_init 44 = .ok (.iconst 0, 1) := by decide +kernel
theorem dX4_init_45 : decode cX4_init 45 = .ok (.putfield 31, 3) := by decide +kernel
theorem dX4_init_48 : decode cX4_init 48 = .ok (.aload_n 0, 1) := by decide +kernel
theorem dX4_init_49 : decode cX4_init 49 = .ok (.iconst 0, 1) := by decide +kernel
theorem dX4_init_50 : decode cX4_init 50 = .ok (.putfield 34, 3) := by decide +kernel
theorem dX4_init_53 : decode cX4_init 53 = .ok (.return_, 1) := by decide +kernel
theorem dX4_size_0 : decode cX4_size 0 = .ok (.aload_n 0, 1) := by decide +kernel
theorem dX4_size_1 : decode cX4_size 1 = .ok (.getfield 21, 3) := by decide +kernel
theorem dX4_size_4 : decode cX4_size 4 = .ok (.ireturn, 1) := by decide +kernel
theorem dX4_append_0 : decode cX4_append 0 = .ok (.aload_n 0, 1) := by decide +kernel
theorem dX4_append_1 : decode cX4_append 1 = .ok (.getfield 21, 3) := by decide +kernel
theorem dX4_append_4 : decode cX4_append 4 = .ok (.bipush 120, 2) := by decide +kernel
theorem dX4_append_6 : decode cX4_append 6 = .ok (.if_icmp .lt 5, 3) := by decide +kernel
theorem dX4_append_9 : decode cX4_append 9 = .ok (.iconst 0, 1) := by decide +kernel
theorem dX4_append_10 : decode cX4_append 10 = .ok (.ireturn, 1) := by decide +kernel
theorem dX4_append_11 : decode cX4_append 11 = .ok (.aload_n 0, 1) := by decide +kernel
theorem dX4_append_12 : decode cX4_append 12 = .ok (.getfield 9, 3) := by decide +kernel
theorem dX4_append_15 : decode cX4_append 15 = .ok (.aload_n 0, 1) := by decide +kernel
theorem dX4_append_16 : decode cX4_append 16 = .ok (.getfield 21, 3) := by decide +kernel
theorem dX4_append_19 : decode cX4_append 19 = .ok (.iload_n 1, 1) := by decide +kernel
theorem dX4_append_20 : decode cX4_append 20 = .ok (.invokestatic 37, 3) := by decide +kernel
theorem dX4_append_23 : decode cX4_append 23 = .ok (.aload_n 0, 1) := by decide +kernel
theorem dX4_append_24 : decode cX4_append 24 = .ok (.dup, 1) := by decide +kernel
theorem dX4_append_25 : decode cX4_append 25 = .ok (.getfield 21, 3) := by decide +kernel
theorem dX4_append_28 : decode cX4_append 28 = .ok (.iconst 1, 1) := by decide +kernel
theorem dX4_append_29 : decode cX4_append 29 = .ok (.iadd, 1) := by decide +kernel
theorem dX4_append_30 : decode cX4_append 30 = .ok (.putfield 21, 3) := by decide +kernel
theorem dX4_append_33 : decode cX4_append 33 = .ok (.iconst 1, 1) := by decide +kernel
theorem dX4_append_34 : decode cX4_append 34 = .ok (.ireturn, 1) := by decide +kernel
theorem dX4_empty_0 : decode cX4_empty 0 = .ok (.aload_n 0, 1) := by decide +kernel
theorem dX4_empty_1 : decode cX4_empty 1 = .ok (.iconst 0, 1) := by decide +kernel
theorem dX4_empty_2 : decode cX4_empty 2 = .ok (.putfield 21, 3) := by decide +kernel
theorem dX4_empty_5 : decode cX4_empty 5 = .ok (.return_, 1) := by decide +kernel
theorem dX4_orderCount_0 : decode cX4_orderCount 0 = .ok (.aload_n 0, 1) := by decide +kernel
theorem dX4_orderCount_1 : decode cX4_orderCount 1 = .ok (.getfield 25, 3) := by decide +kernel
theorem dX4_orderCount_4 : decode cX4_orderCount 4 = .ok (.ireturn, 1) := by decide +kernel
theorem dX4_parse_0 : decode cX4_parse 0 = .ok (.aload_n 0, 1) := by decide +kernel
theorem dX4_parse_1 : decode cX4_parse 1 = .ok (.iconst 0, 1) := by decide +kernel
theorem dX4_parse_2 : decode cX4_parse 2 = .ok (.putfield 25, 3) := by decide +kernel
theorem dX4_parse_5 : decode cX4_parse 5 = .ok (.aload_n 0, 1) := by decide +kernel
theorem dX4_parse_6 : decode cX4_parse 6 = .ok (.iconst 0, 1) := by decide +kernel
theorem dX4_parse_7 : decode cX4_parse 7 = .ok (.putfield 28, 3) := by decide +kernel
theorem dX4_parse_10 : decode cX4_parse 10 = .ok (.iconst 0, 1) := by decide +kernel
theorem dX4_parse_11 : decode cX4_parse 11 = .ok (.istore_n 1, 1) := by decide +kernel
theorem dX4_parse_12 : decode cX4_parse 12 = .ok (.iload_n 1, 1) := by decide +kernel
theorem dX4_parse_13 : decode cX4_parse 13 = .ok (.aload_n 0, 1) := by decide +kernel
theorem dX4_parse_14 : decode cX4_parse 14 = .ok (.getfield 21, 3) := by decide +kernel
theorem dX4_parse_17 : decode cX4_parse 17 = .ok (.if_icmp .ge 26, 3) := by decide +kernel
theorem dX4_parse_20 : decode cX4_parse 20 = .ok (.aload_n 0, 1) := by decide +kernel
theorem dX4_parse_21 : decode cX4_parse 21 = .ok (.aload_n 0, 1) := by decide +kernel
theorem dX4_parse_22 : decode cX4_parse 22 = .ok (.getfield 9, 3) := by decide +kernel
theorem dX4_parse_25 : decode cX4_parse 25 = .ok (.iload_n 1, 1) := by decide +kernel
theorem dX4_parse_26 : decode cX4_parse 26 = .ok (.invokestatic 41, 3) := by decide +kernel
theorem dX4_parse_29 : decode cX4_parse 29 = .ok (.invokevirtual 45, 3) := by decide +kernel
theorem dX4_parse_32 : decode cX4_parse 32 = .ok (.ifCond .ne 5, 3) := by decide +kernel
theorem dX4_parse_35 : decode cX4_parse 35 = .ok (.iload_n 1, 1) := by decide +kernel
theorem dX4_parse_36 : decode cX4_parse 36 = .ok (.ireturn, 1) := by decide +kernel
theorem dX4_parse_37 : decode cX4_parse 37 = .ok (.iinc 1 1, 3) := by decide +kernel
theorem dX4_parse_40 : decode cX4_parse 40 = .ok (.goto (-28), 3) := by decide +kernel
theorem dX4_parse_43 : decode cX4_parse 43 = .ok (.aload_n 0, 1) := by decide +kernel
theorem dX4_parse_44 : decode cX4_parse 44 = .ok (.getfield 28, 3) := by decide +kernel
theorem dX4_parse_47 : decode cX4_parse 47 = .ok (.ifCond .ne 14, 3) := by decide +kernel
theorem dX4_parse_50 : decode cX4_parse 50 = .ok (.aload_n 0, 1) := by decide +kernel
theorem dX4_parse_51 : decode cX4_parse 51 = .ok (.getfield 25, 3) := by decide +kernel
theorem dX4_parse_54 : decode cX4_parse 54 = .ok (.ifCond .le 7, 3) := by decide +kernel
theorem dX4_parse_57 : decode cX4_parse 57 = .ok (.iconst (-1), 1) := by decide +kernel
theorem dX4_parse_58 : decode cX4_parse 58 = .ok (.goto 7, 3) := by decide +kernel
theorem dX4_parse_61 : decode cX4_parse 61 = .ok (.aload_n 0, 1) := by decide +kernel
theorem dX4_parse_62 : decode cX4_parse 62 = .ok (.getfield 21, 3) := by decide +kernel
theorem dX4_parse_65 : decode cX4_parse 65 = .ok (.ireturn, 1) := by decide +kernel
theorem dX4_takes_0 : decode cX4_takes 0 = .ok (.iload_n 1, 1) := by decide +kernel
theorem dX4_takes_1 : decode cX4_takes 1 = .ok (.bipush 32, 2) := by decide +kernel
theorem dX4_takes_3 : decode cX4_takes 3 = .ok (.if_icmp .ne 10, 3) := by decide +kernel
theorem dX4_takes_6 : decode cX4_takes 6 = .ok (.aload_n 0, 1) := by decide +kernel
theorem dX4_takes_7 : decode cX4_takes 7 = .ok (.iconst 0, 1) := by decide +kernel
theorem dX4_takes_8 : decode cX4_takes 8 = .ok (.putfield 34, 3) := by decide +kernel
theorem dX4_takes_11 : decode cX4_takes 11 = .ok (.iconst 1, 1) := by decide +kernel
theorem dX4_takes_12 : decode cX4_takes 12 = .ok (.ireturn, 1) := by decide +kernel
theorem dX4_takes_13 : decode cX4_takes 13 = .ok (.aload_n 0, 1) := by decide +kernel
theorem dX4_takes_14 : decode cX4_takes 14 = .ok (.getfield 28, 3) := by decide +kernel
theorem dX4_takes_17 : decode cX4_takes 17 = .ok (.ifCond .ne 9, 3) := by decide +kernel
theorem dX4_takes_20 : decode cX4_takes 20 = .ok (.aload_n 0, 1) := by decide +kernel
theorem dX4_takes_21 : decode cX4_takes 21 = .ok (.iload_n 1, 1) := by decide +kernel
theorem dX4_takes_22 : decode cX4_takes 22 = .ok (.invokevirtual 49, 3) := by decide +kernel
theorem dX4_takes_25 : decode cX4_takes 25 = .ok (.ireturn, 1) := by decide +kernel
theorem dX4_takes_26 : decode cX4_takes 26 = .ok (.iload_n 1, 1) := by decide +kernel
theorem dX4_takes_27 : decode cX4_takes 27 = .ok (.bipush 59, 2) := by decide +kernel
theorem dX4_takes_29 : decode cX4_takes 29 = .ok (.if_icmp .ne 8, 3) := by decide +kernel
theorem dX4_takes_32 : decode cX4_takes 32 = .ok (.aload_n 0, 1) := by decide +kernel
theorem dX4_takes_33 : decode cX4_takes 33 = .ok (.invokevirtual 52, 3) := by decide +kernel
theorem dX4_takes_36 : decode cX4_takes 36 = .ok (.ireturn, 1) := by decide +kernel
theorem dX4_takes_37 : decode cX4_takes 37 = .ok (.iload_n 1, 1) := by decide +kernel
theorem dX4_takes_38 : decode cX4_takes 38 = .ok (.bipush 48, 2) := by decide +kernel
theorem dX4_takes_40 : decode cX4_takes 40 = .ok (.bipush 57, 2) := by decide +kernel
theorem dX4_takes_42 : decode cX4_takes 42 = .ok (.invokestatic 56, 3) := by decide +kernel
theorem dX4_takes_45 : decode cX4_takes 45 = .ok (.ifCond .eq 18, 3) := by decide +kernel
theorem dX4_takes_48 : decode cX4_takes 48 = .ok (.aload_n 0, 1) := by decide +kernel
theorem dX4_takes_49 : decode cX4_takes 49 = .ok (.iload_n 1, 1) := by decide +kernel
theorem dX4_takes_50 : decode cX4_takes 50 = .ok (.bipush 48, 2) := by decide +kernel
theorem dX4_takes_52 : decode cX4_takes 52 = .ok (.isub, 1) := by decide +kernel
theorem dX4_takes_53 : decode cX4_takes 53 = .ok (.invokevirtual 60, 3) := by decide +kernel
theorem dX4_takes_56 : decode cX4_takes 56 = .ok (.ifCond .eq 7, 3) := by decide +kernel
theorem dX4_takes_59 : decode cX4_takes 59 = .ok (.iconst 1, 1) := by decide +kernel
theorem dX4_takes_60 : decode cX4_takes 60 = .ok (.goto 4, 3) := by decide +kernel
theorem dX4_takes_63 : decode cX4_takes 63 = .ok (.iconst 0, 1) := by decide +kernel
theorem dX4_takes_64 : decode cX4_takes 64 = .ok (.ireturn, 1) := by decide +kernel
theorem dX4_opens_0 : decode cX4_opens 0 = .ok (.iload_n 1, 1) := by decide +kernel
theorem dX4_opens_1 : decode cX4_opens 1 = .ok (.invokestatic 63, 3) := by decide +kernel
theorem dX4_opens_4 : decode cX4_opens 4 = .ok (.ifCond .ne 5, 3) := by decide +kernel
theorem dX4_opens_7 : decode cX4_opens 7 = .ok (.iconst 0, 1) := by decide +kernel
theorem dX4_opens_8 : decode cX4_opens 8 = .ok (.ireturn, 1) := by decide +kernel
theorem dX4_opens_9 : decode cX4_opens 9 = .ok (.aload_n 0, 1) := by decide +kernel
theorem dX4_opens_10 : decode cX4_opens 10 = .ok (.iload_n 1, 1) := by decide +kernel
theorem dX4_opens_11 : decode cX4_opens 11 = .ok (.putfield 28, 3) := by decide +kernel
theorem dX4_opens_14 : decode cX4_opens 14 = .ok (.aload_n 0, 1) := by decide +kernel
theorem dX4_opens_15 : decode cX4_opens 15 = .ok (.iconst 0, 1) := by decide +kernel
theorem dX4_opens_16 : decode cX4_opens 16 = .ok (.putfield 31, 3) := by decide +kernel
theorem dX4_opens_19 : decode cX4_opens 19 = .ok (.aload_n 0, 1) := by decide +kernel
theorem dX4_opens_20 : decode cX4_opens 20 = .ok (.iconst 0, 1) := by decide +kernel
theorem dX4_opens_21 : decode cX4_opens 21 = .ok (.putfield 34, 3) := by decide +kernel
theorem dX4_opens_24 : decode cX4_opens 24 = .ok (.iconst 1, 1) := by decide +kernel
theorem dX4_opens_25 : decode cX4_opens 25 = .ok (.ireturn, 1) := by decide +kernel
theorem dX4_closes_0 : decode cX4_closes 0 = .ok (.aload_n 0, 1) := by decide +kernel
theorem dX4_closes_1 : decode cX4_closes 1 = .ok (.getfield 31, 3) := by decide +kernel
theorem dX4_closes_4 : decode cX4_closes 4 = .ok (.aload_n 0, 1) := by decide +kernel
theorem dX4_closes_5 : decode cX4_closes 5 = .ok (.getfield 28, 3) := by decide +kernel
theorem dX4_closes_8 : decode cX4_closes 8 = .ok (.invokestatic 63, 3) := by decide +kernel
theorem dX4_closes_11 : decode cX4_closes 11 = .ok (.if_icmp .eq 5, 3) := by decide +kernel
theorem dX4_closes_14 : decode cX4_closes 14 = .ok (.iconst 0, 1) := by decide +kernel
theorem dX4_closes_15 : decode cX4_closes 15 = .ok (.ireturn, 1) := by decide +kernel
theorem dX4_closes_16 : decode cX4_closes 16 = .ok (.aload_n 0, 1) := by decide +kernel
theorem dX4_closes_17 : decode cX4_closes 17 = .ok (.getfield 15, 3) := by decide +kernel
theorem dX4_closes_20 : decode cX4_closes 20 = .ok (.aload_n 0, 1) := by decide +kernel
theorem dX4_closes_21 : decode cX4_closes 21 = .ok (.getfield 25, 3) := by decide +kernel
theorem dX4_closes_24 : decode cX4_closes 24 = .ok (.aload_n 0, 1) := by decide +kernel
theorem dX4_closes_25 : decode cX4_closes 25 = .ok (.getfield 28, 3) := by decide +kernel
theorem dX4_closes_28 : decode cX4_closes 28 = .ok (.invokestatic 37, 3) := by decide +kernel
theorem dX4_closes_31 : decode cX4_closes 31 = .ok (.aload_n 0, 1) := by decide +kernel
theorem dX4_closes_32 : decode cX4_closes 32 = .ok (.dup, 1) := by decide +kernel
theorem dX4_closes_33 : decode cX4_closes 33 = .ok (.getfield 25, 3) := by decide +kernel
theorem dX4_closes_36 : decode cX4_closes 36 = .ok (.iconst 1, 1) := by decide +kernel
theorem dX4_closes_37 : decode cX4_closes 37 = .ok (.iadd, 1) := by decide +kernel
theorem dX4_closes_38 : decode cX4_closes 38 = .ok (.putfield 25, 3) := by decide +kernel
theorem dX4_closes_41 : decode cX4_closes 41 = .ok (.aload_n 0, 1) := by decide +kernel
theorem dX4_closes_42 : decode cX4_closes 42 = .ok (.iconst 0, 1) := by decide +kernel
theorem dX4_closes_43 : decode cX4_closes 43 = .ok (.putfield 28, 3) := by decide +kernel
theorem dX4_closes_46 : decode cX4_closes 46 = .ok (.iconst 1, 1) := by decide +kernel
theorem dX4_closes_47 : decode cX4_closes 47 = .ok (.ireturn, 1) := by decide +kernel
theorem dX4_takesFigure_0 : decode cX4_takesFigure 0 = .ok (.aload_n 0, 1) := by decide +kernel
theorem dX4_takesFigure_1 : decode cX4_takesFigure 1 = .ok (.getfield 34, 3) := by decide +kernel
theorem dX4_takesFigure_4 : decode cX4_takesFigure 4 = .ok (.ifCond .ne 51, 3) := by decide +kernel
theorem dX4_takesFigure_7 : decode cX4_takesFigure 7 = .ok (.aload_n 0, 1) := by decide +kernel
theorem dX4_takesFigure_8 : decode cX4_takesFigure 8 = .ok (.getfield 31, 3) := by decide +kernel
theorem dX4_takesFigure_11 : decode cX4_takesFigure 11 = .ok (.aload_n 0, 1) := by decide +kernel
theorem dX4_takesFigure_12 : decode cX4_takesFigure 12 = .ok (.getfield 28, 3) := by decide +kernel
theorem dX4_takesFigure_15 : decode cX4_takesFigure 15 = .ok (.invokestatic 63, 3) := by decide +kernel
theorem dX4_takesFigure_18 : decode cX4_takesFigure 18 = .ok (.if_icmp .ne 5, 3) := by decide +kernel
theorem dX4_takesFigure_21 : decode cX4_takesFigure 21 = .ok (.iconst 0, 1) := by decide +kernel
theorem dX4_takesFigure_22 : decode cX4_takesFigure 22 = .ok (.ireturn, 1) := by decide +kernel
theorem dX4_takesFigure_23 : decode cX4_takesFigure 23 = .ok (.aload_n 0, 1) := by decide +kernel
theorem dX4_takesFigure_24 : decode cX4_takesFigure 24 = .ok (.dup, 1) := by decide +kernel
theorem dX4_takesFigure_25 : decode cX4_takesFigure 25 = .ok (.getfield 31, 3) := by decide +kernel
theorem dX4_takesFigure_28 : decode cX4_takesFigure 28 = .ok (.iconst 1, 1) := by decide +kernel
theorem dX4_takesFigure_29 : decode cX4_takesFigure 29 = .ok (.iadd, 1) := by decide +kernel
theorem dX4_takesFigure_30 : decode cX4_takesFigure 30 = .ok (.putfield 31, 3) := by decide +kernel
theorem dX4_takesFigure_33 : decode cX4_takesFigure 33 = .ok (.aload_n 0, 1) := by decide +kernel
theorem dX4_takesFigure_34 : decode cX4_takesFigure 34 = .ok (.getfield 18, 3) := by decide +kernel
theorem dX4_takesFigure_37 : decode cX4_takesFigure 37 = .ok (.aload_n 0, 1) := by decide +kernel
theorem dX4_takesFigure_38 : decode cX4_takesFigure 38 = .ok (.getfield 25, 3) := by decide +kernel
theorem dX4_takesFigure_41 : decode cX4_takesFigure 41 = .ok (.aload_n 0, 1) := by decide +kernel
theorem dX4_takesFigure_42 : decode cX4_takesFigure 42 = .ok (.getfield 31, 3) := by decide +kernel
theorem dX4_takesFigure_45 : decode cX4_takesFigure 45 = .ok (.iconst 1, 1) := by decide +kernel
theorem dX4_takesFigure_46 : decode cX4_takesFigure 46 = .ok (.isub, 1) := by decide +kernel
theorem dX4_takesFigure_47 : decode cX4_takesFigure 47 = .ok (.iconst 3, 1) := by decide +kernel
theorem dX4_takesFigure_48 : decode cX4_takesFigure 48 = .ok (.invokestatic 67, 3) := by decide +kernel
theorem dX4_takesFigure_51 : decode cX4_takesFigure 51 = .ok (.iconst 0, 1) := by decide +kernel
theorem dX4_takesFigure_52 : decode cX4_takesFigure 52 = .ok (.invokestatic 37, 3) := by decide +kernel
theorem dX4_takesFigure_55 : decode cX4_takesFigure 55 = .ok (.aload_n 0, 1) := by decide +kernel
theorem dX4_takesFigure_56 : decode cX4_takesFigure 56 = .ok (.getfield 34, 3) := by decide +kernel
theorem dX4_takesFigure_59 : decode cX4_takesFigure 59 = .ok (.iconst 3, 1) := by decide +kernel
theorem dX4_takesFigure_60 : decode cX4_takesFigure 60 = .ok (.if_icmp .ne 5, 3) := by decide +kernel
theorem dX4_takesFigure_63 : decode cX4_takesFigure 63 = .ok (.iconst 0, 1) := by decide +kernel
theorem dX4_takesFigure_64 : decode cX4_takesFigure 64 = .ok (.ireturn, 1) := by decide +kernel
theorem dX4_takesFigure_65 : decode cX4_takesFigure 65 = .ok (.aload_n 0, 1) := by decide +kernel
theorem dX4_takesFigure_66 : decode cX4_takesFigure 66 = .ok (.dup, 1) := by decide +kernel
theorem dX4_takesFigure_67 : decode cX4_takesFigure 67 = .ok (.getfield 34, 3) := by decide +kernel
theorem dX4_takesFigure_70 : decode cX4_takesFigure 70 = .ok (.iconst 1, 1) := by decide +kernel
theorem dX4_takesFigure_71 : decode cX4_takesFigure 71 = .ok (.iadd, 1) := by decide +kernel
theorem dX4_takesFigure_72 : decode cX4_takesFigure 72 = .ok (.putfield 34, 3) := by decide +kernel
theorem dX4_takesFigure_75 : decode cX4_takesFigure 75 = .ok (.aload_n 0, 1) := by decide +kernel
theorem dX4_takesFigure_76 : decode cX4_takesFigure 76 = .ok (.getfield 25, 3) := by decide +kernel
theorem dX4_takesFigure_79 : decode cX4_takesFigure 79 = .ok (.aload_n 0, 1) := by decide +kernel
theorem dX4_takesFigure_80 : decode cX4_takesFigure 80 = .ok (.getfield 31, 3) := by decide +kernel
theorem dX4_takesFigure_83 : decode cX4_takesFigure 83 = .ok (.iconst 1, 1) := by decide +kernel
theorem dX4_takesFigure_84 : decode cX4_takesFigure 84 = .ok (.isub, 1) := by decide +kernel
theorem dX4_takesFigure_85 : decode cX4_takesFigure 85 = .ok (.iconst 3, 1) := by decide +kernel
theorem dX4_takesFigure_86 : decode cX4_takesFigure 86 = .ok (.invokestatic 67, 3) := by decide +kernel
theorem dX4_takesFigure_89 : decode cX4_takesFigure 89 = .ok (.istore_n 2, 1) := by decide +kernel
theorem dX4_takesFigure_90 : decode cX4_takesFigure 90 = .ok (.aload_n 0, 1) := by decide +kernel
theorem dX4_takesFigure_91 : decode cX4_takesFigure 91 = .ok (.getfield 18, 3) := by decide +kernel
theorem dX4_takesFigure_94 : decode cX4_takesFigure 94 = .ok (.iload_n 2, 1) := by decide +kernel
theorem dX4_takesFigure_95 : decode cX4_takesFigure 95 = .ok (.bipush 10, 2) := by decide +kernel
theorem dX4_takesFigure_97 : decode cX4_takesFigure 97 = .ok (.aload_n 0, 1) := by decide +kernel
theorem dX4_takesFigure_98 : decode cX4_takesFigure 98 = .ok (.getfield 18, 3) := by decide +kernel
theorem dX4_takesFigure_101 : decode cX4_takesFigure 101 = .ok (.iload_n 2, 1) := by decide +kernel
theorem dX4_takesFigure_102 : decode cX4_takesFigure 102 = .ok (.invokestatic 41, 3) := by decide +kernel
theorem dX4_takesFigure_105 : decode cX4_takesFigure 105 = .ok (.imul, 1) := by decide +kernel
theorem dX4_takesFigure_106 : decode cX4_takesFigure 106 = .ok (.iload_n 1, 1) := by decide +kernel
theorem dX4_takesFigure_107 : decode cX4_takesFigure 107 = .ok (.iadd, 1) := by decide +kernel
theorem dX4_takesFigure_108 : decode cX4_takesFigure 108 = .ok (.invokestatic 37, 3) := by decide +kernel
theorem dX4_takesFigure_111 : decode cX4_takesFigure 111 = .ok (.iconst 1, 1) := by decide +kernel
theorem dX4_takesFigure_112 : decode cX4_takesFigure 112 = .ok (.ireturn, 1) := by decide +kernel
theorem dX4_apply_0 : decode cX4_apply 0 = .ok (.iconst 0, 1) := by decide +kernel
theorem dX4_apply_1 : decode cX4_apply 1 = .ok (.istore_n 2, 1) := by decide +kernel
theorem dX4_apply_2 : decode cX4_apply 2 = .ok (.iload_n 2, 1) := by decide +kernel
theorem dX4_apply_3 : decode cX4_apply 3 = .ok (.aload_n 0, 1) := by decide +kernel
theorem dX4_apply_4 : decode cX4_apply 4 = .ok (.getfield 25, 3) := by decide +kernel
theorem dX4_apply_7 : decode cX4_apply 7 = .ok (.if_icmp .ge 20, 3) := by decide +kernel
theorem dX4_apply_10 : decode cX4_apply 10 = .ok (.aload_n 0, 1) := by decide +kernel
theorem dX4_apply_11 : decode cX4_apply 11 = .ok (.aload_n 1, 1) := by decide +kernel
theorem dX4_apply_12 : decode cX4_apply 12 = .ok (.iload_n 2, 1) := by decide +kernel
theorem dX4_apply_13 : decode cX4_apply 13 = .ok (.invokevirtual 71, 3) := by decide +kernel
theorem dX4_apply_16 : decode cX4_apply 16 = .ok (.ifCond .ge 5, 3) := by decide +kernel
theorem dX4_apply_19 : decode cX4_apply 19 = .ok (.iload_n 2, 1) := by decide +kernel
theorem dX4_apply_20 : decode cX4_apply 20 = .ok (.ireturn, 1) := by decide +kernel
theorem dX4_apply_21 : decode cX4_apply 21 = .ok (.iinc 2 1, 3) := by decide +kernel
theorem dX4_apply_24 : decode cX4_apply 24 = .ok (.goto (-22), 3) := by decide +kernel
theorem dX4_apply_27 : decode cX4_apply 27 = .ok (.iconst (-1), 1) := by decide +kernel
theorem dX4_apply_28 : decode cX4_apply 28 = .ok (.ireturn, 1) := by decide +kernel
theorem dX4_applyOne_0 : decode cX4_applyOne 0 = .ok (.aload_n 0, 1) := by decide +kernel
theorem dX4_applyOne_1 : decode cX4_applyOne 1 = .ok (.getfield 18, 3) := by decide +kernel
theorem dX4_applyOne_4 : decode cX4_applyOne 4 = .ok (.iload_n 2, 1) := by decide +kernel
theorem dX4_applyOne_5 : decode cX4_applyOne 5 = .ok (.iconst 0, 1) := by decide +kernel
theorem dX4_applyOne_6 : decode cX4_applyOne 6 = .ok (.iconst 3, 1) := by decide +kernel
theorem dX4_applyOne_7 : decode cX4_applyOne 7 = .ok (.invokestatic 67, 3) := by decide +kernel
theorem dX4_applyOne_10 : decode cX4_applyOne 10 = .ok (.invokestatic 41, 3) := by decide +kernel
theorem dX4_applyOne_13 : decode cX4_applyOne 13 = .ok (.istore_n 3, 1) := by decide +kernel
theorem dX4_applyOne_14 : decode cX4_applyOne 14 = .ok (.aload_n 0, 1) := by decide +kernel
theorem dX4_applyOne_15 : decode cX4_applyOne 15 = .ok (.getfield 18, 3) := by decide +kernel
theorem dX4_applyOne_18 : decode cX4_applyOne 18 = .ok (.iload_n 2, 1) := by decide +kernel
theorem dX4_applyOne_19 : decode cX4_applyOne 19 = .ok (.iconst 1, 1) := by decide +kernel
theorem dX4_applyOne_20 : decode cX4_applyOne 20 = .ok (.iconst 3, 1) := by decide +kernel
theorem dX4_applyOne_21 : decode cX4_applyOne 21 = .ok (.invokestatic 67, 3) := by decide +kernel
theorem dX4_applyOne_24 : decode cX4_applyOne 24 = .ok (.invokestatic 41, 3) := by decide +kernel
theorem dX4_applyOne_27 : decode cX4_applyOne 27 = .ok (.istore 4, 2) := by decide +kernel
theorem dX4_applyOne_29 : decode cX4_applyOne 29 = .ok (.aload_n 0, 1) := by decide +kernel
theorem dX4_applyOne_30 : decode cX4_applyOne 30 = .ok (.getfield 18, 3) := by decide +kernel
theorem dX4_applyOne_33 : decode cX4_applyOne 33 = .ok (.iload_n 2, 1) := by decide +kernel
theorem dX4_applyOne_34 : decode cX4_applyOne 34 = .ok (.iconst 2, 1) := by decide +kernel
theorem dX4_applyOne_35 : decode cX4_applyOne 35 = .ok (.iconst 3, 1) := by decide +kernel
theorem dX4_applyOne_36 : decode cX4_applyOne 36 = .ok (.invokestatic 67, 3) := by decide +kernel
theorem dX4_applyOne_39 : decode cX4_applyOne 39 = .ok (.invokestatic 41, 3) := by decide +kernel
theorem dX4_applyOne_42 : decode cX4_applyOne 42 = .ok (.istore 5, 2) := by decide +kernel
theorem dX4_applyOne_44 : decode cX4_applyOne 44 = .ok (.aload_n 0, 1) := by decide +kernel
theorem dX4_applyOne_45 : decode cX4_applyOne 45 = .ok (.getfield 15, 3) := by decide +kernel
theorem dX4_applyOne_48 : decode cX4_applyOne 48 = .ok (.iload_n 2, 1) := by decide +kernel
theorem dX4_applyOne_49 : decode cX4_applyOne 49 = .ok (.invokestatic 41, 3) := by decide +kernel
theorem dX4_applyOne_52 : decode cX4_applyOne 52 = .ok (.lookupswitch 92 #[(103, 58), (107, 68), (108, 52), (115, 76), (119, 84)], 52) := by decide +kernel
theorem dX4_applyOne_104 : decode cX4_applyOne 104 = .ok (.aload_n 1, 1) := by decide +kernel
theorem dX4_applyOne_105 : decode cX4_applyOne 105 = .ok (.iload_n 3, 1) := by decide +kernel
theorem dX4_applyOne_106 : decode cX4_applyOne 106 = .ok (.invokevirtual 75, 3) := by decide +kernel
theorem dX4_applyOne_109 : decode cX4_applyOne 109 = .ok (.ireturn, 1) := by decide +kernel
theorem dX4_applyOne_110 : decode cX4_applyOne 110 = .ok (.aload_n 1, 1) := by decide +kernel
theorem dX4_applyOne_111 : decode cX4_applyOne 111 = .ok (.iload_n 3, 1) := by decide +kernel
theorem dX4_applyOne_112 : decode cX4_applyOne 112 = .ok (.iload 4, 2) := by decide +kernel
theorem dX4_applyOne_114 : decode cX4_applyOne 114 = .ok (.iload 5, 2) := by decide +kernel
theorem dX4_applyOne_116 : decode cX4_applyOne 116 = .ok (.invokevirtual 80, 3) := by decide +kernel
theorem dX4_applyOne_119 : decode cX4_applyOne 119 = .ok (.ireturn, 1) := by decide +kernel
theorem dX4_applyOne_120 : decode cX4_applyOne 120 = .ok (.aload_n 1, 1) := by decide +kernel
theorem dX4_applyOne_121 : decode cX4_applyOne 121 = .ok (.iload_n 3, 1) := by decide +kernel
theorem dX4_applyOne_122 : decode cX4_applyOne 122 = .ok (.iload 4, 2) := by decide +kernel
theorem dX4_applyOne_124 : decode cX4_applyOne 124 = .ok (.invokevirtual 83, 3) := by decide +kernel
theorem dX4_applyOne_127 : decode cX4_applyOne 127 = .ok (.ireturn, 1) := by decide +kernel
theorem dX4_applyOne_128 : decode cX4_applyOne 128 = .ok (.aload_n 1, 1) := by decide +kernel
theorem dX4_applyOne_129 : decode cX4_applyOne 129 = .ok (.iload_n 3, 1) := by decide +kernel
theorem dX4_applyOne_130 : decode cX4_applyOne 130 = .ok (.iload 4, 2) := by decide +kernel
theorem dX4_applyOne_132 : decode cX4_applyOne 132 = .ok (.invokevirtual 87, 3) := by decide +kernel
theorem dX4_applyOne_135 : decode cX4_applyOne 135 = .ok (.ireturn, 1) := by decide +kernel
theorem dX4_applyOne_136 : decode cX4_applyOne 136 = .ok (.aload_n 1, 1) := by decide +kernel
theorem dX4_applyOne_137 : decode cX4_applyOne 137 = .ok (.iload_n 3, 1) := by decide +kernel
theorem dX4_applyOne_138 : decode cX4_applyOne 138 = .ok (.iload 4, 2) := by decide +kernel
theorem dX4_applyOne_140 : decode cX4_applyOne 140 = .ok (.invokevirtual 90, 3) := by decide +kernel
theorem dX4_applyOne_143 : decode cX4_applyOne 143 = .ok (.ireturn, 1) := by decide +kernel
theorem dX4_applyOne_144 : decode cX4_applyOne 144 = .ok (.bipush (-2), 2) := by decide +kernel
theorem dX4_applyOne_146 : decode cX4_applyOne 146 = .ok (.ireturn, 1) := by decide +kernel
theorem dX4_numbersOf_0 : decode cX4_numbersOf 0 = .ok (.iload_n 0, 1) := by decide +kernel
theorem dX4_numbersOf_1 : decode cX4_numbersOf 1 = .ok (.lookupswitch 57 #[(103, 53), (107, 55), (108, 51), (115, 55), (119, 55)], 51) := by decide +kernel
theorem dX4_numbersOf_52 : decode cX4_numbersOf 52 = .ok (.iconst 1, 1) := by decide +kernel
theorem dX4_numbersOf_53 : decode cX4_numbersOf 53 = .ok (.ireturn, 1) := by decide +kernel
theorem dX4_numbersOf_54 : decode cX4_numbersOf 54 = .ok (.iconst 3, 1) := by decide +kernel
theorem dX4_numbersOf_55 : decode cX4_numbersOf 55 = .ok (.ireturn, 1) := by decide +kernel
theorem dX4_numbersOf_56 : decode cX4_numbersOf 56 = .ok (.iconst 2, 1) := by decide +kernel
theorem dX4_numbersOf_57 : decode cX4_numbersOf 57 = .ok (.ireturn, 1) := by decide +kernel
theorem dX4_numbersOf_58 : decode cX4_numbersOf 58 = .ok (.iconst 0, 1) := by decide +kernel
theorem dX4_numbersOf_59 : decode cX4_numbersOf 59 = .ok (.ireturn, 1) := by decide +kernel
end
section
theorem dX5_init_0 : decode cX5_init 0 = .ok (.aload_n 0, 1) := by decide +kernel
theorem dX5_init_1 : decode cX5_init 1 = .ok (.invokespecial 1, 3) := by decide +kernel
theorem dX5_init_4 : decode cX5_init 4 = .ok (.aload_n 0, 1) := by decide +kernel
theorem dX5_init_5 : decode cX5_init 5 = .ok (.new 7, 3) := by decide +kernel
theorem dX5_init_8 : decode cX5_init 8 = .ok (.dup, 1) := by decide +kernel
theorem dX5_init_9 : decode cX5_init 9 = .ok (.invokespecial 9, 3) := by decide +kernel
theorem dX5_init_12 : decode cX5_init 12 = .ok (.putfield 10, 3) := by decide +kernel
theorem dX5_init_15 : decode cX5_init 15 = .ok (.aload_n 0, 1) := by decide +kernel
theorem dX5_init_16 : decode cX5_init 16 = .ok (.new 7, 3) := by decide +kernel
theorem dX5_init_19 : decode cX5_init 19 = .ok (.dup, 1) := by decide +kernel
theorem dX5_init_20 : decode cX5_init 20 = .ok (.invokespecial 9, 3) := by decide +kernel
theorem dX5_init_23 : decode cX5_init 23 = .ok (.putfield 16, 3) := by decide +kernel
theorem dX5_init_26 : decode cX5_init 26 = .ok (.aload_n 0, 1) := by decide +kernel
theorem dX5_init_27 : decode cX5_init 27 = .ok (.new 19, 3) := by decide +kernel
theorem dX5_init_30 : decode cX5_init 30 = .ok (.dup, 1) := by decide +kernel
theorem dX5_init_31 : decode cX5_init 31 = .ok (.invokespecial 21, 3) := by decide +kernel
theorem dX5_init_34 : decode cX5_init 34 = .ok (.putfield 22, 3) := by decide +kernel
theorem dX5_init_37 : decode cX5_init 37 = .ok (.aload_n 0, 1) := by decide +kernel
theorem dX5_init_38 : decode cX5_init 38 = .ok (.new 26, 3) := by decide +kernel
theorem dX5_init_41 : decode cX5_init 41 = .ok (.dup, 1) := by decide +kernel
theorem dX5_init_42 : decode cX5_init 42 = .ok (.invokespecial 28, 3) := by decide +kernel
theorem dX5_init_45 : decode cX5_init 45 = .ok (.putfield 29, 3) := by decide +kernel
theorem dX5_init_48 : decode cX5_init 48 = .ok (.aload_n 0, 1) := by decide +kernel
theorem dX5_init_49 : decode cX5_init 49 = .ok (.new 33, 3) := by decide +kernel
theorem dX5_init_52 : decode cX5_init 52 = .ok (.dup, 1) := by decide +kernel
theorem dX5_init_53 : decode cX5_init 53 = .ok (.invokespecial 35, 3) := by decide +kernel
theorem dX5_init_56 : decode cX5_init 56 = .ok (.putfield 36, 3) := by decide +kernel
theorem dX5_init_59 : decode cX5_init 59 = .ok (.aload_n 0, 1) := by decide +kernel
theorem dX5_init_60 : decode cX5_init 60 = .ok (.new 33, 3) := by decide +kernel
theorem dX5_init_63 : decode cX5_init 63 = .ok (.dup, 1) := by decide +kernel
theorem dX5_init_64 : decode cX5_init 64 = .ok (.invokespecial 35, 3) := by decide +kernel
theorem dX5_init_67 : decode cX5_init 67 = .ok (.putfield 40, 3) := by decide +kernel
theorem dX5_init_70 : decode cX5_init 70 = .ok (.aload_n 0, 1) := by decide +kernel
theorem dX5_init_71 : decode cX5_init 71 = .ok (.new 43, 3) := by decide +kernel
theorem dX5_init_74 : decode cX5_init 74 = .ok (.dup, 1) := by decide +kernel
theorem dX5_init_75 : decode cX5_init 75 = .ok (.invokespecial 45, 3) := by decide +kernel
theorem dX5_init_78 : decode cX5_init 78 = .ok (.putfield 46, 3) := by decide +kernel
theorem dX5_init_81 : decode cX5_init 81 = .ok (.aload_n 0, 1) := by decide +kernel
theorem dX5_init_82 : decode cX5_init 82 = .ok (.iconst 0, 1) := by decide +kernel
theorem dX5_init_83 : decode cX5_init 83 = .ok (.putfield 50, 3) := by decide +kernel
theorem dX5_init_86 : decode cX5_init 86 = .ok (.aload_n 0, 1) := by decide +kernel
theorem dX5_init_87 : decode cX5_init 87 = .ok (.iconst 0, 1) := by decide +kernel
theorem dX5_init_88 : decode cX5_init 88 = .ok (.putfield 54, 3) := by decide +kernel
theorem dX5_init_91 : decode cX5_init 91 = .ok (.aload_n 0, 1) := by decide +kernel
theorem dX5_init_92 : decode cX5_init 92 = .ok (.iconst 0, 1) := by decide +kernel
theorem dX5_init_93 : decode cX5_init 93 = .ok (.putfield 58, 3) := by decide +kernel
theorem dX5_init_96 : decode cX5_init 96 = .ok (.aload_n 0, 1) := by decide +kernel
theorem dX5_init_97 : decode cX5_init 97 = .ok (.iconst 0, 1) := by decide +kernel
theorem dX5_init_98 : decode cX5_init 98 = .ok (.putfield 61, 3) := by decide +kernel
theorem dX5_init_101 : decode cX5_init 101 = .ok (.return_, 1) := by decide +kernel
theorem dX5_line_0 : decode cX5_line 0 = .ok (.aload_n 0, 1) := by decide +kernel
theorem dX5_line_1 : decode cX5_line 1 = .ok (.aload_n 0, 1) := by decide +kernel
theorem dX5_line_2 : decode cX5_line 2 = .ok (.invokevirtual 64, 3) := by decide +kernel
theorem dX5_line_5 : decode cX5_line 5 = .ok (.iload_n 1, 1) := by decide +kernel
theorem dX5_line_6 : decode cX5_line 6 = .ok (.invokevirtual 68, 3) := by decide +kernel
theorem dX5_line_9 : decode cX5_line 9 = .ok (.invokevirtual 72, 3) := by decide +kernel
theorem dX5_line_12 : decode cX5_line 12 = .ok (.ireturn, 1) := by decide +kernel
theorem dX5_goes_0 : decode cX5_goes 0 = .ok (.aload_n 0, 1) := by decide +kernel
theorem dX5_goes_1 : decode cX5_goes 1 = .ok (.aload_n 0, 1) := by decide +kernel
theorem dX5_goes_2 : decode cX5_goes 2 = .ok (.invokevirtual 64, 3) := by decide +kernel
theorem dX5_goes_5 : decode cX5_goes 5 = .ok (.iload_n 1, 1) := by decide +kernel
theorem dX5_goes_6 : decode cX5_goes 6 = .ok (.iload_n 2, 1) := by decide +kernel
theorem dX5_goes_7 : decode cX5_goes 7 = .ok (.iload_n 3, 1) := by decide +kernel
theorem dX5_goes_8 : decode cX5_goes 8 = .ok (.invokevirtual 75, 3) := by decide +kernel
theorem dX5_goes_11 : decode cX5_goes 11 = .ok (.invokevirtual 72, 3) := by decide +kernel
theorem dX5_goes_14 : decode cX5_goes 14 = .ok (.ireturn, 1) := by decide +kernel
theorem dX5_shortens_0 : decode cX5_shortens 0 = .ok (.aload_n 0, 1) := by decide +kernel
theorem dX5_shortens_1 : decode cX5_shortens 1 = .ok (.aload_n 0, 1) := by decide +kernel
theorem dX5_shortens_2 : decode cX5_shortens 2 = .ok (.invokevirtual 64, 3) := by decide +kernel
theorem dX5_shortens_5 : decode cX5_shortens 5 = .ok (.iload_n 1, 1) := by decide +kernel
theorem dX5_shortens_6 : decode cX5_shortens 6 = .ok (.invokevirtual 79, 3) := by decide +kernel
theorem dX5_shortens_9 : decode cX5_shortens 9 = .ok (.invokevirtual 72, 3) := by decide +kernel
theorem dX5_shortens_12 : decode cX5_shortens 12 = .ok (.ireturn, 1) := by decide +kernel
theorem dX5_pocket_0 : decode cX5_pocket 0 = .ok (.aload_n 0, 1) := by decide +kernel
theorem dX5_pocket_1 : decode cX5_pocket 1 = .ok (.aload_n 0, 1) := by decide +kernel
theorem dX5_pocket_2 : decode cX5_pocket 2 = .ok (.invokevirtual 64, 3) := by decide +kernel
theorem dX5_pocket_5 : decode cX5_pocket 5 = .ok (.iload_n 1, 1) := by decide +kernel
theorem dX5_pocket_6 : decode cX5_pocket 6 = .ok (.iload_n 2, 1) := by decide +kernel
theorem dX5_pocket_7 : decode cX5_pocket 7 = .ok (.invokevirtual 82, 3) := by decide +kernel
theorem dX5_pocket_10 : decode cX5_pocket 10 = .ok (.invokevirtual 72, 3) := by decide +kernel
theorem dX5_pocket_13 : decode cX5_pocket 13 = .ok (.ireturn, 1) := by decide +kernel
theorem dX5_widens_0 : decode cX5_widens 0 = .ok (.aload_n 0, 1) := by decide +kernel
theorem dX5_widens_1 : decode cX5_widens 1 = .ok (.aload_n 0, 1) := by decide +kernel
theorem dX5_widens_2 : decode cX5_widens 2 = .ok (.invokevirtual 64, 3) := by decide +kernel
theorem dX5_widens_5 : decode cX5_widens 5 = .ok (.iload_n 1, 1) := by decide +kernel
theorem dX5_widens_6 : decode cX5_widens 6 = .ok (.iload_n 2, 1) := by decide +kernel
theorem dX5_widens_7 : decode cX5_widens 7 = .ok (.invokevirtual 86, 3) := by decide +kernel
theorem dX5_widens_10 : decode cX5_widens 10 = .ok (.invokevirtual 72, 3) := by decide +kernel
theorem dX5_widens_13 : decode cX5_widens 13 = .ok (.ireturn, 1) := by decide +kernel
theorem dX5_touches_0 : decode cX5_touches 0 = .ok (.aload_n 0, 1) := by decide +kernel
theorem dX5_touches_1 : decode cX5_touches 1 = .ok (.aload_n 0, 1) := by decide +kernel
theorem dX5_touches_2 : decode cX5_touches 2 = .ok (.invokevirtual 64, 3) := by decide +kernel
theorem dX5_touches_5 : decode cX5_touches 5 = .ok (.iload_n 1, 1) := by decide +kernel
theorem dX5_touches_6 : decode cX5_touches 6 = .ok (.iload_n 2, 1) := by decide +kernel
theorem dX5_touches_7 : decode cX5_touches 7 = .ok (.invokevirtual 89, 3) := by decide +kernel
theorem dX5_touches_10 : decode cX5_touches 10 = .ok (.invokevirtual 72, 3) := by decide +kernel
theorem dX5_touches_13 : decode cX5_touches 13 = .ok (.ireturn, 1) := by decide +kernel
theorem dX5_sets_0 : decode cX5_sets 0 = .ok (.aload_n 0, 1) := by decide +kernel
theorem dX5_sets_1 : decode cX5_sets 1 = .ok (.aload_n 0, 1) := by decide +kernel
theorem dX5_sets_2 : decode cX5_sets 2 = .ok (.invokevirtual 64, 3) := by decide +kernel
theorem dX5_sets_5 : decode cX5_sets 5 = .ok (.iload_n 1, 1) := by decide +kernel
theorem dX5_sets_6 : decode cX5_sets 6 = .ok (.iload_n 2, 1) := by decide +kernel
theorem dX5_sets_7 : decode cX5_sets 7 = .ok (.invokevirtual 92, 3) := by decide +kernel
theorem dX5_sets_10 : decode cX5_sets 10 = .ok (.invokevirtual 72, 3) := by decide +kernel
theorem dX5_sets_13 : decode cX5_sets 13 = .ok (.ireturn, 1) := by decide +kernel
theorem dX5_of_0 : decode cX5_of 0 = .ok (.aload_n 0, 1) := by decide +kernel
theorem dX5_of_1 : decode cX5_of 1 = .ok (.getfield 10, 3) := by decide +kernel
theorem dX5_of_4 : decode cX5_of 4 = .ok (.iload_n 1, 1) := by decide +kernel
theorem dX5_of_5 : decode cX5_of 5 = .ok (.invokevirtual 95, 3) := by decide +kernel
theorem dX5_of_8 : decode cX5_of 8 = .ok (.ifCond .ne 10, 3) := by decide +kernel
theorem dX5_of_11 : decode cX5_of 11 = .ok (.aload_n 0, 1) := by decide +kernel
theorem dX5_of_12 : decode cX5_of 12 = .ok (.bipush (-2), 2) := by decide +kernel
theorem dX5_of_14 : decode cX5_of 14 = .ok (.invokevirtual 99, 3) := by decide +kernel
theorem dX5_of_17 : decode cX5_of 17 = .ok (.ireturn, 1) := by decide +kernel
theorem dX5_of_18 : decode cX5_of 18 = .ok (.iload_n 2, 1) := by decide +kernel
theorem dX5_of_19 : decode cX5_of 19 = .ok (.tableswitch 136 0 6 #[41, 50, 59, 83, 107, 116, 126], 41) := by decide +kernel
theorem dX5_of_60 : decode cX5_of 60 = .ok (.aload_n 0, 1) := by decide +kernel
theorem dX5_of_61 : decode cX5_of 61 = .ok (.getfield 10, 3) := by decide +kernel
theorem dX5_of_64 : decode cX5_of 64 = .ok (.iload_n 1, 1) := by decide +kernel
theorem dX5_of_65 : decode cX5_of 65 = .ok (.invokevirtual 102, 3) := by decide +kernel
theorem dX5_of_68 : decode cX5_of 68 = .ok (.ireturn, 1) := by decide +kernel
theorem dX5_of_69 : decode cX5_of 69 = .ok (.aload_n 0, 1) := by decide +kernel
theorem dX5_of_70 : decode cX5_of 70 = .ok (.getfield 10, 3) := by decide +kernel
theorem dX5_of_73 : decode cX5_of 73 = .ok (.iload_n 1, 1) := by decide +kernel
theorem dX5_of_74 : decode cX5_of 74 = .ok (.invokevirtual 105, 3) := by decide +kernel
theorem dX5_of_77 : decode cX5_of 77 = .ok (.ireturn, 1) := by decide +kernel
theorem dX5_of_78 : decode cX5_of 78 = .ok (.aload_n 0, 1) := by decide +kernel
theorem dX5_of_79 : decode cX5_of 79 = .ok (.getfield 10, 3) := by decide +kernel
theorem dX5_of_82 : decode cX5_of 82 = .ok (.aload_n 0, 1) := by decide +kernel
theorem dX5_of_83 : decode cX5_of 83 = .ok (.getfield 10, 3) := by decide +kernel
theorem dX5_of_86 : decode cX5_of 86 = .ok (.iload_n 1, 1) := by decide +kernel
theorem dX5_of_87 : decode cX5_of 87 = .ok (.invokevirtual 105, 3) := by decide +kernel
theorem dX5_of_90 : decode cX5_of 90 = .ok (.aload_n 0, 1) := by decide +kernel
theorem dX5_of_91 : decode cX5_of 91 = .ok (.getfield 10, 3) := by decide +kernel
theorem dX5_of_94 : decode cX5_of 94 = .ok (.iconst 4, 1) := by decide +kernel
theorem dX5_of_95 : decode cX5_of 95 = .ok (.invokevirtual 108, 3) := by decide +kernel
theorem dX5_of_98 : decode cX5_of 98 = .ok (.invokevirtual 111, 3) := by decide +kernel
theorem dX5_of_101 : decode cX5_of 101 = .ok (.ireturn, 1) := by decide +kernel
theorem dX5_of_102 : decode cX5_of 102 = .ok (.aload_n 0, 1) := by decide +kernel
theorem dX5_of_103 : decode cX5_of 103 = .ok (.getfield 10, 3) := by decide +kernel
theorem dX5_of_106 : decode cX5_of 106 = .ok (.aload_n 0, 1) := by decide +kernel
theorem dX5_of_107 : decode cX5_of 107 = .ok (.getfield 10, 3) := by decide +kernel
theorem dX5_of_110 : decode cX5_of 110 = .ok (.iload_n 1, 1) := by decide +kernel
theorem dX5_of_111 : decode cX5_of 111 = .ok (.invokevirtual 105, 3) := by decide +kernel
theorem dX5_of_114 : decode cX5_of 114 = .ok (.aload_n 0, 1) := by decide +kernel
theorem dX5_of_115 : decode cX5_of 115 = .ok (.getfield 10, 3) := by decide +kernel
theorem dX5_of_118 : decode cX5_of 118 = .ok (.iconst 4, 1) := by decide +kernel
theorem dX5_of_119 : decode cX5_of 119 = .ok (.invokevirtual 108, 3) := by decide +kernel
theorem dX5_of_122 : decode cX5_of 122 = .ok (.invokevirtual 114, 3) := by decide +kernel
theorem dX5_of_125 : decode cX5_of 125 = .ok (.ireturn, 1) := by decide +kernel
theorem dX5_of_126 : decode cX5_of 126 = .ok (.aload_n 0, 1) := by decide +kernel
theorem dX5_of_127 : decode cX5_of 127 = .ok (.getfield 10, 3) := by decide +kernel
theorem dX5_of_130 : decode cX5_of 130 = .ok (.iload_n 1, 1) := by decide +kernel
theorem dX5_of_131 : decode cX5_of 131 = .ok (.invokevirtual 117, 3) := by decide +kernel
theorem dX5_of_134 : decode cX5_of 134 = .ok (.ireturn, 1) := by decide +kernel
theorem dX5_of_135 : decode cX5_of 135 = .ok (.aload_n 0, 1) := by decide +kernel
theorem dX5_of_136 : decode cX5_of 136 = .ok (.getfield 10, 3) := by decide +kernel
theorem dX5_of_139 : decode cX5_of 139 = .ok (.iload_n 1, 1) := by decide +kernel
theorem dX5_of_140 : decode cX5_of 140 = .ok (.iconst 1, 1) := by decide +kernel
theorem dX5_of_141 : decode cX5_of 141 = .ok (.invokevirtual 120, 3) := by decide +kernel
theorem dX5_of_144 : decode cX5_of 144 = .ok (.ireturn, 1) := by decide +kernel
theorem dX5_of_145 : decode cX5_of 145 = .ok (.aload_n 0, 1) := by decide +kernel
theorem dX5_of_146 : decode cX5_of 146 = .ok (.getfield 10, 3) := by decide +kernel
theorem dX5_of_149 : decode cX5_of 149 = .ok (.iload_n 1, 1) := by decide +kernel
theorem dX5_of_150 : decode cX5_of 150 = .ok (.iconst 0, 1) := by decide +kernel
theorem dX5_of_151 : decode cX5_of 151 = .ok (.invokevirtual 120, 3) := by decide +kernel
theorem dX5_of_154 : decode cX5_of 154 = .ok (.ireturn, 1) := by decide +kernel
theorem dX5_of_155 : decode cX5_of 155 = .ok (.aload_n 0, 1) := by decide +kernel
theorem dX5_of_156 : decode cX5_of 156 = .ok (.bipush (-2), 2) := by decide +kernel
theorem dX5_of_158 : decode cX5_of 158 = .ok (.invokevirtual 99, 3) := by decide +kernel
theorem dX5_of_161 : decode cX5_of 161 = .ok (.ireturn, 1) := by decide +kernel
theorem dX5_run_0 : decode cX5_run 0 = .ok (.aload_n 0, 1) := by decide +kernel
theorem dX5_run_1 : decode cX5_run 1 = .ok (.getfield 10, 3) := by decide +kernel
theorem dX5_run_4 : decode cX5_run 4 = .ok (.iload_n 1, 1) := by decide +kernel
theorem dX5_run_5 : decode cX5_run 5 = .ok (.iload_n 2, 1) := by decide +kernel
theorem dX5_run_6 : decode cX5_run 6 = .ok (.invokevirtual 123, 3) := by decide +kernel
theorem dX5_run_9 : decode cX5_run 9 = .ok (.ifCond .ne 10, 3) := by decide +kernel
theorem dX5_run_12 : decode cX5_run 12 = .ok (.aload_n 0, 1) := by decide +kernel
theorem dX5_run_13 : decode cX5_run 13 = .ok (.bipush (-2), 2) := by decide +kernel
theorem dX5_run_15 : decode cX5_run 15 = .ok (.invokevirtual 99, 3) := by decide +kernel
theorem dX5_run_18 : decode cX5_run 18 = .ok (.ireturn, 1) := by decide +kernel
theorem dX5_run_19 : decode cX5_run 19 = .ok (.iload_n 3, 1) := by decide +kernel
theorem dX5_run_20 : decode cX5_run 20 = .ok (.tableswitch 58 0 2 #[28, 38, 48], 28) := by decide +kernel
theorem dX5_run_48 : decode cX5_run 48 = .ok (.aload_n 0, 1) := by decide +kernel
theorem dX5_run_49 : decode cX5_run 49 = .ok (.getfield 10, 3) := by decide +kernel
theorem dX5_run_52 : decode cX5_run 52 = .ok (.iload_n 1, 1) := by decide +kernel
theorem dX5_run_53 : decode cX5_run 53 = .ok (.iload_n 2, 1) := by decide +kernel
theorem dX5_run_54 : decode cX5_run 54 = .ok (.invokevirtual 127, 3) := by decide +kernel
theorem dX5_run_57 : decode cX5_run 57 = .ok (.ireturn, 1) := by decide +kernel
theorem dX5_run_58 : decode cX5_run 58 = .ok (.aload_n 0, 1) := by decide +kernel
theorem dX5_run_59 : decode cX5_run 59 = .ok (.getfield 10, 3) := by decide +kernel
theorem dX5_run_62 : decode cX5_run 62 = .ok (.iload_n 1, 1) := by decide +kernel
theorem dX5_run_63 : decode cX5_run 63 = .ok (.iload_n 2, 1) := by decide +kernel
theorem dX5_run_64 : decode cX5_run 64 = .ok (.invokevirtual 130, 3) := by decide +kernel
theorem dX5_run_67 : decode cX5_run 67 = .ok (.ireturn, 1) := by decide +kernel
theorem dX5_run_68 : decode cX5_run 68 = .ok (.aload_n 0, 1) := by decide +kernel
theorem dX5_run_69 : decode cX5_run 69 = .ok (.getfield 10, 3) := by decide +kernel
theorem dX5_run_72 : decode cX5_run 72 = .ok (.iload_n 1, 1) := by decide +kernel
theorem dX5_run_73 : decode cX5_run 73 = .ok (.iload_n 2, 1) := by decide +kernel
theorem dX5_run_74 : decode cX5_run 74 = .ok (.invokevirtual 133, 3) := by decide +kernel
theorem dX5_run_77 : decode cX5_run 77 = .ok (.ireturn, 1) := by decide +kernel
theorem dX5_run_78 : decode cX5_run 78 = .ok (.aload_n 0, 1) := by decide +kernel
theorem dX5_run_79 : decode cX5_run 79 = .ok (.bipush (-2), 2) := by decide +kernel
theorem dX5_run_81 : decode cX5_run 81 = .ok (.invokevirtual 99, 3) := by decide +kernel
theorem dX5_run_84 : decode cX5_run 84 = .ok (.ireturn, 1) := by decide +kernel
theorem dX5_about_0 : decode cX5_about 0 = .ok (.aload_n 0, 1) := by decide +kernel
theorem dX5_about_1 : decode cX5_about 1 = .ok (.getfield 10, 3) := by decide +kernel
theorem dX5_about_4 : decode cX5_about 4 = .ok (.iload_n 1, 1) := by decide +kernel
theorem dX5_about_5 : decode cX5_about 5 = .ok (.invokevirtual 136, 3) := by decide +kernel
theorem dX5_about_8 : decode cX5_about 8 = .ok (.ifCond .ne 10, 3) := by decide +kernel
theorem dX5_about_11 : decode cX5_about 11 = .ok (.aload_n 0, 1) := by decide +kernel
theorem dX5_about_12 : decode cX5_about 12 = .ok (.bipush (-2), 2) := by decide +kernel
theorem dX5_about_14 : decode cX5_about 14 = .ok (.invokevirtual 99, 3) := by decide +kernel
theorem dX5_about_17 : decode cX5_about 17 = .ok (.ireturn, 1) := by decide +kernel
theorem dX5_about_18 : decode cX5_about 18 = .ok (.iload_n 2, 1) := by decide +kernel
theorem dX5_about_19 : decode cX5_about 19 = .ok (.tableswitch 79 0 3 #[29, 38, 47, 56], 29) := by decide +kernel
theorem dX5_about_48 : decode cX5_about 48 = .ok (.aload_n 0, 1) := by decide +kernel
theorem dX5_about_49 : decode cX5_about 49 = .ok (.getfield 10, 3) := by decide +kernel
theorem dX5_about_52 : decode cX5_about 52 = .ok (.iload_n 1, 1) := by decide +kernel
theorem dX5_about_53 : decode cX5_about 53 = .ok (.invokevirtual 139, 3) := by decide +kernel
theorem dX5_about_56 : decode cX5_about 56 = .ok (.ireturn, 1) := by decide +kernel
theorem dX5_about_57 : decode cX5_about 57 = .ok (.aload_n 0, 1) := by decide +kernel
theorem dX5_about_58 : decode cX5_about 58 = .ok (.getfield 10, 3) := by decide +kernel
theorem dX5_about_61 : decode cX5_about 61 = .ok (.iload_n 1, 1) := by decide +kernel
theorem dX5_about_62 : decode cX5_about 62 = .ok (.invokevirtual 142, 3) := by decide +kernel
theorem dX5_about_65 : decode cX5_about 65 = .ok (.ireturn, 1) := by decide +kernel
theorem dX5_about_66 : decode cX5_about 66 = .ok (.aload_n 0, 1) := by decide +kernel
theorem dX5_about_67 : decode cX5_about 67 = .ok (.getfield 10, 3) := by decide +kernel
theorem dX5_about_70 : decode cX5_about 70 = .ok (.iload_n 1, 1) := by decide +kernel
theorem dX5_about_71 : decode cX5_about 71 = .ok (.invokevirtual 145, 3) := by decide +kernel
theorem dX5_about_74 : decode cX5_about 74 = .ok (.ireturn, 1) := by decide +kernel
theorem dX5_about_75 : decode cX5_about 75 = .ok (.aload_n 0, 1) := by decide +kernel
theorem dX5_about_76 : decode cX5_about 76 = .ok (.invokevirtual 148, 3) := by decide +kernel
theorem dX5_about_79 : decode cX5_about 79 = .ok (.invokevirtual 152, 3) := by decide +kernel
theorem dX5_about_82 : decode cX5_about 82 = .ok (.ifCond .eq 14, 3) := by decide +kernel
theorem dX5_about_85 : decode cX5_about 85 = .ok (.aload_n 0, 1) := by decide +kernel
theorem dX5_about_86 : decode cX5_about 86 = .ok (.invokevirtual 148, 3) := by decide +kernel
theorem dX5_about_89 : decode cX5_about 89 = .ok (.iload_n 1, 1) := by decide +kernel
theorem dX5_about_90 : decode cX5_about 90 = .ok (.invokevirtual 156, 3) := by decide +kernel
theorem dX5_about_93 : decode cX5_about 93 = .ok (.goto 4, 3) := by decide +kernel
theorem dX5_about_96 : decode cX5_about 96 = .ok (.iconst (-1), 1) := by decide +kernel
theorem dX5_about_97 : decode cX5_about 97 = .ok (.ireturn, 1) := by decide +kernel
theorem dX5_about_98 : decode cX5_about 98 = .ok (.aload_n 0, 1) := by decide +kernel
theorem dX5_about_99 : decode cX5_about 99 = .ok (.bipush (-2), 2) := by decide +kernel
theorem dX5_about_101 : decode cX5_about 101 = .ok (.invokevirtual 99, 3) := by decide +kernel
theorem dX5_about_104 : decode cX5_about 104 = .ok (.ireturn, 1) := by decide +kernel
theorem dX5_setting_0 : decode cX5_setting 0 = .ok (.iload_n 1, 1) := by decide +kernel
theorem dX5_setting_1 : decode cX5_setting 1 = .ok (.iconst 0, 1) := by decide +kernel
theorem dX5_setting_2 : decode cX5_setting 2 = .ok (.bipush 6, 2) := by decide +kernel
theorem dX5_setting_4 : decode cX5_setting 4 = .ok (.invokestatic 159, 3) := by decide +kernel
theorem dX5_setting_7 : decode cX5_setting 7 = .ok (.ifCond .eq 14, 3) := by decide +kernel
theorem dX5_setting_10 : decode cX5_setting 10 = .ok (.aload_n 0, 1) := by decide +kernel
theorem dX5_setting_11 : decode cX5_setting 11 = .ok (.getfield 10, 3) := by decide +kernel
theorem dX5_setting_14 : decode cX5_setting 14 = .ok (.iload_n 1, 1) := by decide +kernel
theorem dX5_setting_15 : decode cX5_setting 15 = .ok (.invokevirtual 108, 3) := by decide +kernel
theorem dX5_setting_18 : decode cX5_setting 18 = .ok (.goto 9, 3) := by decide +kernel
theorem dX5_setting_21 : decode cX5_setting 21 = .ok (.aload_n 0, 1) := by decide +kernel
theorem dX5_setting_22 : decode cX5_setting 22 = .ok (.bipush (-2), 2) := by decide +kernel
theorem dX5_setting_24 : decode cX5_setting 24 = .ok (.invokevirtual 99, 3) := by decide +kernel
theorem dX5_setting_27 : decode cX5_setting 27 = .ok (.ireturn, 1) := by decide +kernel
theorem dX5_count_0 : decode cX5_count 0 = .ok (.iload_n 1, 1) := by decide +kernel
theorem dX5_count_1 : decode cX5_count 1 = .ok (.tableswitch 118 0 6 #[43, 51, 59, 70, 86, 94, 102], 43) := by decide +kernel
theorem dX5_count_44 : decode cX5_count 44 = .ok (.aload_n 0, 1) := by decide +kernel
theorem dX5_count_45 : decode cX5_count 45 = .ok (.getfield 10, 3) := by decide +kernel
theorem dX5_count_48 : decode cX5_count 48 = .ok (.invokevirtual 163, 3) := by decide +kernel
theorem dX5_count_51 : decode cX5_count 51 = .ok (.ireturn, 1) := by decide +kernel
theorem dX5_count_52 : decode cX5_count 52 = .ok (.aload_n 0, 1) := by decide +kernel
theorem dX5_count_53 : decode cX5_count 53 = .ok (.getfield 10, 3) := by decide +kernel
theorem dX5_count_56 : decode cX5_count 56 = .ok (.invokevirtual 167, 3) := by decide +kernel
theorem dX5_count_59 : decode cX5_count 59 = .ok (.ireturn, 1) := by decide +kernel
theorem dX5_count_60 : decode cX5_count 60 = .ok (.aload_n 0, 1) := by decide +kernel
theorem dX5_count_61 : decode cX5_count 61 = .ok (.getfield 10, 3) := by decide +kernel
theorem dX5_count_64 : decode cX5_count 64 = .ok (.invokevirtual 170, 3) := by decide +kernel
theorem dX5_count_67 : decode cX5_count 67 = .ok (.bipush 100, 2) := by decide +kernel
theorem dX5_count_69 : decode cX5_count 69 = .ok (.iadd, 1) := by decide +kernel
theorem dX5_count_70 : decode cX5_count 70 = .ok (.ireturn, 1) := by decide +kernel
theorem dX5_count_71 : decode cX5_count 71 = .ok (.aload_n 0, 1) := by decide +kernel
theorem dX5_count_72 : decode cX5_count 72 = .ok (.invokevirtual 148, 3) := by decide +kernel
theorem dX5_count_75 : decode cX5_count 75 = .ok (.invokevirtual 152, 3) := by decide +kernel
theorem dX5_count_78 : decode cX5_count 78 = .ok (.ifCond .eq 7, 3) := by decide +kernel
theorem dX5_count_81 : decode cX5_count 81 = .ok (.iconst 1, 1) := by decide +kernel
theorem dX5_count_82 : decode cX5_count 82 = .ok (.goto 4, 3) := by decide +kernel
theorem dX5_count_85 : decode cX5_count 85 = .ok (.iconst 0, 1) := by decide +kernel
theorem dX5_count_86 : decode cX5_count 86 = .ok (.ireturn, 1) := by decide +kernel
theorem dX5_count_87 : decode cX5_count 87 = .ok (.aload_n 0, 1) := by decide +kernel
theorem dX5_count_88 : decode cX5_count 88 = .ok (.getfield 10, 3) := by decide +kernel
theorem dX5_count_91 : decode cX5_count 91 = .ok (.invokevirtual 173, 3) := by decide +kernel
theorem dX5_count_94 : decode cX5_count 94 = .ok (.ireturn, 1) := by decide +kernel
theorem dX5_count_95 : decode cX5_count 95 = .ok (.aload_n 0, 1) := by decide +kernel
theorem dX5_count_96 : decode cX5_count 96 = .ok (.getfield 10, 3) := by decide +kernel
theorem dX5_count_99 : decode cX5_count 99 = .ok (.invokevirtual 176, 3) := by decide +kernel
theorem dX5_count_102 : decode cX5_count 102 = .ok (.ireturn, 1) := by decide +kernel
theorem dX5_count_103 : decode cX5_count 103 = .ok (.aload_n 0, 1) := by decide +kernel
theorem dX5_count_104 : decode cX5_count 104 = .ok (.getfield 10, 3) := by decide +kernel
theorem dX5_count_107 : decode cX5_count 107 = .ok (.aload_n 0, 1) := by decide +kernel
theorem dX5_count_108 : decode cX5_count 108 = .ok (.getfield 10, 3) := by decide +kernel
theorem dX5_count_111 : decode cX5_count 111 = .ok (.iconst 4, 1) := by decide +kernel
theorem dX5_count_112 : decode cX5_count 112 = .ok (.invokevirtual 108, 3) := by decide +kernel
theorem dX5_count_115 : decode cX5_count 115 = .ok (.invokevirtual 179, 3) := by decide +kernel
theorem dX5_count_118 : decode cX5_count 118 = .ok (.ireturn, 1) := by decide +kernel
theorem dX5_count_119 : decode cX5_count 119 = .ok (.aload_n 0, 1) := by decide +kernel
theorem dX5_count_120 : decode cX5_count 120 = .ok (.bipush (-2), 2) := by decide +kernel
theorem dX5_count_122 : decode cX5_count 122 = .ok (.invokevirtual 99, 3) := by decide +kernel
theorem dX5_count_125 : decode cX5_count 125 = .ok (.ireturn, 1) := by decide +kernel
theorem dX5_draws_0 : decode cX5_draws 0 = .ok (.aload_n 0, 1) := by decide +kernel
theorem dX5_draws_1 : decode cX5_draws 1 = .ok (.getfield 10, 3) := by decide +kernel
theorem dX5_draws_4 : decode cX5_draws 4 = .ok (.iload_n 1, 1) := by decide +kernel
theorem dX5_draws_5 : decode cX5_draws 5 = .ok (.invokevirtual 95, 3) := by decide +kernel
theorem dX5_draws_8 : decode cX5_draws 8 = .ok (.ifCond .eq 14, 3) := by decide +kernel
theorem dX5_draws_11 : decode cX5_draws 11 = .ok (.aload_n 0, 1) := by decide +kernel
theorem dX5_draws_12 : decode cX5_draws 12 = .ok (.getfield 10, 3) := by decide +kernel
theorem dX5_draws_15 : decode cX5_draws 15 = .ok (.iload_n 2, 1) := by decide +kernel
theorem dX5_draws_16 : decode cX5_draws 16 = .ok (.invokevirtual 136, 3) := by decide +kernel
theorem dX5_draws_19 : decode cX5_draws 19 = .ok (.ifCond .ne 10, 3) := by decide +kernel
theorem dX5_draws_22 : decode cX5_draws 22 = .ok (.aload_n 0, 1) := by decide +kernel
theorem dX5_draws_23 : decode cX5_draws 23 = .ok (.bipush (-2), 2) := by decide +kernel
theorem dX5_draws_25 : decode cX5_draws 25 = .ok (.invokevirtual 99, 3) := by decide +kernel
theorem dX5_draws_28 : decode cX5_draws 28 = .ok (.ireturn, 1) := by decide +kernel
theorem dX5_draws_29 : decode cX5_draws 29 = .ok (.aload_n 0, 1) := by decide +kernel
theorem dX5_draws_30 : decode cX5_draws 30 = .ok (.invokevirtual 148, 3) := by decide +kernel
theorem dX5_draws_33 : decode cX5_draws 33 = .ok (.invokevirtual 152, 3) := by decide +kernel
theorem dX5_draws_36 : decode cX5_draws 36 = .ok (.ifCond .eq 15, 3) := by decide +kernel
theorem dX5_draws_39 : decode cX5_draws 39 = .ok (.aload_n 0, 1) := by decide +kernel
theorem dX5_draws_40 : decode cX5_draws 40 = .ok (.invokevirtual 148, 3) := by decide +kernel
theorem dX5_draws_43 : decode cX5_draws 43 = .ok (.iload_n 1, 1) := by decide +kernel
theorem dX5_draws_44 : decode cX5_draws 44 = .ok (.iload_n 2, 1) := by decide +kernel
theorem dX5_draws_45 : decode cX5_draws 45 = .ok (.invokevirtual 182, 3) := by decide +kernel
theorem dX5_draws_48 : decode cX5_draws 48 = .ok (.goto 9, 3) := by decide +kernel
theorem dX5_draws_51 : decode cX5_draws 51 = .ok (.aload_n 0, 1) := by decide +kernel
theorem dX5_draws_52 : decode cX5_draws 52 = .ok (.bipush (-3), 2) := by decide +kernel
theorem dX5_draws_54 : decode cX5_draws 54 = .ok (.invokevirtual 99, 3) := by decide +kernel
theorem dX5_draws_57 : decode cX5_draws 57 = .ok (.ireturn, 1) := by decide +kernel
theorem dX5_length_0 : decode cX5_length 0 = .ok (.aload_n 0, 1) := by decide +kernel
theorem dX5_length_1 : decode cX5_length 1 = .ok (.getfield 10, 3) := by decide +kernel
theorem dX5_length_4 : decode cX5_length 4 = .ok (.iload_n 1, 1) := by decide +kernel
theorem dX5_length_5 : decode cX5_length 5 = .ok (.invokevirtual 95, 3) := by decide +kernel
theorem dX5_length_8 : decode cX5_length 8 = .ok (.ifCond .ne 10, 3) := by decide +kernel
theorem dX5_length_11 : decode cX5_length 11 = .ok (.aload_n 0, 1) := by decide +kernel
theorem dX5_length_12 : decode cX5_length 12 = .ok (.bipush (-2), 2) := by decide +kernel
theorem dX5_length_14 : decode cX5_length 14 = .ok (.invokevirtual 99, 3) := by decide +kernel
theorem dX5_length_17 : decode cX5_length 17 = .ok (.ireturn, 1) := by decide +kernel
theorem dX5_length_18 : decode cX5_length 18 = .ok (.aload_n 0, 1) := by decide +kernel
theorem dX5_length_19 : decode cX5_length 19 = .ok (.invokevirtual 148, 3) := by decide +kernel
theorem dX5_length_22 : decode cX5_length 22 = .ok (.invokevirtual 152, 3) := by decide +kernel
theorem dX5_length_25 : decode cX5_length 25 = .ok (.ifCond .ne 10, 3) := by decide +kernel
theorem dX5_length_28 : decode cX5_length 28 = .ok (.aload_n 0, 1) := by decide +kernel
theorem dX5_length_29 : decode cX5_length 29 = .ok (.bipush (-3), 2) := by decide +kernel
theorem dX5_length_31 : decode cX5_length 31 = .ok (.invokevirtual 99, 3) := by decide +kernel
theorem dX5_length_34 : decode cX5_length 34 = .ok (.ireturn, 1) := by decide +kernel
theorem dX5_length_35 : decode cX5_length 35 = .ok (.aload_n 0, 1) := by decide +kernel
theorem dX5_length_36 : decode cX5_length 36 = .ok (.getfield 10, 3) := by decide +kernel
theorem dX5_length_39 : decode cX5_length 39 = .ok (.iload_n 1, 1) := by decide +kernel
theorem dX5_length_40 : decode cX5_length 40 = .ok (.invokevirtual 105, 3) := by decide +kernel
theorem dX5_length_43 : decode cX5_length 43 = .ok (.istore_n 2, 1) := by decide +kernel
theorem dX5_length_44 : decode cX5_length 44 = .ok (.iload_n 2, 1) := by decide +kernel
theorem dX5_length_45 : decode cX5_length 45 = .ok (.aload_n 0, 1) := by decide +kernel
theorem dX5_length_46 : decode cX5_length 46 = .ok (.getfield 10, 3) := by decide +kernel
theorem dX5_length_49 : decode cX5_length 49 = .ok (.iload_n 2, 1) := by decide +kernel
theorem dX5_length_50 : decode cX5_length 50 = .ok (.aload_n 0, 1) := by decide +kernel
theorem dX5_length_51 : decode cX5_length 51 = .ok (.getfield 10, 3) := by decide +kernel
theorem dX5_length_54 : decode cX5_length 54 = .ok (.iconst 4, 1) := by decide +kernel
theorem dX5_length_55 : decode cX5_length 55 = .ok (.invokevirtual 108, 3) := by decide +kernel
theorem dX5_length_58 : decode cX5_length 58 = .ok (.invokevirtual 111, 3) := by decide +kernel
theorem dX5_length_61 : decode cX5_length 61 = .ok (.iadd, 1) := by decide +kernel
theorem dX5_length_62 : decode cX5_length 62 = .ok (.ireturn, 1) := by decide +kernel
theorem dX5_blocked_0 : decode cX5_blocked 0 = .ok (.aload_n 0, 1) := by decide +kernel
theorem dX5_blocked_1 : decode cX5_blocked 1 = .ok (.invokevirtual 148, 3) := by decide +kernel
theorem dX5_blocked_4 : decode cX5_blocked 4 = .ok (.invokevirtual 185, 3) := by decide +kernel
theorem dX5_blocked_7 : decode cX5_blocked 7 = .ok (.ireturn, 1) := by decide +kernel
theorem dX5_can_0 : decode cX5_can 0 = .ok (.iload_n 1, 1) := by decide +kernel
theorem dX5_can_1 : decode cX5_can 1 = .ok (.iconst 0, 1) := by decide +kernel
theorem dX5_can_2 : decode cX5_can 2 = .ok (.sipush 999, 3) := by decide +kernel
theorem dX5_can_5 : decode cX5_can 5 = .ok (.invokestatic 159, 3) := by decide +kernel
theorem dX5_can_8 : decode cX5_can 8 = .ok (.ifCond .ne 10, 3) := by decide +kernel
theorem dX5_can_11 : decode cX5_can 11 = .ok (.aload_n 0, 1) := by decide +kernel
theorem dX5_can_12 : decode cX5_can 12 = .ok (.bipush (-2), 2) := by decide +kernel
theorem dX5_can_14 : decode cX5_can 14 = .ok (.invokevirtual 99, 3) := by decide +kernel
theorem dX5_can_17 : decode cX5_can 17 = .ok (.ireturn, 1) := by decide +kernel
theorem dX5_can_18 : decode cX5_can 18 = .ok (.aload_n 0, 1) := by decide +kernel
theorem dX5_can_19 : decode cX5_can 19 = .ok (.iload_n 1, 1) := by decide +kernel
theorem dX5_can_20 : decode cX5_can 20 = .ok (.invokevirtual 188, 3) := by decide +kernel
theorem dX5_can_23 : decode cX5_can 23 = .ok (.ifCond .eq 7, 3) := by decide +kernel
theorem dX5_can_26 : decode cX5_can 26 = .ok (.iconst 1, 1) := by decide +kernel
theorem dX5_can_27 : decode cX5_can 27 = .ok (.goto 4, 3) := by decide +kernel
theorem dX5_can_30 : decode cX5_can 30 = .ok (.iconst 0, 1) := by decide +kernel
theorem dX5_can_31 : decode cX5_can 31 = .ok (.ireturn, 1) := by decide +kernel
theorem dX5_least_0 : decode cX5_least 0 = .ok (.aload_n 0, 1) := by decide +kernel
theorem dX5_least_1 : decode cX5_least 1 = .ok (.getfield 10, 3) := by decide +kernel
theorem dX5_least_4 : decode cX5_least 4 = .ok (.invokevirtual 173, 3) := by decide +kernel
theorem dX5_least_7 : decode cX5_least 7 = .ok (.istore_n 1, 1) := by decide +kernel
theorem dX5_least_8 : decode cX5_least 8 = .ok (.aload_n 0, 1) := by decide +kernel
theorem dX5_least_9 : decode cX5_least 9 = .ok (.iload_n 1, 1) := by decide +kernel
theorem dX5_least_10 : decode cX5_least 10 = .ok (.invokevirtual 188, 3) := by decide +kernel
theorem dX5_least_13 : decode cX5_least 13 = .ok (.ifCond .eq 7, 3) := by decide +kernel
theorem dX5_least_16 : decode cX5_least 16 = .ok (.iload_n 1, 1) := by decide +kernel
theorem dX5_least_17 : decode cX5_least 17 = .ok (.goto 4, 3) := by decide +kernel
theorem dX5_least_20 : decode cX5_least 20 = .ok (.iconst (-1), 1) := by decide +kernel
theorem dX5_least_21 : decode cX5_least 21 = .ok (.ireturn, 1) := by decide +kernel
theorem dX5_greatest_0 : decode cX5_greatest 0 = .ok (.aload_n 0, 1) := by decide +kernel
theorem dX5_greatest_1 : decode cX5_greatest 1 = .ok (.getfield 10, 3) := by decide +kernel
theorem dX5_greatest_4 : decode cX5_greatest 4 = .ok (.invokevirtual 173, 3) := by decide +kernel
theorem dX5_greatest_7 : decode cX5_greatest 7 = .ok (.istore_n 1, 1) := by decide +kernel
theorem dX5_greatest_8 : decode cX5_greatest 8 = .ok (.aload_n 0, 1) := by decide +kernel
theorem dX5_greatest_9 : decode cX5_greatest 9 = .ok (.iload_n 1, 1) := by decide +kernel
theorem dX5_greatest_10 : decode cX5_greatest 10 = .ok (.invokevirtual 188, 3) := by decide +kernel
theorem dX5_greatest_13 : decode cX5_greatest 13 = .ok (.ifCond .ne 5, 3) := by decide +kernel
theorem dX5_greatest_16 : decode cX5_greatest 16 = .ok (.iconst (-1), 1) := by decide +kernel
theorem dX5_greatest_17 : decode cX5_greatest 17 = .ok (.ireturn, 1) := by decide +kernel
theorem dX5_greatest_18 : decode cX5_greatest 18 = .ok (.sipush 512, 3) := by decide +kernel
theorem dX5_greatest_21 : decode cX5_greatest 21 = .ok (.istore_n 2, 1) := by decide +kernel
theorem dX5_greatest_22 : decode cX5_greatest 22 = .ok (.iload_n 2, 1) := by decide +kernel
theorem dX5_greatest_23 : decode cX5_greatest 23 = .ok (.ifCond .le 33, 3) := by decide +kernel
theorem dX5_greatest_26 : decode cX5_greatest 26 = .ok (.iload_n 1, 1) := by decide +kernel
theorem dX5_greatest_27 : decode cX5_greatest 27 = .ok (.iload_n 2, 1) := by decide +kernel
theorem dX5_greatest_28 : decode cX5_greatest 28 = .ok (.iadd, 1) := by decide +kernel
theorem dX5_greatest_29 : decode cX5_greatest 29 = .ok (.sipush 999, 3) := by decide +kernel
theorem dX5_greatest_32 : decode cX5_greatest 32 = .ok (.if_icmp .gt 17, 3) := by decide +kernel
theorem dX5_greatest_35 : decode cX5_greatest 35 = .ok (.aload_n 0, 1) := by decide +kernel
theorem dX5_greatest_36 : decode cX5_greatest 36 = .ok (.iload_n 1, 1) := by decide +kernel
theorem dX5_greatest_37 : decode cX5_greatest 37 = .ok (.iload_n 2, 1) := by decide +kernel
theorem dX5_greatest_38 : decode cX5_greatest 38 = .ok (.iadd, 1) := by decide +kernel
theorem dX5_greatest_39 : decode cX5_greatest 39 = .ok (.invokevirtual 188, 3) := by decide +kernel
theorem dX5_greatest_42 : decode cX5_greatest 42 = .ok (.ifCond .eq 7, 3) := by decide +kernel
theorem dX5_greatest_45 : decode cX5_greatest 45 = .ok (.iload_n 1, 1) := by decide +kernel
theorem dX5_greatest_46 : decode cX5_greatest 46 = .ok (.iload_n 2, 1) := by decide +kernel
theorem dX5_greatest_47 : decode cX5_greatest 47 = .ok (.iadd, 1) := by decide +kernel
theorem dX5_greatest_48 : decode cX5_greatest 48 = .ok (.istore_n 1, 1) := by decide +kernel
theorem dX5_greatest_49 : decode cX5_greatest 49 = .ok (.iload_n 2, 1) := by decide +kernel
theorem dX5_greatest_50 : decode cX5_greatest 50 = .ok (.iconst 2, 1) := by decide +kernel
theorem dX5_greatest_51 : decode cX5_greatest 51 = .ok (.idiv, 1) := by decide +kernel
theorem dX5_greatest_52 : decode cX5_greatest 52 = .ok (.istore_n 2, 1) := by decide +kernel
theorem dX5_greatest_53 : decode cX5_greatest 53 = .ok (.goto (-31), 3) := by decide +kernel
theorem dX5_greatest_56 : decode cX5_greatest 56 = .ok (.iload_n 1, 1) := by decide +kernel
theorem dX5_greatest_57 : decode cX5_greatest 57 = .ok (.ireturn, 1) := by decide +kernel
theorem dX5_more_0 : decode cX5_more 0 = .ok (.aload_n 0, 1) := by decide +kernel
theorem dX5_more_1 : decode cX5_more 1 = .ok (.invokevirtual 148, 3) := by decide +kernel
theorem dX5_more_4 : decode cX5_more 4 = .ok (.invokevirtual 152, 3) := by decide +kernel
theorem dX5_more_7 : decode cX5_more 7 = .ok (.ifCond .eq 10, 3) := by decide +kernel
theorem dX5_more_10 : decode cX5_more 10 = .ok (.aload_n 0, 1) := by decide +kernel
theorem dX5_more_11 : decode cX5_more 11 = .ok (.bipush (-3), 2) := by decide +kernel
theorem dX5_more_13 : decode cX5_more 13 = .ok (.invokevirtual 99, 3) := by decide +kernel
theorem dX5_more_16 : decode cX5_more 16 = .ok (.ireturn, 1) := by decide +kernel
theorem dX5_more_17 : decode cX5_more 17 = .ok (.aload_n 0, 1) := by decide +kernel
theorem dX5_more_18 : decode cX5_more 18 = .ok (.getfield 40, 3) := by decide +kernel
theorem dX5_more_21 : decode cX5_more 21 = .ok (.aload_n 0, 1) := by decide +kernel
theorem dX5_more_22 : decode cX5_more 22 = .ok (.getfield 10, 3) := by decide +kernel
theorem dX5_more_25 : decode cX5_more 25 = .ok (.aload_n 0, 1) := by decide +kernel
theorem dX5_more_26 : decode cX5_more 26 = .ok (.getfield 10, 3) := by decide +kernel
theorem dX5_more_29 : decode cX5_more 29 = .ok (.iconst 4, 1) := by decide +kernel
theorem dX5_more_30 : decode cX5_more 30 = .ok (.invokevirtual 108, 3) := by decide +kernel
theorem dX5_more_33 : decode cX5_more 33 = .ok (.invokevirtual 191, 3) := by decide +kernel
theorem dX5_more_36 : decode cX5_more 36 = .ok (.iconst 0, 1) := by decide +kernel
theorem dX5_more_37 : decode cX5_more 37 = .ok (.istore_n 1, 1) := by decide +kernel
theorem dX5_more_38 : decode cX5_more 38 = .ok (.iload_n 1, 1) := by decide +kernel
theorem dX5_more_39 : decode cX5_more 39 = .ok (.aload_n 0, 1) := by decide +kernel
theorem dX5_more_40 : decode cX5_more 40 = .ok (.getfield 10, 3) := by decide +kernel
theorem dX5_more_43 : decode cX5_more 43 = .ok (.invokevirtual 167, 3) := by decide +kernel
theorem dX5_more_46 : decode cX5_more 46 = .ok (.if_icmp .ge 22, 3) := by decide +kernel
theorem dX5_more_49 : decode cX5_more 49 = .ok (.aload_n 0, 1) := by decide +kernel
theorem dX5_more_50 : decode cX5_more 50 = .ok (.getfield 40, 3) := by decide +kernel
theorem dX5_more_53 : decode cX5_more 53 = .ok (.iload_n 1, 1) := by decide +kernel
theorem dX5_more_54 : decode cX5_more 54 = .ok (.invokevirtual 195, 3) := by decide +kernel
theorem dX5_more_57 : decode cX5_more 57 = .ok (.ifCond .eq 5, 3) := by decide +kernel
theorem dX5_more_60 : decode cX5_more 60 = .ok (.iload_n 1, 1) := by decide +kernel
theorem dX5_more_61 : decode cX5_more 61 = .ok (.ireturn, 1) := by decide +kernel
theorem dX5_more_62 : decode cX5_more 62 = .ok (.iinc 1 1, 3) := by decide +kernel
theorem dX5_more_65 : decode cX5_more 65 = .ok (.goto (-27), 3) := by decide +kernel
theorem dX5_more_68 : decode cX5_more 68 = .ok (.iconst (-1), 1) := by decide +kernel
theorem dX5_more_69 : decode cX5_more 69 = .ok (.ireturn, 1) := by decide +kernel
theorem dX5_bumps_0 : decode cX5_bumps 0 = .ok (.aload_n 0, 1) := by decide +kernel
theorem dX5_bumps_1 : decode cX5_bumps 1 = .ok (.getfield 10, 3) := by decide +kernel
theorem dX5_bumps_4 : decode cX5_bumps 4 = .ok (.iload_n 1, 1) := by decide +kernel
theorem dX5_bumps_5 : decode cX5_bumps 5 = .ok (.invokevirtual 95, 3) := by decide +kernel
theorem dX5_bumps_8 : decode cX5_bumps 8 = .ok (.ifCond .eq 18, 3) := by decide +kernel
theorem dX5_bumps_11 : decode cX5_bumps 11 = .ok (.aload_n 0, 1) := by decide +kernel
theorem dX5_bumps_12 : decode cX5_bumps 12 = .ok (.getfield 46, 3) := by decide +kernel
theorem dX5_bumps_15 : decode cX5_bumps 15 = .ok (.aload_n 0, 1) := by decide +kernel
theorem dX5_bumps_16 : decode cX5_bumps 16 = .ok (.getfield 10, 3) := by decide +kernel
theorem dX5_bumps_19 : decode cX5_bumps 19 = .ok (.iload_n 1, 1) := by decide +kernel
theorem dX5_bumps_20 : decode cX5_bumps 20 = .ok (.invokevirtual 198, 3) := by decide +kernel
theorem dX5_bumps_23 : decode cX5_bumps 23 = .ok (.goto 9, 3) := by decide +kernel
theorem dX5_bumps_26 : decode cX5_bumps 26 = .ok (.aload_n 0, 1) := by decide +kernel
theorem dX5_bumps_27 : decode cX5_bumps 27 = .ok (.bipush (-2), 2) := by decide +kernel
theorem dX5_bumps_29 : decode cX5_bumps 29 = .ok (.invokevirtual 99, 3) := by decide +kernel
theorem dX5_bumps_32 : decode cX5_bumps 32 = .ok (.ireturn, 1) := by decide +kernel
theorem dX5_skew_0 : decode cX5_skew 0 = .ok (.aload_n 0, 1) := by decide +kernel
theorem dX5_skew_1 : decode cX5_skew 1 = .ok (.getfield 10, 3) := by decide +kernel
theorem dX5_skew_4 : decode cX5_skew 4 = .ok (.iload_n 1, 1) := by decide +kernel
theorem dX5_skew_5 : decode cX5_skew 5 = .ok (.iload_n 2, 1) := by decide +kernel
theorem dX5_skew_6 : decode cX5_skew 6 = .ok (.invokevirtual 123, 3) := by decide +kernel
theorem dX5_skew_9 : decode cX5_skew 9 = .ok (.ifCond .eq 18, 3) := by decide +kernel
theorem dX5_skew_12 : decode cX5_skew 12 = .ok (.aload_n 0, 1) := by decide +kernel
theorem dX5_skew_13 : decode cX5_skew 13 = .ok (.getfield 10, 3) := by decide +kernel
theorem dX5_skew_16 : decode cX5_skew 16 = .ok (.iload_n 1, 1) := by decide +kernel
theorem dX5_skew_17 : decode cX5_skew 17 = .ok (.iload_n 2, 1) := by decide +kernel
theorem dX5_skew_18 : decode cX5_skew 18 = .ok (.invokevirtual 202, 3) := by decide +kernel
theorem dX5_skew_21 : decode cX5_skew 21 = .ok (.bipush 100, 2) := by decide +kernel
theorem dX5_skew_23 : decode cX5_skew 23 = .ok (.iadd, 1) := by decide +kernel
theorem dX5_skew_24 : decode cX5_skew 24 = .ok (.goto 9, 3) := by decide +kernel
theorem dX5_skew_27 : decode cX5_skew 27 = .ok (.aload_n 0, 1) := by decide +kernel
theorem dX5_skew_28 : decode cX5_skew 28 = .ok (.bipush (-2), 2) := by decide +kernel
theorem dX5_skew_30 : decode cX5_skew 30 = .ok (.invokevirtual 99, 3) := by decide +kernel
theorem dX5_skew_33 : decode cX5_skew 33 = .ok (.ireturn, 1) := by decide +kernel
theorem dX5_type_0 : decode cX5_type 0 = .ok (.iload_n 1, 1) := by decide +kernel
theorem dX5_type_1 : decode cX5_type 1 = .ok (.iconst 0, 1) := by decide +kernel
theorem dX5_type_2 : decode cX5_type 2 = .ok (.bipush 127, 2) := by decide +kernel
theorem dX5_type_4 : decode cX5_type 4 = .ok (.invokestatic 159, 3) := by decide +kernel
theorem dX5_type_7 : decode cX5_type 7 = .ok (.ifCond .ne 10, 3) := by decide +kernel
theorem dX5_type_10 : decode cX5_type 10 = .ok (.aload_n 0, 1) := by decide +kernel
theorem dX5_type_11 : decode cX5_type 11 = .ok (.bipush (-2), 2) := by decide +kernel
theorem dX5_type_13 : decode cX5_type 13 = .ok (.invokevirtual 99, 3) := by decide +kernel
theorem dX5_type_16 : decode cX5_type 16 = .ok (.ireturn, 1) := by decide +kernel
theorem dX5_type_17 : decode cX5_type 17 = .ok (.aload_n 0, 1) := by decide +kernel
theorem dX5_type_18 : decode cX5_type 18 = .ok (.getfield 29, 3) := by decide +kernel
theorem dX5_type_21 : decode cX5_type 21 = .ok (.iload_n 1, 1) := by decide +kernel
theorem dX5_type_22 : decode cX5_type 22 = .ok (.invokevirtual 205, 3) := by decide +kernel
theorem dX5_type_25 : decode cX5_type 25 = .ok (.ifCond .eq 13, 3) := by decide +kernel
theorem dX5_type_28 : decode cX5_type 28 = .ok (.aload_n 0, 1) := by decide +kernel
theorem dX5_type_29 : decode cX5_type 29 = .ok (.getfield 29, 3) := by decide +kernel
theorem dX5_type_32 : decode cX5_type 32 = .ok (.invokevirtual 208, 3) := by decide +kernel
theorem dX5_type_35 : decode cX5_type 35 = .ok (.goto 9, 3) := by decide +kernel
theorem dX5_type_38 : decode cX5_type 38 = .ok (.aload_n 0, 1) := by decide +kernel
theorem dX5_type_39 : decode cX5_type 39 = .ok (.bipush (-4), 2) := by decide +kernel
theorem dX5_type_41 : decode cX5_type 41 = .ok (.invokevirtual 99, 3) := by decide +kernel
theorem dX5_type_44 : decode cX5_type 44 = .ok (.ireturn, 1) := by decide +kernel
theorem dX5_clear_0 : decode cX5_clear 0 = .ok (.aload_n 0, 1) := by decide +kernel
theorem dX5_clear_1 : decode cX5_clear 1 = .ok (.getfield 29, 3) := by decide +kernel
theorem dX5_clear_4 : decode cX5_clear 4 = .ok (.invokevirtual 208, 3) := by decide +kernel
theorem dX5_clear_7 : decode cX5_clear 7 = .ok (.istore_n 1, 1) := by decide +kernel
theorem dX5_clear_8 : decode cX5_clear 8 = .ok (.aload_n 0, 1) := by decide +kernel
theorem dX5_clear_9 : decode cX5_clear 9 = .ok (.getfield 29, 3) := by decide +kernel
theorem dX5_clear_12 : decode cX5_clear 12 = .ok (.invokevirtual 211, 3) := by decide +kernel
theorem dX5_clear_15 : decode cX5_clear 15 = .ok (.iload_n 1, 1) := by decide +kernel
theorem dX5_clear_16 : decode cX5_clear 16 = .ok (.ireturn, 1) := by decide +kernel
theorem dX5_does_0 : decode cX5_does 0 = .ok (.aload_n 0, 1) := by decide +kernel
theorem dX5_does_1 : decode cX5_does 1 = .ok (.getfield 29, 3) := by decide +kernel
theorem dX5_does_4 : decode cX5_does 4 = .ok (.invokevirtual 214, 3) := by decide +kernel
theorem dX5_does_7 : decode cX5_does 7 = .ok (.istore_n 1, 1) := by decide +kernel
theorem dX5_does_8 : decode cX5_does 8 = .ok (.iload_n 1, 1) := by decide +kernel
theorem dX5_does_9 : decode cX5_does 9 = .ok (.iconst (-1), 1) := by decide +kernel
theorem dX5_does_10 : decode cX5_does 10 = .ok (.if_icmp .eq 8, 3) := by decide +kernel
theorem dX5_does_13 : decode cX5_does 13 = .ok (.bipush (-10), 2) := by decide +kernel
theorem dX5_does_15 : decode cX5_does 15 = .ok (.iload_n 1, 1) := by decide +kernel
theorem dX5_does_16 : decode cX5_does 16 = .ok (.isub, 1) := by decide +kernel
theorem dX5_does_17 : decode cX5_does 17 = .ok (.ireturn, 1) := by decide +kernel
theorem dX5_does_18 : decode cX5_does 18 = .ok (.aload_n 0, 1) := by decide +kernel
theorem dX5_does_19 : decode cX5_does 19 = .ok (.getfield 29, 3) := by decide +kernel
theorem dX5_does_22 : decode cX5_does 22 = .ok (.aload_n 0, 1) := by decide +kernel
theorem dX5_does_23 : decode cX5_does 23 = .ok (.invokevirtual 64, 3) := by decide +kernel
theorem dX5_does_26 : decode cX5_does 26 = .ok (.invokevirtual 217, 3) := by decide +kernel
theorem dX5_does_29 : decode cX5_does 29 = .ok (.istore_n 2, 1) := by decide +kernel
theorem dX5_does_30 : decode cX5_does 30 = .ok (.iload_n 2, 1) := by decide +kernel
theorem dX5_does_31 : decode cX5_does 31 = .ok (.iconst (-1), 1) := by decide +kernel
theorem dX5_does_32 : decode cX5_does 32 = .ok (.if_icmp .eq 9, 3) := by decide +kernel
theorem dX5_does_35 : decode cX5_does 35 = .ok (.sipush (-1000), 3) := by decide +kernel
theorem dX5_does_38 : decode cX5_does 38 = .ok (.iload_n 2, 1) := by decide +kernel
theorem dX5_does_39 : decode cX5_does 39 = .ok (.isub, 1) := by decide +kernel
theorem dX5_does_40 : decode cX5_does 40 = .ok (.ireturn, 1) := by decide +kernel
theorem dX5_does_41 : decode cX5_does 41 = .ok (.aload_n 0, 1) := by decide +kernel
theorem dX5_does_42 : decode cX5_does 42 = .ok (.invokevirtual 221, 3) := by decide +kernel
theorem dX5_does_45 : decode cX5_does 45 = .ok (.aload_n 0, 1) := by decide +kernel
theorem dX5_does_46 : decode cX5_does 46 = .ok (.getfield 29, 3) := by decide +kernel
theorem dX5_does_49 : decode cX5_does 49 = .ok (.invokevirtual 224, 3) := by decide +kernel
theorem dX5_does_52 : decode cX5_does 52 = .ok (.ireturn, 1) := by decide +kernel
theorem dX5_back_0 : decode cX5_back 0 = .ok (.aload_n 0, 1) := by decide +kernel
theorem dX5_back_1 : decode cX5_back 1 = .ok (.getfield 22, 3) := by decide +kernel
theorem dX5_back_4 : decode cX5_back 4 = .ok (.aload_n 0, 1) := by decide +kernel
theorem dX5_back_5 : decode cX5_back 5 = .ok (.getfield 10, 3) := by decide +kernel
theorem dX5_back_8 : decode cX5_back 8 = .ok (.invokevirtual 227, 3) := by decide +kernel
theorem dX5_back_11 : decode cX5_back 11 = .ok (.ifCond .ne 10, 3) := by decide +kernel
theorem dX5_back_14 : decode cX5_back 14 = .ok (.aload_n 0, 1) := by decide +kernel
theorem dX5_back_15 : decode cX5_back 15 = .ok (.bipush (-3), 2) := by decide +kernel
theorem dX5_back_17 : decode cX5_back 17 = .ok (.invokevirtual 99, 3) := by decide +kernel
theorem dX5_back_20 : decode cX5_back 20 = .ok (.ireturn, 1) := by decide +kernel
theorem dX5_back_21 : decode cX5_back 21 = .ok (.aload_n 0, 1) := by decide +kernel
theorem dX5_back_22 : decode cX5_back 22 = .ok (.iconst 0, 1) := by decide +kernel
theorem dX5_back_23 : decode cX5_back 23 = .ok (.putfield 50, 3) := by decide +kernel
theorem dX5_back_26 : decode cX5_back 26 = .ok (.aload_n 0, 1) := by decide +kernel
theorem dX5_back_27 : decode cX5_back 27 = .ok (.getfield 22, 3) := by decide +kernel
theorem dX5_back_30 : decode cX5_back 30 = .ok (.invokevirtual 231, 3) := by decide +kernel
theorem dX5_back_33 : decode cX5_back 33 = .ok (.ireturn, 1) := by decide +kernel
theorem dX5_told_0 : decode cX5_told 0 = .ok (.iload_n 1, 1) := by decide +kernel
theorem dX5_told_1 : decode cX5_told 1 = .ok (.tableswitch 66 0 4 #[35, 40, 45, 50, 58], 35) := by decide +kernel
theorem dX5_told_36 : decode cX5_told 36 = .ok (.aload_n 0, 1) := by decide +kernel
theorem dX5_told_37 : decode cX5_told 37 = .ok (.getfield 54, 3) := by decide +kernel
theorem dX5_told_40 : decode cX5_told 40 = .ok (.ireturn, 1) := by decide +kernel
theorem dX5_told_41 : decode cX5_told 41 = .ok (.aload_n 0, 1) := by decide +kernel
theorem dX5_told_42 : decode cX5_told 42 = .ok (.getfield 58, 3) := by decide +kernel
theorem dX5_told_45 : decode cX5_told 45 = .ok (.ireturn, 1) := by decide +kernel
theorem dX5_told_46 : decode cX5_told 46 = .ok (.aload_n 0, 1) := by decide +kernel
theorem dX5_told_47 : decode cX5_told 47 = .ok (.getfield 61, 3) := by decide +kernel
theorem dX5_told_50 : decode cX5_told 50 = .ok (.ireturn, 1) := by decide +kernel
theorem dX5_told_51 : decode cX5_told 51 = .ok (.aload_n 0, 1) := by decide +kernel
theorem dX5_told_52 : decode cX5_told 52 = .ok (.getfield 29, 3) := by decide +kernel
theorem dX5_told_55 : decode cX5_told 55 = .ok (.invokevirtual 208, 3) := by decide +kernel
theorem dX5_told_58 : decode cX5_told 58 = .ok (.ireturn, 1) := by decide +kernel
theorem dX5_told_59 : decode cX5_told 59 = .ok (.aload_n 0, 1) := by decide +kernel
theorem dX5_told_60 : decode cX5_told 60 = .ok (.getfield 22, 3) := by decide +kernel
theorem dX5_told_63 : decode cX5_told 63 = .ok (.invokevirtual 231, 3) := by decide +kernel
theorem dX5_told_66 : decode cX5_told 66 = .ok (.ireturn, 1) := by decide +kernel
theorem dX5_told_67 : decode cX5_told 67 = .ok (.aload_n 0, 1) := by decide +kernel
theorem dX5_told_68 : decode cX5_told 68 = .ok (.bipush (-2), 2) := by decide +kernel
theorem dX5_told_70 : decode cX5_told 70 = .ok (.invokevirtual 99, 3) := by decide +kernel
theorem dX5_told_73 : decode cX5_told 73 = .ok (.ireturn, 1) := by decide +kernel
theorem dX5_digest_0 : decode cX5_digest 0 = .ok (.ldc2_w 232, 3) := by decide +kernel
theorem dX5_digest_3 : decode cX5_digest 3 = .ok (.lstore_n 1, 1) := by decide +kernel
theorem dX5_digest_4 : decode cX5_digest 4 = .ok (.iconst 0, 1) := by decide +kernel
theorem dX5_digest_5 : decode cX5_digest 5 = .ok (.istore_n 3, 1) := by decide +kernel
theorem dX5_digest_6 : decode cX5_digest 6 = .ok (.iload_n 3, 1) := by decide +kernel
theorem dX5_digest_7 : decode cX5_digest 7 = .ok (.iconst 5, 1) := by decide +kernel
theorem dX5_digest_8 : decode cX5_digest 8 = .ok (.if_icmp .ge 19, 3) := by decide +kernel
theorem dX5_digest_11 : decode cX5_digest 11 = .ok (.lload_n 1, 1) := by decide +kernel
theorem dX5_digest_12 : decode cX5_digest 12 = .ok (.aload_n 0, 1) := by decide +kernel
theorem dX5_digest_13 : decode cX5_digest 13 = .ok (.iload_n 3, 1) := by decide +kernel
theorem dX5_digest_14 : decode cX5_digest 14 = .ok (.invokevirtual 234, 3) := by decide +kernel
theorem dX5_digest_17 : decode cX5_digest 17 = .ok (.invokestatic 237, 3) := by decide +kernel
theorem dX5_digest_20 : decode cX5_digest 20 = .ok (.lstore_n 1, 1) := by decide +kernel
theorem dX5_digest_21 : decode cX5_digest 21 = .ok (.iinc 3 1, 3) := by decide +kernel
theorem dX5_digest_24 : decode cX5_digest 24 = .ok (.goto (-18), 3) := by decide +kernel
theorem dX5_digest_27 : decode cX5_digest 27 = .ok (.iconst 0, 1) := by decide +kernel
theorem dX5_digest_28 : decode cX5_digest 28 = .ok (.istore_n 3, 1) := by decide +kernel
theorem dX5_digest_29 : decode cX5_digest 29 = .ok (.iload_n 3, 1) := by decide +kernel
theorem dX5_digest_30 : decode cX5_digest 30 = .ok (.bipush 7, 2) := by decide +kernel
theorem dX5_digest_32 : decode cX5_digest 32 = .ok (.if_icmp .ge 19, 3) := by decide +kernel
theorem dX5_digest_35 : decode cX5_digest 35 = .ok (.lload_n 1, 1) := by decide +kernel
theorem dX5_digest_36 : decode cX5_digest 36 = .ok (.aload_n 0, 1) := by decide +kernel
theorem dX5_digest_37 : decode cX5_digest 37 = .ok (.iload_n 3, 1) := by decide +kernel
theorem dX5_digest_38 : decode cX5_digest 38 = .ok (.invokevirtual 241, 3) := by decide +kernel
theorem dX5_digest_41 : decode cX5_digest 41 = .ok (.invokestatic 237, 3) := by decide +kernel
theorem dX5_digest_44 : decode cX5_digest 44 = .ok (.lstore_n 1, 1) := by decide +kernel
theorem dX5_digest_45 : decode cX5_digest 45 = .ok (.iinc 3 1, 3) := by decide +kernel
theorem dX5_digest_48 : decode cX5_digest 48 = .ok (.goto (-19), 3) := by decide +kernel
theorem dX5_digest_51 : decode cX5_digest 51 = .ok (.iconst 0, 1) := by decide +kernel
theorem dX5_digest_52 : decode cX5_digest 52 = .ok (.istore_n 3, 1) := by decide +kernel
theorem dX5_digest_53 : decode cX5_digest 53 = .ok (.iload_n 3, 1) := by decide +kernel
theorem dX5_digest_54 : decode cX5_digest 54 = .ok (.bipush 7, 2) := by decide +kernel
theorem dX5_digest_56 : decode cX5_digest 56 = .ok (.if_icmp .ge 22, 3) := by decide +kernel
theorem dX5_digest_59 : decode cX5_digest 59 = .ok (.lload_n 1, 1) := by decide +kernel
theorem dX5_digest_60 : decode cX5_digest 60 = .ok (.aload_n 0, 1) := by decide +kernel
theorem dX5_digest_61 : decode cX5_digest 61 = .ok (.getfield 10, 3) := by decide +kernel
theorem dX5_digest_64 : decode cX5_digest 64 = .ok (.iload_n 3, 1) := by decide +kernel
theorem dX5_digest_65 : decode cX5_digest 65 = .ok (.invokevirtual 108, 3) := by decide +kernel
theorem dX5_digest_68 : decode cX5_digest 68 = .ok (.invokestatic 237, 3) := by decide +kernel
theorem dX5_digest_71 : decode cX5_digest 71 = .ok (.lstore_n 1, 1) := by decide +kernel
theorem dX5_digest_72 : decode cX5_digest 72 = .ok (.iinc 3 1, 3) := by decide +kernel
theorem dX5_digest_75 : decode cX5_digest 75 = .ok (.goto (-22), 3) := by decide +kernel
theorem dX5_digest_78 : decode cX5_digest 78 = .ok (.iconst 0, 1) := by decide +kernel
theorem dX5_digest_79 : decode cX5_digest 79 = .ok (.istore_n 3, 1) := by decide +kernel
theorem dX5_digest_80 : decode cX5_digest 80 = .ok (.iload_n 3, 1) := by decide +kernel
theorem dX5_digest_81 : decode cX5_digest 81 = .ok (.aload_n 0, 1) := by decide +kernel
theorem dX5_digest_82 : decode cX5_digest 82 = .ok (.getfield 10, 3) := by decide +kernel
theorem dX5_digest_85 : decode cX5_digest 85 = .ok (.invokevirtual 163, 3) := by decide +kernel
theorem dX5_digest_88 : decode cX5_digest 88 = .ok (.if_icmp .ge 16, 3) := by decide +kernel
theorem dX5_digest_91 : decode cX5_digest 91 = .ok (.aload_n 0, 1) := by decide +kernel
theorem dX5_digest_92 : decode cX5_digest 92 = .ok (.lload_n 1, 1) := by decide +kernel
theorem dX5_digest_93 : decode cX5_digest 93 = .ok (.iload_n 3, 1) := by decide +kernel
theorem dX5_digest_94 : decode cX5_digest 94 = .ok (.invokevirtual 244, 3) := by decide +kernel
theorem dX5_digest_97 : decode cX5_digest 97 = .ok (.lstore_n 1, 1) := by decide +kernel
theorem dX5_digest_98 : decode cX5_digest 98 = .ok (.iinc 3 1, 3) := by decide +kernel
theorem dX5_digest_101 : decode cX5_digest 101 = .ok (.goto (-21), 3) := by decide +kernel
theorem dX5_digest_104 : decode cX5_digest 104 = .ok (.iconst 0, 1) := by decide +kernel
theorem dX5_digest_105 : decode cX5_digest 105 = .ok (.istore_n 3, 1) := by decide +kernel
theorem dX5_digest_106 : decode cX5_digest 106 = .ok (.iload_n 3, 1) := by decide +kernel
theorem dX5_digest_107 : decode cX5_digest 107 = .ok (.aload_n 0, 1) := by decide +kernel
theorem dX5_digest_108 : decode cX5_digest 108 = .ok (.getfield 10, 3) := by decide +kernel
theorem dX5_digest_111 : decode cX5_digest 111 = .ok (.invokevirtual 167, 3) := by decide +kernel
theorem dX5_digest_114 : decode cX5_digest 114 = .ok (.if_icmp .ge 36, 3) := by decide +kernel
theorem dX5_digest_117 : decode cX5_digest 117 = .ok (.iconst 0, 1) := by decide +kernel
theorem dX5_digest_118 : decode cX5_digest 118 = .ok (.istore 4, 2) := by decide +kernel
theorem dX5_digest_120 : decode cX5_digest 120 = .ok (.iload 4, 2) := by decide +kernel
theorem dX5_digest_122 : decode cX5_digest 122 = .ok (.iconst 4, 1) := by decide +kernel
theorem dX5_digest_123 : decode cX5_digest 123 = .ok (.if_icmp .ge 21, 3) := by decide +kernel
theorem dX5_digest_126 : decode cX5_digest 126 = .ok (.lload_n 1, 1) := by decide +kernel
theorem dX5_digest_127 : decode cX5_digest 127 = .ok (.aload_n 0, 1) := by decide +kernel
theorem dX5_digest_128 : decode cX5_digest 128 = .ok (.iload_n 3, 1) := by decide +kernel
theorem dX5_digest_129 : decode cX5_digest 129 = .ok (.iload 4, 2) := by decide +kernel
theorem dX5_digest_131 : decode cX5_digest 131 = .ok (.invokevirtual 247, 3) := by decide +kernel
theorem dX5_digest_134 : decode cX5_digest 134 = .ok (.invokestatic 237, 3) := by decide +kernel
theorem dX5_digest_137 : decode cX5_digest 137 = .ok (.lstore_n 1, 1) := by decide +kernel
theorem dX5_digest_138 : decode cX5_digest 138 = .ok (.iinc 4 1, 3) := by decide +kernel
theorem dX5_digest_141 : decode cX5_digest 141 = .ok (.goto (-21), 3) := by decide +kernel
theorem dX5_digest_144 : decode cX5_digest 144 = .ok (.iinc 3 1, 3) := by decide +kernel
theorem dX5_digest_147 : decode cX5_digest 147 = .ok (.goto (-41), 3) := by decide +kernel
theorem dX5_digest_150 : decode cX5_digest 150 = .ok (.lload_n 1, 1) := by decide +kernel
theorem dX5_digest_151 : decode cX5_digest 151 = .ok (.aload_n 0, 1) := by decide +kernel
theorem dX5_digest_152 : decode cX5_digest 152 = .ok (.invokevirtual 250, 3) := by decide +kernel
theorem dX5_digest_155 : decode cX5_digest 155 = .ok (.invokestatic 237, 3) := by decide +kernel
theorem dX5_digest_158 : decode cX5_digest 158 = .ok (.aload_n 0, 1) := by decide +kernel
theorem dX5_digest_159 : decode cX5_digest 159 = .ok (.invokevirtual 253, 3) := by decide +kernel
theorem dX5_digest_162 : decode cX5_digest 162 = .ok (.invokestatic 237, 3) := by decide +kernel
theorem dX5_digest_165 : decode cX5_digest 165 = .ok (.aload_n 0, 1) := by decide +kernel
theorem dX5_digest_166 : decode cX5_digest 166 = .ok (.invokevirtual 256, 3) := by decide +kernel
theorem dX5_digest_169 : decode cX5_digest 169 = .ok (.invokestatic 237, 3) := by decide +kernel
theorem dX5_digest_172 : decode cX5_digest 172 = .ok (.lstore_n 1, 1) := by decide +kernel
theorem dX5_digest_173 : decode cX5_digest 173 = .ok (.aload_n 0, 1) := by decide +kernel
theorem dX5_digest_174 : decode cX5_digest 174 = .ok (.invokevirtual 148, 3) := by decide +kernel
theorem dX5_digest_177 : decode cX5_digest 177 = .ok (.invokevirtual 152, 3) := by decide +kernel
theorem dX5_digest_180 : decode cX5_digest 180 = .ok (.ifCond .eq 11, 3) := by decide +kernel
theorem dX5_digest_183 : decode cX5_digest 183 = .ok (.aload_n 0, 1) := by decide +kernel
theorem dX5_digest_184 : decode cX5_digest 184 = .ok (.lload_n 1, 1) := by decide +kernel
theorem dX5_digest_185 : decode cX5_digest 185 = .ok (.invokevirtual 259, 3) := by decide +kernel
theorem dX5_digest_188 : decode cX5_digest 188 = .ok (.goto 4, 3) := by decide +kernel
theorem dX5_digest_191 : decode cX5_digest 191 = .ok (.lload_n 1, 1) := by decide +kernel
theorem dX5_digest_192 : decode cX5_digest 192 = .ok (.lreturn, 1) := by decide +kernel
theorem dX5_mixed_0 : decode cX5_mixed 0 = .ok (.ldc2_w 263, 3) := by decide +kernel
theorem dX5_mixed_3 : decode cX5_mixed 3 = .ok (.lload_n 0, 1) := by decide +kernel
theorem dX5_mixed_4 : decode cX5_mixed 4 = .ok (.lmul, 1) := by decide +kernel
theorem dX5_mixed_5 : decode cX5_mixed 5 = .ok (.iload_n 2, 1) := by decide +kernel
theorem dX5_mixed_6 : decode cX5_mixed 6 = .ok (.i2l, 1) := by decide +kernel
theorem dX5_mixed_7 : decode cX5_mixed 7 = .ok (.ladd, 1) := by decide +kernel
theorem dX5_mixed_8 : decode cX5_mixed 8 = .ok (.lreturn, 1) := by decide +kernel
theorem dX5_mixedLine_0 : decode cX5_mixedLine 0 = .ok (.lload_n 1, 1) := by decide +kernel
theorem dX5_mixedLine_1 : decode cX5_mixedLine 1 = .ok (.lstore 4, 2) := by decide +kernel
theorem dX5_mixedLine_3 : decode cX5_mixedLine 3 = .ok (.iconst 0, 1) := by decide +kernel
theorem dX5_mixedLine_4 : decode cX5_mixedLine 4 = .ok (.istore 6, 2) := by decide +kernel
theorem dX5_mixedLine_6 : decode cX5_mixedLine 6 = .ok (.iload 6, 2) := by decide +kernel
theorem dX5_mixedLine_8 : decode cX5_mixedLine 8 = .ok (.bipush 7, 2) := by decide +kernel
theorem dX5_mixedLine_10 : decode cX5_mixedLine 10 = .ok (.if_icmp .ge 23, 3) := by decide +kernel
theorem dX5_mixedLine_13 : decode cX5_mixedLine 13 = .ok (.lload 4, 2) := by decide +kernel
theorem dX5_mixedLine_15 : decode cX5_mixedLine 15 = .ok (.aload_n 0, 1) := by decide +kernel
theorem dX5_mixedLine_16 : decode cX5_mixedLine 16 = .ok (.iload_n 3, 1) := by decide +kernel
theorem dX5_mixedLine_17 : decode cX5_mixedLine 17 = .ok (.iload 6, 2) := by decide +kernel
theorem dX5_mixedLine_19 : decode cX5_mixedLine 19 = .ok (.invokevirtual 265, 3) := by decide +kernel
theorem dX5_mixedLine_22 : decode cX5_mixedLine 22 = .ok (.invokestatic 237, 3) := by decide +kernel
theorem dX5_mixedLine_25 : decode cX5_mixedLine 25 = .ok (.lstore 4, 2) := by decide +kernel
theorem dX5_mixedLine_27 : decode cX5_mixedLine 27 = .ok (.iinc 6 1, 3) := by decide +kernel
theorem dX5_mixedLine_30 : decode cX5_mixedLine 30 = .ok (.goto (-24), 3) := by decide +kernel
theorem dX5_mixedLine_33 : decode cX5_mixedLine 33 = .ok (.iconst 0, 1) := by decide +kernel
theorem dX5_mixedLine_34 : decode cX5_mixedLine 34 = .ok (.istore 6, 2) := by decide +kernel
theorem dX5_mixedLine_36 : decode cX5_mixedLine 36 = .ok (.iload 6, 2) := by decide +kernel
theorem dX5_mixedLine_38 : decode cX5_mixedLine 38 = .ok (.aload_n 0, 1) := by decide +kernel
theorem dX5_mixedLine_39 : decode cX5_mixedLine 39 = .ok (.getfield 10, 3) := by decide +kernel
theorem dX5_mixedLine_42 : decode cX5_mixedLine 42 = .ok (.iload_n 3, 1) := by decide +kernel
theorem dX5_mixedLine_43 : decode cX5_mixedLine 43 = .ok (.invokevirtual 102, 3) := by decide +kernel
theorem dX5_mixedLine_46 : decode cX5_mixedLine 46 = .ok (.if_icmp .ge 40, 3) := by decide +kernel
theorem dX5_mixedLine_49 : decode cX5_mixedLine 49 = .ok (.iconst 0, 1) := by decide +kernel
theorem dX5_mixedLine_50 : decode cX5_mixedLine 50 = .ok (.istore 7, 2) := by decide +kernel
theorem dX5_mixedLine_52 : decode cX5_mixedLine 52 = .ok (.iload 7, 2) := by decide +kernel
theorem dX5_mixedLine_54 : decode cX5_mixedLine 54 = .ok (.iconst 3, 1) := by decide +kernel
theorem dX5_mixedLine_55 : decode cX5_mixedLine 55 = .ok (.if_icmp .ge 25, 3) := by decide +kernel
theorem dX5_mixedLine_58 : decode cX5_mixedLine 58 = .ok (.lload 4, 2) := by decide +kernel
theorem dX5_mixedLine_60 : decode cX5_mixedLine 60 = .ok (.aload_n 0, 1) := by decide +kernel
theorem dX5_mixedLine_61 : decode cX5_mixedLine 61 = .ok (.iload_n 3, 1) := by decide +kernel
theorem dX5_mixedLine_62 : decode cX5_mixedLine 62 = .ok (.iload 6, 2) := by decide +kernel
theorem dX5_mixedLine_64 : decode cX5_mixedLine 64 = .ok (.iload 7, 2) := by decide +kernel
theorem dX5_mixedLine_66 : decode cX5_mixedLine 66 = .ok (.invokevirtual 268, 3) := by decide +kernel
theorem dX5_mixedLine_69 : decode cX5_mixedLine 69 = .ok (.invokestatic 237, 3) := by decide +kernel
theorem dX5_mixedLine_72 : decode cX5_mixedLine 72 = .ok (.lstore 4, 2) := by decide +kernel
theorem dX5_mixedLine_74 : decode cX5_mixedLine 74 = .ok (.iinc 7 1, 3) := by decide +kernel
theorem dX5_mixedLine_77 : decode cX5_mixedLine 77 = .ok (.goto (-25), 3) := by decide +kernel
theorem dX5_mixedLine_80 : decode cX5_mixedLine 80 = .ok (.iinc 6 1, 3) := by decide +kernel
theorem dX5_mixedLine_83 : decode cX5_mixedLine 83 = .ok (.goto (-47), 3) := by decide +kernel
theorem dX5_mixedLine_86 : decode cX5_mixedLine 86 = .ok (.lload 4, 2) := by decide +kernel
theorem dX5_mixedLine_88 : decode cX5_mixedLine 88 = .ok (.aload_n 0, 1) := by decide +kernel
theorem dX5_mixedLine_89 : decode cX5_mixedLine 89 = .ok (.iload_n 3, 1) := by decide +kernel
theorem dX5_mixedLine_90 : decode cX5_mixedLine 90 = .ok (.invokevirtual 271, 3) := by decide +kernel
theorem dX5_mixedLine_93 : decode cX5_mixedLine 93 = .ok (.invokestatic 237, 3) := by decide +kernel
theorem dX5_mixedLine_96 : decode cX5_mixedLine 96 = .ok (.lreturn, 1) := by decide +kernel
theorem dX5_mixedHumps_0 : decode cX5_mixedHumps 0 = .ok (.lload_n 1, 1) := by decide +kernel
theorem dX5_mixedHumps_1 : decode cX5_mixedHumps 1 = .ok (.lstore_n 3, 1) := by decide +kernel
theorem dX5_mixedHumps_2 : decode cX5_mixedHumps 2 = .ok (.iconst 0, 1) := by decide +kernel
theorem dX5_mixedHumps_3 : decode cX5_mixedHumps 3 = .ok (.istore 5, 2) := by decide +kernel
theorem dX5_mixedHumps_5 : decode cX5_mixedHumps 5 = .ok (.iload 5, 2) := by decide +kernel
theorem dX5_mixedHumps_7 : decode cX5_mixedHumps 7 = .ok (.aload_n 0, 1) := by decide +kernel
theorem dX5_mixedHumps_8 : decode cX5_mixedHumps 8 = .ok (.getfield 10, 3) := by decide +kernel
theorem dX5_mixedHumps_11 : decode cX5_mixedHumps 11 = .ok (.invokevirtual 163, 3) := by decide +kernel
theorem dX5_mixedHumps_14 : decode cX5_mixedHumps 14 = .ok (.if_icmp .ge 46, 3) := by decide +kernel
theorem dX5_mixedHumps_17 : decode cX5_mixedHumps 17 = .ok (.iconst 0, 1) := by decide +kernel
theorem dX5_mixedHumps_18 : decode cX5_mixedHumps 18 = .ok (.istore 6, 2) := by decide +kernel
theorem dX5_mixedHumps_20 : decode cX5_mixedHumps 20 = .ok (.iload 6, 2) := by decide +kernel
theorem dX5_mixedHumps_22 : decode cX5_mixedHumps 22 = .ok (.aload_n 0, 1) := by decide +kernel
theorem dX5_mixedHumps_23 : decode cX5_mixedHumps 23 = .ok (.getfield 10, 3) := by decide +kernel
theorem dX5_mixedHumps_26 : decode cX5_mixedHumps 26 = .ok (.invokevirtual 167, 3) := by decide +kernel
theorem dX5_mixedHumps_29 : decode cX5_mixedHumps 29 = .ok (.if_icmp .ge 25, 3) := by decide +kernel
theorem dX5_mixedHumps_32 : decode cX5_mixedHumps 32 = .ok (.lload_n 3, 1) := by decide +kernel
theorem dX5_mixedHumps_33 : decode cX5_mixedHumps 33 = .ok (.aload_n 0, 1) := by decide +kernel
theorem dX5_mixedHumps_34 : decode cX5_mixedHumps 34 = .ok (.invokevirtual 148, 3) := by decide +kernel
theorem dX5_mixedHumps_37 : decode cX5_mixedHumps 37 = .ok (.iload 5, 2) := by decide +kernel
theorem dX5_mixedHumps_39 : decode cX5_mixedHumps 39 = .ok (.iload 6, 2) := by decide +kernel
theorem dX5_mixedHumps_41 : decode cX5_mixedHumps 41 = .ok (.invokevirtual 182, 3) := by decide +kernel
theorem dX5_mixedHumps_44 : decode cX5_mixedHumps 44 = .ok (.invokestatic 237, 3) := by decide +kernel
theorem dX5_mixedHumps_47 : decode cX5_mixedHumps 47 = .ok (.lstore_n 3, 1) := by decide +kernel
theorem dX5_mixedHumps_48 : decode cX5_mixedHumps 48 = .ok (.iinc 6 1, 3) := by decide +kernel
theorem dX5_mixedHumps_51 : decode cX5_mixedHumps 51 = .ok (.goto (-31), 3) := by decide +kernel
theorem dX5_mixedHumps_54 : decode cX5_mixedHumps 54 = .ok (.iinc 5 1, 3) := by decide +kernel
theorem dX5_mixedHumps_57 : decode cX5_mixedHumps 57 = .ok (.goto (-52), 3) := by decide +kernel
theorem dX5_mixedHumps_60 : decode cX5_mixedHumps 60 = .ok (.lload_n 3, 1) := by decide +kernel
theorem dX5_mixedHumps_61 : decode cX5_mixedHumps 61 = .ok (.lreturn, 1) := by decide +kernel
theorem dX5_draft_0 : decode cX5_draft 0 = .ok (.aload_n 0, 1) := by decide +kernel
theorem dX5_draft_1 : decode cX5_draft 1 = .ok (.getfield 16, 3) := by decide +kernel
theorem dX5_draft_4 : decode cX5_draft 4 = .ok (.aload_n 0, 1) := by decide +kernel
theorem dX5_draft_5 : decode cX5_draft 5 = .ok (.getfield 10, 3) := by decide +kernel
theorem dX5_draft_8 : decode cX5_draft 8 = .ok (.invokevirtual 274, 3) := by decide +kernel
theorem dX5_draft_11 : decode cX5_draft 11 = .ok (.aload_n 0, 1) := by decide +kernel
theorem dX5_draft_12 : decode cX5_draft 12 = .ok (.getfield 16, 3) := by decide +kernel
theorem dX5_draft_15 : decode cX5_draft 15 = .ok (.areturn, 1) := by decide +kernel
theorem dX5_settled_0 : decode cX5_settled 0 = .ok (.iload_n 1, 1) := by decide +kernel
theorem dX5_settled_1 : decode cX5_settled 1 = .ok (.ifCond .ge 9, 3) := by decide +kernel
theorem dX5_settled_4 : decode cX5_settled 4 = .ok (.aload_n 0, 1) := by decide +kernel
theorem dX5_settled_5 : decode cX5_settled 5 = .ok (.iload_n 1, 1) := by decide +kernel
theorem dX5_settled_6 : decode cX5_settled 6 = .ok (.invokevirtual 99, 3) := by decide +kernel
theorem dX5_settled_9 : decode cX5_settled 9 = .ok (.ireturn, 1) := by decide +kernel
theorem dX5_settled_10 : decode cX5_settled 10 = .ok (.aload_n 0, 1) := by decide +kernel
theorem dX5_settled_11 : decode cX5_settled 11 = .ok (.invokevirtual 221, 3) := by decide +kernel
theorem dX5_settled_14 : decode cX5_settled 14 = .ok (.iload_n 1, 1) := by decide +kernel
theorem dX5_settled_15 : decode cX5_settled 15 = .ok (.ireturn, 1) := by decide +kernel
theorem dX5_accept_0 : decode cX5_accept 0 = .ok (.aload_n 0, 1) := by decide +kernel
theorem dX5_accept_1 : decode cX5_accept 1 = .ok (.getfield 22, 3) := by decide +kernel
theorem dX5_accept_4 : decode cX5_accept 4 = .ok (.aload_n 0, 1) := by decide +kernel
theorem dX5_accept_5 : decode cX5_accept 5 = .ok (.getfield 10, 3) := by decide +kernel
theorem dX5_accept_8 : decode cX5_accept 8 = .ok (.invokevirtual 278, 3) := by decide +kernel
theorem dX5_accept_11 : decode cX5_accept 11 = .ok (.aload_n 0, 1) := by decide +kernel
theorem dX5_accept_12 : decode cX5_accept 12 = .ok (.getfield 10, 3) := by decide +kernel
theorem dX5_accept_15 : decode cX5_accept 15 = .ok (.aload_n 0, 1) := by decide +kernel
theorem dX5_accept_16 : decode cX5_accept 16 = .ok (.getfield 16, 3) := by decide +kernel
theorem dX5_accept_19 : decode cX5_accept 19 = .ok (.invokevirtual 274, 3) := by decide +kernel
theorem dX5_accept_22 : decode cX5_accept 22 = .ok (.aload_n 0, 1) := by decide +kernel
theorem dX5_accept_23 : decode cX5_accept 23 = .ok (.iconst 0, 1) := by decide +kernel
theorem dX5_accept_24 : decode cX5_accept 24 = .ok (.putfield 50, 3) := by decide +kernel
theorem dX5_accept_27 : decode cX5_accept 27 = .ok (.return_, 1) := by decide +kernel
theorem dX5_refused_0 : decode cX5_refused 0 = .ok (.iload_n 1, 1) := by decide +kernel
theorem dX5_refused_1 : decode cX5_refused 1 = .ok (.bipush (-2), 2) := by decide +kernel
theorem dX5_refused_3 : decode cX5_refused 3 = .ok (.if_icmp .ne 16, 3) := by decide +kernel
theorem dX5_refused_6 : decode cX5_refused 6 = .ok (.aload_n 0, 1) := by decide +kernel
theorem dX5_refused_7 : decode cX5_refused 7 = .ok (.dup, 1) := by decide +kernel
theorem dX5_refused_8 : decode cX5_refused 8 = .ok (.getfield 54, 3) := by decide +kernel
theorem dX5_refused_11 : decode cX5_refused 11 = .ok (.iconst 1, 1) := by decide +kernel
theorem dX5_refused_12 : decode cX5_refused 12 = .ok (.iadd, 1) := by decide +kernel
theorem dX5_refused_13 : decode cX5_refused 13 = .ok (.putfield 54, 3) := by decide +kernel
theorem dX5_refused_16 : decode cX5_refused 16 = .ok (.goto 38, 3) := by decide +kernel
theorem dX5_refused_19 : decode cX5_refused 19 = .ok (.iload_n 1, 1) := by decide +kernel
theorem dX5_refused_20 : decode cX5_refused 20 = .ok (.bipush (-3), 2) := by decide +kernel
theorem dX5_refused_22 : decode cX5_refused 22 = .ok (.if_icmp .ne 16, 3) := by decide +kernel
theorem dX5_refused_25 : decode cX5_refused 25 = .ok (.aload_n 0, 1) := by decide +kernel
theorem dX5_refused_26 : decode cX5_refused 26 = .ok (.dup, 1) := by decide +kernel
theorem dX5_refused_27 : decode cX5_refused 27 = .ok (.getfield 58, 3) := by decide +kernel
theorem dX5_refused_30 : decode cX5_refused 30 = .ok (.iconst 1, 1) := by decide +kernel
theorem dX5_refused_31 : decode cX5_refused 31 = .ok (.iadd, 1) := by decide +kernel
theorem dX5_refused_32 : decode cX5_refused 32 = .ok (.putfield 58, 3) := by decide +kernel
theorem dX5_refused_35 : decode cX5_refused 35 = .ok (.goto 19, 3) := by decide +kernel
theorem dX5_refused_38 : decode cX5_refused 38 = .ok (.iload_n 1, 1) := by decide +kernel
theorem dX5_refused_39 : decode cX5_refused 39 = .ok (.bipush (-4), 2) := by decide +kernel
theorem dX5_refused_41 : decode cX5_refused 41 = .ok (.if_icmp .ne 13, 3) := by decide +kernel
theorem dX5_refused_44 : decode cX5_refused 44 = .ok (.aload_n 0, 1) := by decide +kernel
theorem dX5_refused_45 : decode cX5_refused 45 = .ok (.dup, 1) := by decide +kernel
theorem dX5_refused_46 : decode cX5_refused 46 = .ok (.getfield 61, 3) := by decide +kernel
theorem dX5_refused_49 : decode cX5_refused 49 = .ok (.iconst 1, 1) := by decide +kernel
theorem dX5_refused_50 : decode cX5_refused 50 = .ok (.iadd, 1) := by decide +kernel
theorem dX5_refused_51 : decode cX5_refused 51 = .ok (.putfield 61, 3) := by decide +kernel
theorem dX5_refused_54 : decode cX5_refused 54 = .ok (.iload_n 1, 1) := by decide +kernel
theorem dX5_refused_55 : decode cX5_refused 55 = .ok (.ireturn, 1) := by decide +kernel
theorem dX5_fitsBy_0 : decode cX5_fitsBy 0 = .ok (.aload_n 0, 1) := by decide +kernel
theorem dX5_fitsBy_1 : decode cX5_fitsBy 1 = .ok (.getfield 40, 3) := by decide +kernel
theorem dX5_fitsBy_4 : decode cX5_fitsBy 4 = .ok (.aload_n 0, 1) := by decide +kernel
theorem dX5_fitsBy_5 : decode cX5_fitsBy 5 = .ok (.getfield 10, 3) := by decide +kernel
theorem dX5_fitsBy_8 : decode cX5_fitsBy 8 = .ok (.iload_n 1, 1) := by decide +kernel
theorem dX5_fitsBy_9 : decode cX5_fitsBy 9 = .ok (.invokevirtual 191, 3) := by decide +kernel
theorem dX5_fitsBy_12 : decode cX5_fitsBy 12 = .ok (.aload_n 0, 1) := by decide +kernel
theorem dX5_fitsBy_13 : decode cX5_fitsBy 13 = .ok (.getfield 40, 3) := by decide +kernel
theorem dX5_fitsBy_16 : decode cX5_fitsBy 16 = .ok (.invokevirtual 281, 3) := by decide +kernel
theorem dX5_fitsBy_19 : decode cX5_fitsBy 19 = .ok (.ireturn, 1) := by decide +kernel
theorem dX5_plan_0 : decode cX5_plan 0 = .ok (.aload_n 0, 1) := by decide +kernel
theorem dX5_plan_1 : decode cX5_plan 1 = .ok (.getfield 50, 3) := by decide +kernel
theorem dX5_plan_4 : decode cX5_plan 4 = .ok (.ifCond .ne 71, 3) := by decide +kernel
theorem dX5_plan_7 : decode cX5_plan 7 = .ok (.aload_n 0, 1) := by decide +kernel
theorem dX5_plan_8 : decode cX5_plan 8 = .ok (.getfield 36, 3) := by decide +kernel
theorem dX5_plan_11 : decode cX5_plan 11 = .ok (.aload_n 0, 1) := by decide +kernel
theorem dX5_plan_12 : decode cX5_plan 12 = .ok (.getfield 10, 3) := by decide +kernel
theorem dX5_plan_15 : decode cX5_plan 15 = .ok (.aload_n 0, 1) := by decide +kernel
theorem dX5_plan_16 : decode cX5_plan 16 = .ok (.getfield 10, 3) := by decide +kernel
theorem dX5_plan_19 : decode cX5_plan 19 = .ok (.iconst 4, 1) := by decide +kernel
theorem dX5_plan_20 : decode cX5_plan 20 = .ok (.invokevirtual 108, 3) := by decide +kernel
theorem dX5_plan_23 : decode cX5_plan 23 = .ok (.invokevirtual 191, 3) := by decide +kernel
theorem dX5_plan_26 : decode cX5_plan 26 = .ok (.aload_n 0, 1) := by decide +kernel
theorem dX5_plan_27 : decode cX5_plan 27 = .ok (.getfield 36, 3) := by decide +kernel
theorem dX5_plan_30 : decode cX5_plan 30 = .ok (.invokevirtual 284, 3) := by decide +kernel
theorem dX5_plan_33 : decode cX5_plan 33 = .ok (.iconst 0, 1) := by decide +kernel
theorem dX5_plan_34 : decode cX5_plan 34 = .ok (.istore_n 1, 1) := by decide +kernel
theorem dX5_plan_35 : decode cX5_plan 35 = .ok (.iload_n 1, 1) := by decide +kernel
theorem dX5_plan_36 : decode cX5_plan 36 = .ok (.aload_n 0, 1) := by decide +kernel
theorem dX5_plan_37 : decode cX5_plan 37 = .ok (.getfield 10, 3) := by decide +kernel
theorem dX5_plan_40 : decode cX5_plan 40 = .ok (.invokevirtual 163, 3) := by decide +kernel
theorem dX5_plan_43 : decode cX5_plan 43 = .ok (.if_icmp .ge 27, 3) := by decide +kernel
theorem dX5_plan_46 : decode cX5_plan 46 = .ok (.aload_n 0, 1) := by decide +kernel
theorem dX5_plan_47 : decode cX5_plan 47 = .ok (.getfield 36, 3) := by decide +kernel
theorem dX5_plan_50 : decode cX5_plan 50 = .ok (.invokevirtual 152, 3) := by decide +kernel
theorem dX5_plan_53 : decode cX5_plan 53 = .ok (.ifCond .eq 17, 3) := by decide +kernel
theorem dX5_plan_56 : decode cX5_plan 56 = .ok (.aload_n 0, 1) := by decide +kernel
theorem dX5_plan_57 : decode cX5_plan 57 = .ok (.getfield 36, 3) := by decide +kernel
theorem dX5_plan_60 : decode cX5_plan 60 = .ok (.iload_n 1, 1) := by decide +kernel
theorem dX5_plan_61 : decode cX5_plan 61 = .ok (.invokevirtual 287, 3) := by decide +kernel
theorem dX5_plan_64 : decode cX5_plan 64 = .ok (.iinc 1 1, 3) := by decide +kernel
theorem dX5_plan_67 : decode cX5_plan 67 = .ok (.goto (-32), 3) := by decide +kernel
theorem dX5_plan_70 : decode cX5_plan 70 = .ok (.aload_n 0, 1) := by decide +kernel
theorem dX5_plan_71 : decode cX5_plan 71 = .ok (.iconst 1, 1) := by decide +kernel
theorem dX5_plan_72 : decode cX5_plan 72 = .ok (.putfield 50, 3) := by decide +kernel
theorem dX5_plan_75 : decode cX5_plan 75 = .ok (.aload_n 0, 1) := by decide +kernel
theorem dX5_plan_76 : decode cX5_plan 76 = .ok (.getfield 36, 3) := by decide +kernel
theorem dX5_plan_79 : decode cX5_plan 79 = .ok (.areturn, 1) := by decide +kernel
theorem dX5_within_0 : decode cX5_within 0 = .ok (.iload_n 0, 1) := by decide +kernel
theorem dX5_within_1 : decode cX5_within 1 = .ok (.iload_n 1, 1) := by decide +kernel
theorem dX5_within_2 : decode cX5_within 2 = .ok (.if_icmp .lt 12, 3) := by decide +kernel
theorem dX5_within_5 : decode cX5_within 5 = .ok (.iload_n 0, 1) := by decide +kernel
theorem dX5_within_6 : decode cX5_within 6 = .ok (.iload_n 2, 1) := by decide +kernel
theorem dX5_within_7 : decode cX5_within 7 = .ok (.if_icmp .gt 7, 3) := by decide +kernel
theorem dX5_within_10 : decode cX5_within 10 = .ok (.iconst 1, 1) := by decide +kernel
theorem dX5_within_11 : decode cX5_within 11 = .ok (.goto 4, 3) := by decide +kernel
theorem dX5_within_14 : decode cX5_within 14 = .ok (.iconst 0, 1) := by decide +kernel
theorem dX5_within_15 : decode cX5_within 15 = .ok (.ireturn, 1) := by decide +kernel
theorem dX5_hasBit_0 : decode cX5_hasBit 0 = .ok (.iload_n 0, 1) := by decide +kernel
theorem dX5_hasBit_1 : decode cX5_hasBit 1 = .ok (.iload_n 1, 1) := by decide +kernel
theorem dX5_hasBit_2 : decode cX5_hasBit 2 = .ok (.ishr, 1) := by decide +kernel
theorem dX5_hasBit_3 : decode cX5_hasBit 3 = .ok (.iconst 1, 1) := by decide +kernel
theorem dX5_hasBit_4 : decode cX5_hasBit 4 = .ok (.iand, 1) := by decide +kernel
theorem dX5_hasBit_5 : decode cX5_hasBit 5 = .ok (.iconst 1, 1) := by decide +kernel
theorem dX5_hasBit_6 : decode cX5_hasBit 6 = .ok (.if_icmp .ne 7, 3) := by decide +kernel
theorem dX5_hasBit_9 : decode cX5_hasBit 9 = .ok (.iconst 1, 1) := by decide +kernel
theorem dX5_hasBit_10 : decode cX5_hasBit 10 = .ok (.goto 4, 3) := by decide +kernel
theorem dX5_hasBit_13 : decode cX5_hasBit 13 = .ok (.iconst 0, 1) := by decide +kernel
theorem dX5_hasBit_14 : decode cX5_hasBit 14 = .ok (.ireturn, 1) := by decide +kernel
theorem dX5_at_0 : decode cX5_at 0 = .ok (.iload_n 1, 1) := by decide +kernel
theorem dX5_at_1 : decode cX5_at 1 = .ok (.ifCond .lt 15, 3) := by decide +kernel
theorem dX5_at_4 : decode cX5_at 4 = .ok (.iload_n 1, 1) := by decide +kernel
theorem dX5_at_5 : decode cX5_at 5 = .ok (.aload_n 0, 1) := by decide +kernel
theorem dX5_at_6 : decode cX5_at 6 = .ok (.arraylength, 1) := by decide +kernel
theorem dX5_at_7 : decode cX5_at 7 = .ok (.if_icmp .ge 9, 3) := by decide +kernel
theorem dX5_at_10 : decode cX5_at 10 = .ok (.aload_n 0, 1) := by decide +kernel
theorem dX5_at_11 : decode cX5_at 11 = .ok (.iload_n 1, 1) := by decide +kernel
theorem dX5_at_12 : decode cX5_at 12 = .ok (.iaload, 1) := by decide +kernel
theorem dX5_at_13 : decode cX5_at 13 = .ok (.goto 4, 3) := by decide +kernel
theorem dX5_at_16 : decode cX5_at 16 = .ok (.iconst 0, 1) := by decide +kernel
theorem dX5_at_17 : decode cX5_at 17 = .ok (.ireturn, 1) := by decide +kernel
theorem dX5_put_0 : decode cX5_put 0 = .ok (.iload_n 1, 1) := by decide +kernel
theorem dX5_put_1 : decode cX5_put 1 = .ok (.ifCond .lt 13, 3) := by decide +kernel
theorem dX5_put_4 : decode cX5_put 4 = .ok (.iload_n 1, 1) := by decide +kernel
theorem dX5_put_5 : decode cX5_put 5 = .ok (.aload_n 0, 1) := by decide +kernel
theorem dX5_put_6 : decode cX5_put 6 = .ok (.arraylength, 1) := by decide +kernel
theorem dX5_put_7 : decode cX5_put 7 = .ok (.if_icmp .ge 7, 3) := by decide +kernel
theorem dX5_put_10 : decode cX5_put 10 = .ok (.aload_n 0, 1) := by decide +kernel
theorem dX5_put_11 : decode cX5_put 11 = .ok (.iload_n 1, 1) := by decide +kernel
theorem dX5_put_12 : decode cX5_put 12 = .ok (.iload_n 2, 1) := by decide +kernel
theorem dX5_put_13 : decode cX5_put 13 = .ok (.iastore, 1) := by decide +kernel
theorem dX5_put_14 : decode cX5_put 14 = .ok (.return_, 1) := by decide +kernel
theorem dX5_cell_0 : decode cX5_cell 0 = .ok (.iload_n 1, 1) := by decide +kernel
theorem dX5_cell_1 : decode cX5_cell 1 = .ok (.ifCond .lt 16, 3) := by decide +kernel
theorem dX5_cell_4 : decode cX5_cell 4 = .ok (.iload_n 1, 1) := by decide +kernel
theorem dX5_cell_5 : decode cX5_cell 5 = .ok (.iload_n 2, 1) := by decide +kernel
theorem dX5_cell_6 : decode cX5_cell 6 = .ok (.if_icmp .ge 11, 3) := by decide +kernel
theorem dX5_cell_9 : decode cX5_cell 9 = .ok (.iload_n 0, 1) := by decide +kernel
theorem dX5_cell_10 : decode cX5_cell 10 = .ok (.iload_n 2, 1) := by decide +kernel
theorem dX5_cell_11 : decode cX5_cell 11 = .ok (.imul, 1) := by decide +kernel
theorem dX5_cell_12 : decode cX5_cell 12 = .ok (.iload_n 1, 1) := by decide +kernel
theorem dX5_cell_13 : decode cX5_cell 13 = .ok (.iadd, 1) := by decide +kernel
theorem dX5_cell_14 : decode cX5_cell 14 = .ok (.goto 4, 3) := by decide +kernel
theorem dX5_cell_17 : decode cX5_cell 17 = .ok (.iconst (-1), 1) := by decide +kernel
theorem dX5_cell_18 : decode cX5_cell 18 = .ok (.ireturn, 1) := by decide +kernel
theorem dX5_copy_0 : decode cX5_copy 0 = .ok (.aload_n 0, 1) := by decide +kernel
theorem dX5_copy_1 : decode cX5_copy 1 = .ok (.iconst 0, 1) := by decide +kernel
theorem dX5_copy_2 : decode cX5_copy 2 = .ok (.aload_n 1, 1) := by decide +kernel
theorem dX5_copy_3 : decode cX5_copy 3 = .ok (.iconst 0, 1) := by decide +kernel
theorem dX5_copy_4 : decode cX5_copy 4 = .ok (.aload_n 0, 1) := by decide +kernel
theorem dX5_copy_5 : decode cX5_copy 5 = .ok (.arraylength, 1) := by decide +kernel
theorem dX5_copy_6 : decode cX5_copy 6 = .ok (.aload_n 1, 1) := by decide +kernel
theorem dX5_copy_7 : decode cX5_copy 7 = .ok (.arraylength, 1) := by decide +kernel
theorem dX5_copy_8 : decode cX5_copy 8 = .ok (.invokestatic 291, 3) := by decide +kernel
theorem dX5_copy_11 : decode cX5_copy 11 = .ok (.invokestatic 296, 3) := by decide +kernel
theorem dX5_copy_14 : decode cX5_copy 14 = .ok (.return_, 1) := by decide +kernel
end
section
theorem dX6_init_0 : decode cX6_init 0 = .ok (.aload_n 0, 1) := by decide +kernel
theorem dX6_init_1 : decode cX6_init 1 = .ok (.invokespecial 1, 3) := by decide +kernel
theorem dX6_init_4 : decode cX6_init 4 = .ok (.aload_n 0, 1) := by decide +kernel
theorem dX6_init_5 : decode cX6_init 5 = .ok (.iconst 3, 1) := by decide +kernel
theorem dX6_init_6 : decode cX6_init 6 = .ok (.newarray .int, 2) := by decide +kernel
theorem dX6_init_8 : decode cX6_init 8 = .ok (.putfield 7, 3) := by decide +kernel
theorem dX6_init_11 : decode cX6_init 11 = .ok (.aload_n 0, 1) := by decide +kernel
theorem dX6_init_12 : decode cX6_init 12 = .ok (.bipush 123, 2) := by decide +kernel
theorem dX6_init_14 : decode cX6_init 14 = .ok (.newarray .int, 2) := by decide +kernel
theorem dX6_init_16 : decode cX6_init 16 = .ok (.putfield 13, 3) := by decide +kernel
theorem dX6_init_19 : decode cX6_init 19 = .ok (.aload_n 0, 1) := by decide +kernel
theorem dX6_init_20 : decode cX6_init 20 = .ok (.sipush 738, 3) := by decide +kernel
theorem dX6_init_23 : decode cX6_init 23 = .ok (.newarray .int, 2) := by decide +kernel
theorem dX6_init_25 : decode cX6_init 25 = .ok (.putfield 16, 3) := by decide +kernel
theorem dX6_init_28 : decode cX6_init 28 = .ok (.aload_n 0, 1) := by decide +kernel
theorem dX6_init_29 : decode cX6_init 29 = .ok (.bipush 6, 2) := by decide +kernel
theorem dX6_init_31 : decode cX6_init 31 = .ok (.newarray .int, 2) := by decide +kernel
theorem dX6_init_33 : decode cX6_init 33 = .ok (.putfield 19, 3) := by decide +kernel
theorem dX6_init_36 : decode cX6_init 36 = .ok (.aload_n 0, 1) := by decide +kernel
theorem dX6_init_37 : decode cX6_init 37 = .ok (.bipush 6, 2) := by decide +kernel
theorem dX6_init_39 : decode cX6_init 39 = .ok (.newarray .int, 2) := by decide +kernel
theorem dX6_init_41 : decode cX6_init 41 = .ok (.putfield 22, 3) := by decide +kernel
theorem dX6_init_44 : decode cX6_init 44 = .ok (.aload_n 0, 1) := by decide +kernel
theorem dX6_init_45 : decode cX6_init 45 = .ok (.bipush 6, 2) := by decide +kernel
theorem dX6_init_47 : decode cX6_init 47 = .ok (.newarray .int, 2) := by decide +kernel
theorem dX6_init_49 : decode cX6_init 49 = .ok (.putfield 25, 3) := by decide +kernel
theorem dX6_init_52 : decode cX6_init 52 = .ok (.aload_n 0, 1) := by decide +kernel
theorem dX6_init_53 : decode cX6_init 53 = .ok (.bipush 36, 2) := by decide +kernel
theorem dX6_init_55 : decode cX6_init 55 = .ok (.newarray .int, 2) := by decide +kernel
theorem dX6_init_57 : decode cX6_init 57 = .ok (.putfield 28, 3) := by decide +kernel
theorem dX6_init_60 : decode cX6_init 60 = .ok (.aload_n 0, 1) := by decide +kernel
theorem dX6_init_61 : decode cX6_init 61 = .ok (.bipush 17, 2) := by decide +kernel
theorem dX6_init_63 : decode cX6_init 63 = .ok (.newarray .int, 2) := by decide +kernel
theorem dX6_init_65 : decode cX6_init 65 = .ok (.putfield 31, 3) := by decide +kernel
theorem dX6_init_68 : decode cX6_init 68 = .ok (.aload_n 0, 1) := by decide +kernel
theorem dX6_init_69 : decode cX6_init 69 = .ok (.bipush 17, 2) := by decide +kernel
theorem dX6_init_71 : decode cX6_init 71 = .ok (.newarray .int, 2) := by decide +kernel
theorem dX6_init_73 : decode cX6_init 73 = .ok (.putfield 34, 3) := by decide +kernel
theorem dX6_init_76 : decode cX6_init 76 = .ok (.aload_n 0, 1) := by decide +kernel
theorem dX6_init_77 : decode cX6_init 77 = .ok (.bipush 120, 2) := by decide +kernel
theorem dX6_init_79 : decode cX6_init 79 = .ok (.newarray .int, 2) := by decide +kernel
theorem dX6_init_81 : decode cX6_init 81 = .ok (.putfield 37, 3) := by decide +kernel
theorem dX6_init_84 : decode cX6_init 84 = .ok (.aload_n 0, 1) := by decide +kernel
theorem dX6_init_85 : decode cX6_init 85 = .ok (.sipush 200, 3) := by decide +kernel
theorem dX6_init_88 : decode cX6_init 88 = .ok (.newarray .int, 2) := by decide +kernel
theorem dX6_init_90 : decode cX6_init 90 = .ok (.putfield 40, 3) := by decide +kernel
theorem dX6_init_93 : decode cX6_init 93 = .ok (.aload_n 0, 1) := by decide +kernel
theorem dX6_init_94 : decode cX6_init 94 = .ok (.getfield 13, 3) := by decide +kernel
theorem dX6_init_97 : decode cX6_init 97 = .ok (.iconst 2, 1) := by decide +kernel
theorem dX6_init_98 : decode cX6_init 98 = .ok (.bipush 6, 2) := by decide +kernel
theorem dX6_init_100 : decode cX6_init 100 = .ok (.iastore, 1) := by decide +kernel
theorem dX6_init_101 : decode cX6_init 101 = .ok (.aload_n 0, 1) := by decide +kernel
theorem dX6_init_102 : decode cX6_init 102 = .ok (.getfield 13, 3) := by decide +kernel
theorem dX6_init_105 : decode cX6_init 105 = .ok (.iconst 3, 1) := by decide +kernel
theorem dX6_init_106 : decode cX6_init 106 = .ok (.iconst 2, 1) := by decide +kernel
theorem dX6_init_107 : decode cX6_init 107 = .ok (.iastore, 1) := by decide +kernel
theorem dX6_init_108 : decode cX6_init 108 = .ok (.aload_n 0, 1) := by decide +kernel
theorem dX6_init_109 : decode cX6_init 109 = .ok (.getfield 13, 3) := by decide +kernel
theorem dX6_init_112 : decode cX6_init 112 = .ok (.bipush 8, 2) := by decide +kernel
theorem dX6_init_114 : decode cX6_init 114 = .ok (.iconst 4, 1) := by decide +kernel
theorem dX6_init_115 : decode cX6_init 115 = .ok (.iastore, 1) := by decide +kernel
theorem dX6_init_116 : decode cX6_init 116 = .ok (.return_, 1) := by decide +kernel
theorem dX6_bad_0 : decode cX6_bad 0 = .ok (.aload_n 0, 1) := by decide +kernel
theorem dX6_bad_1 : decode cX6_bad 1 = .ok (.getfield 7, 3) := by decide +kernel
theorem dX6_bad_4 : decode cX6_bad 4 = .ok (.iconst 0, 1) := by decide +kernel
theorem dX6_bad_5 : decode cX6_bad 5 = .ok (.dup2, 1) := by decide +kernel
theorem dX6_bad_6 : decode cX6_bad 6 = .ok (.iaload, 1) := by decide +kernel
theorem dX6_bad_7 : decode cX6_bad 7 = .ok (.iconst 1, 1) := by decide +kernel
theorem dX6_bad_8 : decode cX6_bad 8 = .ok (.iadd, 1) := by decide +kernel
theorem dX6_bad_9 : decode cX6_bad 9 = .ok (.iastore, 1) := by decide +kernel
theorem dX6_bad_10 : decode cX6_bad 10 = .ok (.bipush (-2), 2) := by decide +kernel
theorem dX6_bad_12 : decode cX6_bad 12 = .ok (.ireturn, 1) := by decide +kernel
theorem dX6_no_0 : decode cX6_no 0 = .ok (.aload_n 0, 1) := by decide +kernel
theorem dX6_no_1 : decode cX6_no 1 = .ok (.getfield 7, 3) := by decide +kernel
theorem dX6_no_4 : decode cX6_no 4 = .ok (.iconst 1, 1) := by decide +kernel
theorem dX6_no_5 : decode cX6_no 5 = .ok (.dup2, 1) := by decide +kernel
theorem dX6_no_6 : decode cX6_no 6 = .ok (.iaload, 1) := by decide +kernel
theorem dX6_no_7 : decode cX6_no 7 = .ok (.iconst 1, 1) := by decide +kernel
theorem dX6_no_8 : decode cX6_no 8 = .ok (.iadd, 1) := by decide +kernel
theorem dX6_no_9 : decode cX6_no 9 = .ok (.iastore, 1) := by decide +kernel
theorem dX6_no_10 : decode cX6_no 10 = .ok (.bipush (-3), 2) := by decide +kernel
theorem dX6_no_12 : decode cX6_no 12 = .ok (.ireturn, 1) := by decide +kernel
theorem dX6_full_0 : decode cX6_full 0 = .ok (.aload_n 0, 1) := by decide +kernel
theorem dX6_full_1 : decode cX6_full 1 = .ok (.getfield 7, 3) := by decide +kernel
theorem dX6_full_4 : decode cX6_full 4 = .ok (.iconst 2, 1) := by decide +kernel
theorem dX6_full_5 : decode cX6_full 5 = .ok (.dup2, 1) := by decide +kernel
theorem dX6_full_6 : decode cX6_full 6 = .ok (.iaload, 1) := by decide +kernel
theorem dX6_full_7 : decode cX6_full 7 = .ok (.iconst 1, 1) := by decide +kernel
theorem dX6_full_8 : decode cX6_full 8 = .ok (.iadd, 1) := by decide +kernel
theorem dX6_full_9 : decode cX6_full 9 = .ok (.iastore, 1) := by decide +kernel
theorem dX6_full_10 : decode cX6_full 10 = .ok (.bipush (-4), 2) := by decide +kernel
theorem dX6_full_12 : decode cX6_full 12 = .ok (.ireturn, 1) := by decide +kernel
theorem dX6_counted_0 : decode cX6_counted 0 = .ok (.iload_n 1, 1) := by decide +kernel
theorem dX6_counted_1 : decode cX6_counted 1 = .ok (.bipush (-2), 2) := by decide +kernel
theorem dX6_counted_3 : decode cX6_counted 3 = .ok (.if_icmp .ne 10, 3) := by decide +kernel
theorem dX6_counted_6 : decode cX6_counted 6 = .ok (.aload_n 0, 1) := by decide +kernel
theorem dX6_counted_7 : decode cX6_counted 7 = .ok (.invokevirtual 43, 3) := by decide +kernel
theorem dX6_counted_10 : decode cX6_counted 10 = .ok (.goto 30, 3) := by decide +kernel
theorem dX6_counted_13 : decode cX6_counted 13 = .ok (.iload_n 1, 1) := by decide +kernel
theorem dX6_counted_14 : decode cX6_counted 14 = .ok (.bipush (-3), 2) := by decide +kernel
theorem dX6_counted_16 : decode cX6_counted 16 = .ok (.if_icmp .ne 10, 3) := by decide +kernel
theorem dX6_counted_19 : decode cX6_counted 19 = .ok (.aload_n 0, 1) := by decide +kernel
theorem dX6_counted_20 : decode cX6_counted 20 = .ok (.invokevirtual 47, 3) := by decide +kernel
theorem dX6_counted_23 : decode cX6_counted 23 = .ok (.goto 17, 3) := by decide +kernel
theorem dX6_counted_26 : decode cX6_counted 26 = .ok (.iload_n 1, 1) := by decide +kernel
theorem dX6_counted_27 : decode cX6_counted 27 = .ok (.bipush (-4), 2) := by decide +kernel
theorem dX6_counted_29 : decode cX6_counted 29 = .ok (.if_icmp .ne 10, 3) := by decide +kernel
theorem dX6_counted_32 : decode cX6_counted 32 = .ok (.aload_n 0, 1) := by decide +kernel
theorem dX6_counted_33 : decode cX6_counted 33 = .ok (.invokevirtual 50, 3) := by decide +kernel
theorem dX6_counted_36 : decode cX6_counted 36 = .ok (.goto 4, 3) := by decide +kernel
theorem dX6_counted_39 : decode cX6_counted 39 = .ok (.iload_n 1, 1) := by decide +kernel
theorem dX6_counted_40 : decode cX6_counted 40 = .ok (.ireturn, 1) := by decide +kernel
theorem dX6_in_0 : decode cX6_in 0 = .ok (.iload_n 0, 1) := by decide +kernel
theorem dX6_in_1 : decode cX6_in 1 = .ok (.iload_n 1, 1) := by decide +kernel
theorem dX6_in_2 : decode cX6_in 2 = .ok (.if_icmp .lt 12, 3) := by decide +kernel
theorem dX6_in_5 : decode cX6_in 5 = .ok (.iload_n 0, 1) := by decide +kernel
theorem dX6_in_6 : decode cX6_in 6 = .ok (.iload_n 2, 1) := by decide +kernel
theorem dX6_in_7 : decode cX6_in 7 = .ok (.if_icmp .gt 7, 3) := by decide +kernel
theorem dX6_in_10 : decode cX6_in 10 = .ok (.iconst 1, 1) := by decide +kernel
theorem dX6_in_11 : decode cX6_in 11 = .ok (.goto 4, 3) := by decide +kernel
theorem dX6_in_14 : decode cX6_in 14 = .ok (.iconst 0, 1) := by decide +kernel
theorem dX6_in_15 : decode cX6_in 15 = .ok (.ireturn, 1) := by decide +kernel
theorem dX6_puts_0 : decode cX6_puts 0 = .ok (.iconst 0, 1) := by decide +kernel
theorem dX6_puts_1 : decode cX6_puts 1 = .ok (.istore_n 2, 1) := by decide +kernel
theorem dX6_puts_2 : decode cX6_puts 2 = .ok (.iload_n 2, 1) := by decide +kernel
theorem dX6_puts_3 : decode cX6_puts 3 = .ok (.bipush 123, 2) := by decide +kernel
theorem dX6_puts_5 : decode cX6_puts 5 = .ok (.if_icmp .ge 26, 3) := by decide +kernel
theorem dX6_puts_8 : decode cX6_puts 8 = .ok (.aload_n 0, 1) := by decide +kernel
theorem dX6_puts_9 : decode cX6_puts 9 = .ok (.getfield 16, 3) := by decide +kernel
theorem dX6_puts_12 : decode cX6_puts 12 = .ok (.bipush 123, 2) := by decide +kernel
theorem dX6_puts_14 : decode cX6_puts 14 = .ok (.iload_n 1, 1) := by decide +kernel
theorem dX6_puts_15 : decode cX6_puts 15 = .ok (.imul, 1) := by decide +kernel
theorem dX6_puts_16 : decode cX6_puts 16 = .ok (.iload_n 2, 1) := by decide +kernel
theorem dX6_puts_17 : decode cX6_puts 17 = .ok (.iadd, 1) := by decide +kernel
theorem dX6_puts_18 : decode cX6_puts 18 = .ok (.aload_n 0, 1) := by decide +kernel
theorem dX6_puts_19 : decode cX6_puts 19 = .ok (.getfield 13, 3) := by decide +kernel
theorem dX6_puts_22 : decode cX6_puts 22 = .ok (.iload_n 2, 1) := by decide +kernel
theorem dX6_puts_23 : decode cX6_puts 23 = .ok (.iaload, 1) := by decide +kernel
theorem dX6_puts_24 : decode cX6_puts 24 = .ok (.iastore, 1) := by decide +kernel
theorem dX6_puts_25 : decode cX6_puts 25 = .ok (.iinc 2 1, 3) := by decide +kernel
theorem dX6_puts_28 : decode cX6_puts 28 = .ok (.goto (-26), 3) := by decide +kernel
theorem dX6_puts_31 : decode cX6_puts 31 = .ok (.return_, 1) := by decide +kernel
theorem dX6_takes_0 : decode cX6_takes 0 = .ok (.iconst 0, 1) := by decide +kernel
theorem dX6_takes_1 : decode cX6_takes 1 = .ok (.istore_n 2, 1) := by decide +kernel
theorem dX6_takes_2 : decode cX6_takes 2 = .ok (.iload_n 2, 1) := by decide +kernel
theorem dX6_takes_3 : decode cX6_takes 3 = .ok (.bipush 123, 2) := by decide +kernel
theorem dX6_takes_5 : decode cX6_takes 5 = .ok (.if_icmp .ge 26, 3) := by decide +kernel
theorem dX6_takes_8 : decode cX6_takes 8 = .ok (.aload_n 0, 1) := by decide +kernel
theorem dX6_takes_9 : decode cX6_takes 9 = .ok (.getfield 13, 3) := by decide +kernel
theorem dX6_takes_12 : decode cX6_takes 12 = .ok (.iload_n 2, 1) := by decide +kernel
theorem dX6_takes_13 : decode cX6_takes 13 = .ok (.aload_n 0, 1) := by decide +kernel
theorem dX6_takes_14 : decode cX6_takes 14 = .ok (.getfield 16, 3) := by decide +kernel
theorem dX6_takes_17 : decode cX6_takes 17 = .ok (.bipush 123, 2) := by decide +kernel
theorem dX6_takes_19 : decode cX6_takes 19 = .ok (.iload_n 1, 1) := by decide +kernel
theorem dX6_takes_20 : decode cX6_takes 20 = .ok (.imul, 1) := by decide +kernel
theorem dX6_takes_21 : decode cX6_takes 21 = .ok (.iload_n 2, 1) := by decide +kernel
theorem dX6_takes_22 : decode cX6_takes 22 = .ok (.iadd, 1) := by decide +kernel
theorem dX6_takes_23 : decode cX6_takes 23 = .ok (.iaload, 1) := by decide +kernel
theorem dX6_takes_24 : decode cX6_takes 24 = .ok (.iastore, 1) := by decide +kernel
theorem dX6_takes_25 : decode cX6_takes 25 = .ok (.iinc 2 1, 3) := by decide +kernel
theorem dX6_takes_28 : decode cX6_takes 28 = .ok (.goto (-26), 3) := by decide +kernel
theorem dX6_takes_31 : decode cX6_takes 31 = .ok (.return_, 1) := by decide +kernel
theorem dX6_leavesState_0 : decode cX6_leavesState 0 = .ok (.aload_n 0, 1) := by decide +kernel
theorem dX6_leavesState_1 : decode cX6_leavesState 1 = .ok (.getfield 53, 3) := by decide +kernel
theorem dX6_leavesState_4 : decode cX6_leavesState 4 = .ok (.iconst 5, 1) := by decide +kernel
theorem dX6_leavesState_5 : decode cX6_leavesState 5 = .ok (.if_icmp .ne 43, 3) := by decide +kernel
theorem dX6_leavesState_8 : decode cX6_leavesState 8 = .ok (.iconst 0, 1) := by decide +kernel
theorem dX6_leavesState_9 : decode cX6_leavesState 9 = .ok (.istore_n 1, 1) := by decide +kernel
theorem dX6_leavesState_10 : decode cX6_leavesState 10 = .ok (.iload_n 1, 1) := by decide +kernel
theorem dX6_leavesState_11 : decode cX6_leavesState 11 = .ok (.sipush 492, 3) := by decide +kernel
theorem dX6_leavesState_14 : decode cX6_leavesState 14 = .ok (.if_icmp .ge 24, 3) := by decide +kernel
theorem dX6_leavesState_17 : decode cX6_leavesState 17 = .ok (.aload_n 0, 1) := by decide +kernel
theorem dX6_leavesState_18 : decode cX6_leavesState 18 = .ok (.getfield 16, 3) := by decide +kernel
theorem dX6_leavesState_21 : decode cX6_leavesState 21 = .ok (.iload_n 1, 1) := by decide +kernel
theorem dX6_leavesState_22 : decode cX6_leavesState 22 = .ok (.aload_n 0, 1) := by decide +kernel
theorem dX6_leavesState_23 : decode cX6_leavesState 23 = .ok (.getfield 16, 3) := by decide +kernel
theorem dX6_leavesState_26 : decode cX6_leavesState 26 = .ok (.iload_n 1, 1) := by decide +kernel
theorem dX6_leavesState_27 : decode cX6_leavesState 27 = .ok (.bipush 123, 2) := by decide +kernel
theorem dX6_leavesState_29 : decode cX6_leavesState 29 = .ok (.iadd, 1) := by decide +kernel
theorem dX6_leavesState_30 : decode cX6_leavesState 30 = .ok (.iaload, 1) := by decide +kernel
theorem dX6_leavesState_31 : decode cX6_leavesState 31 = .ok (.iastore, 1) := by decide +kernel
theorem dX6_leavesState_32 : decode cX6_leavesState 32 = .ok (.iinc 1 1, 3) := by decide +kernel
theorem dX6_leavesState_35 : decode cX6_leavesState 35 = .ok (.goto (-25), 3) := by decide +kernel
theorem dX6_leavesState_38 : decode cX6_leavesState 38 = .ok (.aload_n 0, 1) := by decide +kernel
theorem dX6_leavesState_39 : decode cX6_leavesState 39 = .ok (.dup, 1) := by decide +kernel
theorem dX6_leavesState_40 : decode cX6_leavesState 40 = .ok (.getfield 53, 3) := by decide +kernel
theorem dX6_leavesState_43 : decode cX6_leavesState 43 = .ok (.iconst 1, 1) := by decide +kernel
theorem dX6_leavesState_44 : decode cX6_leavesState 44 = .ok (.isub, 1) := by decide +kernel
theorem dX6_leavesState_45 : decode cX6_leavesState 45 = .ok (.putfield 53, 3) := by decide +kernel
theorem dX6_leavesState_48 : decode cX6_leavesState 48 = .ok (.iconst 0, 1) := by decide +kernel
theorem dX6_leavesState_49 : decode cX6_leavesState 49 = .ok (.istore_n 1, 1) := by decide +kernel
theorem dX6_leavesState_50 : decode cX6_leavesState 50 = .ok (.iload_n 1, 1) := by decide +kernel
theorem dX6_leavesState_51 : decode cX6_leavesState 51 = .ok (.bipush 123, 2) := by decide +kernel
theorem dX6_leavesState_53 : decode cX6_leavesState 53 = .ok (.if_icmp .ge 33, 3) := by decide +kernel
theorem dX6_leavesState_56 : decode cX6_leavesState 56 = .ok (.aload_n 0, 1) := by decide +kernel
theorem dX6_leavesState_57 : decode cX6_leavesState 57 = .ok (.getfield 16, 3) := by decide +kernel
theorem dX6_leavesState_60 : decode cX6_leavesState 60 = .ok (.bipush 123, 2) := by decide +kernel
theorem dX6_leavesState_62 : decode cX6_leavesState 62 = .ok (.aload_n 0, 1) := by decide +kernel
theorem dX6_leavesState_63 : decode cX6_leavesState 63 = .ok (.getfield 53, 3) := by decide +kernel
theorem dX6_leavesState_66 : decode cX6_leavesState 66 = .ok (.imul, 1) := by decide +kernel
theorem dX6_leavesState_67 : decode cX6_leavesState 67 = .ok (.iload_n 1, 1) := by decide +kernel
theorem dX6_leavesState_68 : decode cX6_leavesState 68 = .ok (.iadd, 1) := by decide +kernel
theorem dX6_leavesState_69 : decode cX6_leavesState 69 = .ok (.aload_n 0, 1) := by decide +kernel
theorem dX6_leavesState_70 : decode cX6_leavesState 70 = .ok (.getfield 16, 3) := by decide +kernel
theorem dX6_leavesState_73 : decode cX6_leavesState 73 = .ok (.sipush 615, 3) := by decide +kernel
theorem dX6_leavesState_76 : decode cX6_leavesState 76 = .ok (.iload_n 1, 1) := by decide +kernel
theorem dX6_leavesState_77 : decode cX6_leavesState 77 = .ok (.iadd, 1) := by decide +kernel
theorem dX6_leavesState_78 : decode cX6_leavesState 78 = .ok (.iaload, 1) := by decide +kernel
theorem dX6_leavesState_79 : decode cX6_leavesState 79 = .ok (.iastore, 1) := by decide +kernel
theorem dX6_leavesState_80 : decode cX6_leavesState 80 = .ok (.iinc 1 1, 3) := by decide +kernel
theorem dX6_leavesState_83 : decode cX6_leavesState 83 = .ok (.goto (-33), 3) := by decide +kernel
theorem dX6_leavesState_86 : decode cX6_leavesState 86 = .ok (.aload_n 0, 1) := by decide +kernel
theorem dX6_leavesState_87 : decode cX6_leavesState 87 = .ok (.dup, 1) := by decide +kernel
theorem dX6_leavesState_88 : decode cX6_leavesState 88 = .ok (.getfield 53, 3) := by decide +kernel
theorem dX6_leavesState_91 : decode cX6_leavesState 91 = .ok (.iconst 1, 1) := by decide +kernel
theorem dX6_leavesState_92 : decode cX6_leavesState 92 = .ok (.iadd, 1) := by decide +kernel
theorem dX6_leavesState_93 : decode cX6_leavesState 93 = .ok (.putfield 53, 3) := by decide +kernel
theorem dX6_leavesState_96 : decode cX6_leavesState 96 = .ok (.return_, 1) := by decide +kernel
theorem dX6_back_0 : decode cX6_back 0 = .ok (.aload_n 0, 1) := by decide +kernel
theorem dX6_back_1 : decode cX6_back 1 = .ok (.getfield 53, 3) := by decide +kernel
theorem dX6_back_4 : decode cX6_back 4 = .ok (.ifCond .ne 8, 3) := by decide +kernel
theorem dX6_back_7 : decode cX6_back 7 = .ok (.aload_n 0, 1) := by decide +kernel
theorem dX6_back_8 : decode cX6_back 8 = .ok (.invokevirtual 47, 3) := by decide +kernel
theorem dX6_back_11 : decode cX6_back 11 = .ok (.ireturn, 1) := by decide +kernel
theorem dX6_back_12 : decode cX6_back 12 = .ok (.aload_n 0, 1) := by decide +kernel
theorem dX6_back_13 : decode cX6_back 13 = .ok (.dup, 1) := by decide +kernel
theorem dX6_back_14 : decode cX6_back 14 = .ok (.getfield 53, 3) := by decide +kernel
theorem dX6_back_17 : decode cX6_back 17 = .ok (.iconst 1, 1) := by decide +kernel
theorem dX6_back_18 : decode cX6_back 18 = .ok (.isub, 1) := by decide +kernel
theorem dX6_back_19 : decode cX6_back 19 = .ok (.putfield 53, 3) := by decide +kernel
theorem dX6_back_22 : decode cX6_back 22 = .ok (.aload_n 0, 1) := by decide +kernel
theorem dX6_back_23 : decode cX6_back 23 = .ok (.aload_n 0, 1) := by decide +kernel
theorem dX6_back_24 : decode cX6_back 24 = .ok (.getfield 53, 3) := by decide +kernel
theorem dX6_back_27 : decode cX6_back 27 = .ok (.invokevirtual 57, 3) := by decide +kernel
theorem dX6_back_30 : decode cX6_back 30 = .ok (.aload_n 0, 1) := by decide +kernel
theorem dX6_back_31 : decode cX6_back 31 = .ok (.getfield 53, 3) := by decide +kernel
theorem dX6_back_34 : decode cX6_back 34 = .ok (.ireturn, 1) := by decide +kernel
theorem dX6_isLine_0 : decode cX6_isLine 0 = .ok (.iload_n 1, 1) := by decide +kernel
theorem dX6_isLine_1 : decode cX6_isLine 1 = .ok (.iconst 0, 1) := by decide +kernel
theorem dX6_isLine_2 : decode cX6_isLine 2 = .ok (.aload_n 0, 1) := by decide +kernel
theorem dX6_isLine_3 : decode cX6_isLine 3 = .ok (.getfield 13, 3) := by decide +kernel
theorem dX6_isLine_6 : decode cX6_isLine 6 = .ok (.iconst 0, 1) := by decide +kernel
theorem dX6_isLine_7 : decode cX6_isLine 7 = .ok (.iaload, 1) := by decide +kernel
theorem dX6_isLine_8 : decode cX6_isLine 8 = .ok (.iconst 1, 1) := by decide +kernel
theorem dX6_isLine_9 : decode cX6_isLine 9 = .ok (.isub, 1) := by decide +kernel
theorem dX6_isLine_10 : decode cX6_isLine 10 = .ok (.invokestatic 61, 3) := by decide +kernel
theorem dX6_isLine_13 : decode cX6_isLine 13 = .ok (.ireturn, 1) := by decide +kernel
theorem dX6_isPocket_0 : decode cX6_isPocket 0 = .ok (.iload_n 1, 1) := by decide +kernel
theorem dX6_isPocket_1 : decode cX6_isPocket 1 = .ok (.iconst 0, 1) := by decide +kernel
theorem dX6_isPocket_2 : decode cX6_isPocket 2 = .ok (.aload_n 0, 1) := by decide +kernel
theorem dX6_isPocket_3 : decode cX6_isPocket 3 = .ok (.getfield 13, 3) := by decide +kernel
theorem dX6_isPocket_6 : decode cX6_isPocket 6 = .ok (.iconst 1, 1) := by decide +kernel
theorem dX6_isPocket_7 : decode cX6_isPocket 7 = .ok (.iaload, 1) := by decide +kernel
theorem dX6_isPocket_8 : decode cX6_isPocket 8 = .ok (.iconst 1, 1) := by decide +kernel
theorem dX6_isPocket_9 : decode cX6_isPocket 9 = .ok (.isub, 1) := by decide +kernel
theorem dX6_isPocket_10 : decode cX6_isPocket 10 = .ok (.invokestatic 61, 3) := by decide +kernel
theorem dX6_isPocket_13 : decode cX6_isPocket 13 = .ok (.ireturn, 1) := by decide +kernel
theorem dX6_runsOf_0 : decode cX6_runsOf 0 = .ok (.aload_n 0, 1) := by decide +kernel
theorem dX6_runsOf_1 : decode cX6_runsOf 1 = .ok (.getfield 13, 3) := by decide +kernel
theorem dX6_runsOf_4 : decode cX6_runsOf 4 = .ok (.bipush 9, 2) := by decide +kernel
theorem dX6_runsOf_6 : decode cX6_runsOf 6 = .ok (.bipush 17, 2) := by decide +kernel
theorem dX6_runsOf_8 : decode cX6_runsOf 8 = .ok (.iload_n 1, 1) := by decide +kernel
theorem dX6_runsOf_9 : decode cX6_runsOf 9 = .ok (.imul, 1) := by decide +kernel
theorem dX6_runsOf_10 : decode cX6_runsOf 10 = .ok (.iadd, 1) := by decide +kernel
theorem dX6_runsOf_11 : decode cX6_runsOf 11 = .ok (.iaload, 1) := by decide +kernel
theorem dX6_runsOf_12 : decode cX6_runsOf 12 = .ok (.ireturn, 1) := by decide +kernel
theorem dX6_longOf_0 : decode cX6_longOf 0 = .ok (.aload_n 0, 1) := by decide +kernel
theorem dX6_longOf_1 : decode cX6_longOf 1 = .ok (.getfield 13, 3) := by decide +kernel
theorem dX6_longOf_4 : decode cX6_longOf 4 = .ok (.bipush 9, 2) := by decide +kernel
theorem dX6_longOf_6 : decode cX6_longOf 6 = .ok (.bipush 17, 2) := by decide +kernel
theorem dX6_longOf_8 : decode cX6_longOf 8 = .ok (.iload_n 1, 1) := by decide +kernel
theorem dX6_longOf_9 : decode cX6_longOf 9 = .ok (.imul, 1) := by decide +kernel
theorem dX6_longOf_10 : decode cX6_longOf 10 = .ok (.iadd, 1) := by decide +kernel
theorem dX6_longOf_11 : decode cX6_longOf 11 = .ok (.iconst 1, 1) := by decide +kernel
theorem dX6_longOf_12 : decode cX6_longOf 12 = .ok (.iadd, 1) := by decide +kernel
theorem dX6_longOf_13 : decode cX6_longOf 13 = .ok (.iload_n 2, 1) := by decide +kernel
theorem dX6_longOf_14 : decode cX6_longOf 14 = .ok (.iadd, 1) := by decide +kernel
theorem dX6_longOf_15 : decode cX6_longOf 15 = .ok (.iaload, 1) := by decide +kernel
theorem dX6_longOf_16 : decode cX6_longOf 16 = .ok (.ireturn, 1) := by decide +kernel
theorem dX6_turnOf_0 : decode cX6_turnOf 0 = .ok (.aload_n 0, 1) := by decide +kernel
theorem dX6_turnOf_1 : decode cX6_turnOf 1 = .ok (.getfield 13, 3) := by decide +kernel
theorem dX6_turnOf_4 : decode cX6_turnOf 4 = .ok (.bipush 9, 2) := by decide +kernel
theorem dX6_turnOf_6 : decode cX6_turnOf 6 = .ok (.bipush 17, 2) := by decide +kernel
theorem dX6_turnOf_8 : decode cX6_turnOf 8 = .ok (.iload_n 1, 1) := by decide +kernel
theorem dX6_turnOf_9 : decode cX6_turnOf 9 = .ok (.imul, 1) := by decide +kernel
theorem dX6_turnOf_10 : decode cX6_turnOf 10 = .ok (.iadd, 1) := by decide +kernel
theorem dX6_turnOf_11 : decode cX6_turnOf 11 = .ok (.bipush 9, 2) := by decide +kernel
theorem dX6_turnOf_13 : decode cX6_turnOf 13 = .ok (.iadd, 1) := by decide +kernel
theorem dX6_turnOf_14 : decode cX6_turnOf 14 = .ok (.iload_n 2, 1) := by decide +kernel
theorem dX6_turnOf_15 : decode cX6_turnOf 15 = .ok (.iadd, 1) := by decide +kernel
theorem dX6_turnOf_16 : decode cX6_turnOf 16 = .ok (.iaload, 1) := by decide +kernel
theorem dX6_turnOf_17 : decode cX6_turnOf 17 = .ok (.ireturn, 1) := by decide +kernel
theorem dX6_addLine_0 : decode cX6_addLine 0 = .ok (.iload_n 1, 1) := by decide +kernel
theorem dX6_addLine_1 : decode cX6_addLine 1 = .ok (.iconst 1, 1) := by decide +kernel
theorem dX6_addLine_2 : decode cX6_addLine 2 = .ok (.bipush 60, 2) := by decide +kernel
theorem dX6_addLine_4 : decode cX6_addLine 4 = .ok (.invokestatic 61, 3) := by decide +kernel
theorem dX6_addLine_7 : decode cX6_addLine 7 = .ok (.ifCond .ne 6, 3) := by decide +kernel
theorem dX6_addLine_10 : decode cX6_addLine 10 = .ok (.bipush (-2), 2) := by decide +kernel
theorem dX6_addLine_12 : decode cX6_addLine 12 = .ok (.ireturn, 1) := by decide +kernel
theorem dX6_addLine_13 : decode cX6_addLine 13 = .ok (.aload_n 0, 1) := by decide +kernel
theorem dX6_addLine_14 : decode cX6_addLine 14 = .ok (.getfield 13, 3) := by decide +kernel
theorem dX6_addLine_17 : decode cX6_addLine 17 = .ok (.iconst 0, 1) := by decide +kernel
theorem dX6_addLine_18 : decode cX6_addLine 18 = .ok (.iaload, 1) := by decide +kernel
theorem dX6_addLine_19 : decode cX6_addLine 19 = .ok (.bipush 6, 2) := by decide +kernel
theorem dX6_addLine_21 : decode cX6_addLine 21 = .ok (.if_icmp .ne 6, 3) := by decide +kernel
theorem dX6_addLine_24 : decode cX6_addLine 24 = .ok (.bipush (-4), 2) := by decide +kernel
theorem dX6_addLine_26 : decode cX6_addLine 26 = .ok (.ireturn, 1) := by decide +kernel
theorem dX6_addLine_27 : decode cX6_addLine 27 = .ok (.aload_n 0, 1) := by decide +kernel
theorem dX6_addLine_28 : decode cX6_addLine 28 = .ok (.getfield 13, 3) := by decide +kernel
theorem dX6_addLine_31 : decode cX6_addLine 31 = .ok (.iconst 0, 1) := by decide +kernel
theorem dX6_addLine_32 : decode cX6_addLine 32 = .ok (.iaload, 1) := by decide +kernel
theorem dX6_addLine_33 : decode cX6_addLine 33 = .ok (.istore_n 2, 1) := by decide +kernel
theorem dX6_addLine_34 : decode cX6_addLine 34 = .ok (.iconst 0, 1) := by decide +kernel
theorem dX6_addLine_35 : decode cX6_addLine 35 = .ok (.istore_n 3, 1) := by decide +kernel
theorem dX6_addLine_36 : decode cX6_addLine 36 = .ok (.iload_n 3, 1) := by decide +kernel
theorem dX6_addLine_37 : decode cX6_addLine 37 = .ok (.bipush 17, 2) := by decide +kernel
theorem dX6_addLine_39 : decode cX6_addLine 39 = .ok (.if_icmp .ge 24, 3) := by decide +kernel
theorem dX6_addLine_42 : decode cX6_addLine 42 = .ok (.aload_n 0, 1) := by decide +kernel
theorem dX6_addLine_43 : decode cX6_addLine 43 = .ok (.getfield 13, 3) := by decide +kernel
theorem dX6_addLine_46 : decode cX6_addLine 46 = .ok (.bipush 9, 2) := by decide +kernel
theorem dX6_addLine_48 : decode cX6_addLine 48 = .ok (.bipush 17, 2) := by decide +kernel
theorem dX6_addLine_50 : decode cX6_addLine 50 = .ok (.iload_n 2, 1) := by decide +kernel
theorem dX6_addLine_51 : decode cX6_addLine 51 = .ok (.imul, 1) := by decide +kernel
theorem dX6_addLine_52 : decode cX6_addLine 52 = .ok (.iadd, 1) := by decide +kernel
theorem dX6_addLine_53 : decode cX6_addLine 53 = .ok (.iload_n 3, 1) := by decide +kernel
theorem dX6_addLine_54 : decode cX6_addLine 54 = .ok (.iadd, 1) := by decide +kernel
theorem dX6_addLine_55 : decode cX6_addLine 55 = .ok (.iconst 0, 1) := by decide +kernel
theorem dX6_addLine_56 : decode cX6_addLine 56 = .ok (.iastore, 1) := by decide +kernel
theorem dX6_addLine_57 : decode cX6_addLine 57 = .ok (.iinc 3 1, 3) := by decide +kernel
theorem dX6_addLine_60 : decode cX6_addLine 60 = .ok (.goto (-24), 3) := by decide +kernel
theorem dX6_addLine_63 : decode cX6_addLine 63 = .ok (.aload_n 0, 1) := by decide +kernel
theorem dX6_addLine_64 : decode cX6_addLine 64 = .ok (.getfield 13, 3) := by decide +kernel
theorem dX6_addLine_67 : decode cX6_addLine 67 = .ok (.bipush 9, 2) := by decide +kernel
theorem dX6_addLine_69 : decode cX6_addLine 69 = .ok (.bipush 17, 2) := by decide +kernel
theorem dX6_addLine_71 : decode cX6_addLine 71 = .ok (.iload_n 2, 1) := by decide +kernel
theorem dX6_addLine_72 : decode cX6_addLine 72 = .ok (.imul, 1) := by decide +kernel
theorem dX6_addLine_73 : decode cX6_addLine 73 = .ok (.iadd, 1) := by decide +kernel
theorem dX6_addLine_74 : decode cX6_addLine 74 = .ok (.iconst 1, 1) := by decide +kernel
theorem dX6_addLine_75 : decode cX6_addLine 75 = .ok (.iastore, 1) := by decide +kernel
theorem dX6_addLine_76 : decode cX6_addLine 76 = .ok (.aload_n 0, 1) := by decide +kernel
theorem dX6_addLine_77 : decode cX6_addLine 77 = .ok (.getfield 13, 3) := by decide +kernel
theorem dX6_addLine_80 : decode cX6_addLine 80 = .ok (.bipush 9, 2) := by decide +kernel
theorem dX6_addLine_82 : decode cX6_addLine 82 = .ok (.bipush 17, 2) := by decide +kernel
theorem dX6_addLine_84 : decode cX6_addLine 84 = .ok (.iload_n 2, 1) := by decide +kernel
theorem dX6_addLine_85 : decode cX6_addLine 85 = .ok (.imul, 1) := by decide +kernel
theorem dX6_addLine_86 : decode cX6_addLine 86 = .ok (.iadd, 1) := by decide +kernel
theorem dX6_addLine_87 : decode cX6_addLine 87 = .ok (.iconst 1, 1) := by decide +kernel
theorem dX6_addLine_88 : decode cX6_addLine 88 = .ok (.iadd, 1) := by decide +kernel
theorem dX6_addLine_89 : decode cX6_addLine 89 = .ok (.iload_n 1, 1) := by decide +kernel
theorem dX6_addLine_90 : decode cX6_addLine 90 = .ok (.iastore, 1) := by decide +kernel
theorem dX6_addLine_91 : decode cX6_addLine 91 = .ok (.aload_n 0, 1) := by decide +kernel
theorem dX6_addLine_92 : decode cX6_addLine 92 = .ok (.getfield 13, 3) := by decide +kernel
theorem dX6_addLine_95 : decode cX6_addLine 95 = .ok (.iconst 0, 1) := by decide +kernel
theorem dX6_addLine_96 : decode cX6_addLine 96 = .ok (.dup2, 1) := by decide +kernel
theorem dX6_addLine_97 : decode cX6_addLine 97 = .ok (.iaload, 1) := by decide +kernel
theorem dX6_addLine_98 : decode cX6_addLine 98 = .ok (.iconst 1, 1) := by decide +kernel
theorem dX6_addLine_99 : decode cX6_addLine 99 = .ok (.iadd, 1) := by decide +kernel
theorem dX6_addLine_100 : decode cX6_addLine 100 = .ok (.iastore, 1) := by decide +kernel
theorem dX6_addLine_101 : decode cX6_addLine 101 = .ok (.iload_n 2, 1) := by decide +kernel
theorem dX6_addLine_102 : decode cX6_addLine 102 = .ok (.ireturn, 1) := by decide +kernel
theorem dX6_addRun_0 : decode cX6_addRun 0 = .ok (.aload_n 0, 1) := by decide +kernel
theorem dX6_addRun_1 : decode cX6_addRun 1 = .ok (.iload_n 1, 1) := by decide +kernel
theorem dX6_addRun_2 : decode cX6_addRun 2 = .ok (.invokevirtual 65, 3) := by decide +kernel
theorem dX6_addRun_5 : decode cX6_addRun 5 = .ok (.ifCond .eq 22, 3) := by decide +kernel
theorem dX6_addRun_8 : decode cX6_addRun 8 = .ok (.iload_n 2, 1) := by decide +kernel
theorem dX6_addRun_9 : decode cX6_addRun 9 = .ok (.iconst 0, 1) := by decide +kernel
theorem dX6_addRun_10 : decode cX6_addRun 10 = .ok (.iconst 1, 1) := by decide +kernel
theorem dX6_addRun_11 : decode cX6_addRun 11 = .ok (.invokestatic 61, 3) := by decide +kernel
theorem dX6_addRun_14 : decode cX6_addRun 14 = .ok (.ifCond .eq 13, 3) := by decide +kernel
theorem dX6_addRun_17 : decode cX6_addRun 17 = .ok (.iload_n 3, 1) := by decide +kernel
theorem dX6_addRun_18 : decode cX6_addRun 18 = .ok (.iconst 1, 1) := by decide +kernel
theorem dX6_addRun_19 : decode cX6_addRun 19 = .ok (.bipush 60, 2) := by decide +kernel
theorem dX6_addRun_21 : decode cX6_addRun 21 = .ok (.invokestatic 61, 3) := by decide +kernel
theorem dX6_addRun_24 : decode cX6_addRun 24 = .ok (.ifCond .ne 6, 3) := by decide +kernel
theorem dX6_addRun_27 : decode cX6_addRun 27 = .ok (.bipush (-2), 2) := by decide +kernel
theorem dX6_addRun_29 : decode cX6_addRun 29 = .ok (.ireturn, 1) := by decide +kernel
theorem dX6_addRun_30 : decode cX6_addRun 30 = .ok (.aload_n 0, 1) := by decide +kernel
theorem dX6_addRun_31 : decode cX6_addRun 31 = .ok (.iload_n 1, 1) := by decide +kernel
theorem dX6_addRun_32 : decode cX6_addRun 32 = .ok (.invokevirtual 69, 3) := by decide +kernel
theorem dX6_addRun_35 : decode cX6_addRun 35 = .ok (.istore 4, 2) := by decide +kernel
theorem dX6_addRun_37 : decode cX6_addRun 37 = .ok (.iload 4, 2) := by decide +kernel
theorem dX6_addRun_39 : decode cX6_addRun 39 = .ok (.bipush 8, 2) := by decide +kernel
theorem dX6_addRun_41 : decode cX6_addRun 41 = .ok (.if_icmp .ne 6, 3) := by decide +kernel
theorem dX6_addRun_44 : decode cX6_addRun 44 = .ok (.bipush (-4), 2) := by decide +kernel
theorem dX6_addRun_46 : decode cX6_addRun 46 = .ok (.ireturn, 1) := by decide +kernel
theorem dX6_addRun_47 : decode cX6_addRun 47 = .ok (.aload_n 0, 1) := by decide +kernel
theorem dX6_addRun_48 : decode cX6_addRun 48 = .ok (.getfield 13, 3) := by decide +kernel
theorem dX6_addRun_51 : decode cX6_addRun 51 = .ok (.bipush 9, 2) := by decide +kernel
theorem dX6_addRun_53 : decode cX6_addRun 53 = .ok (.bipush 17, 2) := by decide +kernel
theorem dX6_addRun_55 : decode cX6_addRun 55 = .ok (.iload_n 1, 1) := by decide +kernel
theorem dX6_addRun_56 : decode cX6_addRun 56 = .ok (.imul, 1) := by decide +kernel
theorem dX6_addRun_57 : decode cX6_addRun 57 = .ok (.iadd, 1) := by decide +kernel
theorem dX6_addRun_58 : decode cX6_addRun 58 = .ok (.iconst 1, 1) := by decide +kernel
theorem dX6_addRun_59 : decode cX6_addRun 59 = .ok (.iadd, 1) := by decide +kernel
theorem dX6_addRun_60 : decode cX6_addRun 60 = .ok (.iload 4, 2) := by decide +kernel
theorem dX6_addRun_62 : decode cX6_addRun 62 = .ok (.iadd, 1) := by decide +kernel
theorem dX6_addRun_63 : decode cX6_addRun 63 = .ok (.iload_n 3, 1) := by decide +kernel
theorem dX6_addRun_64 : decode cX6_addRun 64 = .ok (.iastore, 1) := by decide +kernel
theorem dX6_addRun_65 : decode cX6_addRun 65 = .ok (.aload_n 0, 1) := by decide +kernel
theorem dX6_addRun_66 : decode cX6_addRun 66 = .ok (.getfield 13, 3) := by decide +kernel
theorem dX6_addRun_69 : decode cX6_addRun 69 = .ok (.bipush 9, 2) := by decide +kernel
theorem dX6_addRun_71 : decode cX6_addRun 71 = .ok (.bipush 17, 2) := by decide +kernel
theorem dX6_addRun_73 : decode cX6_addRun 73 = .ok (.iload_n 1, 1) := by decide +kernel
theorem dX6_addRun_74 : decode cX6_addRun 74 = .ok (.imul, 1) := by decide +kernel
theorem dX6_addRun_75 : decode cX6_addRun 75 = .ok (.iadd, 1) := by decide +kernel
theorem dX6_addRun_76 : decode cX6_addRun 76 = .ok (.bipush 9, 2) := by decide +kernel
theorem dX6_addRun_78 : decode cX6_addRun 78 = .ok (.iadd, 1) := by decide +kernel
theorem dX6_addRun_79 : decode cX6_addRun 79 = .ok (.iload 4, 2) := by decide +kernel
theorem dX6_addRun_81 : decode cX6_addRun 81 = .ok (.iadd, 1) := by decide +kernel
theorem dX6_addRun_82 : decode cX6_addRun 82 = .ok (.iload_n 2, 1) := by decide +kernel
theorem dX6_addRun_83 : decode cX6_addRun 83 = .ok (.iastore, 1) := by decide +kernel
theorem dX6_addRun_84 : decode cX6_addRun 84 = .ok (.aload_n 0, 1) := by decide +kernel
theorem dX6_addRun_85 : decode cX6_addRun 85 = .ok (.getfield 13, 3) := by decide +kernel
theorem dX6_addRun_88 : decode cX6_addRun 88 = .ok (.bipush 9, 2) := by decide +kernel
theorem dX6_addRun_90 : decode cX6_addRun 90 = .ok (.bipush 17, 2) := by decide +kernel
theorem dX6_addRun_92 : decode cX6_addRun 92 = .ok (.iload_n 1, 1) := by decide +kernel
theorem dX6_addRun_93 : decode cX6_addRun 93 = .ok (.imul, 1) := by decide +kernel
theorem dX6_addRun_94 : decode cX6_addRun 94 = .ok (.iadd, 1) := by decide +kernel
theorem dX6_addRun_95 : decode cX6_addRun 95 = .ok (.iload 4, 2) := by decide +kernel
theorem dX6_addRun_97 : decode cX6_addRun 97 = .ok (.iconst 1, 1) := by decide +kernel
theorem dX6_addRun_98 : decode cX6_addRun 98 = .ok (.iadd, 1) := by decide +kernel
theorem dX6_addRun_99 : decode cX6_addRun 99 = .ok (.iastore, 1) := by decide +kernel
theorem dX6_addRun_100 : decode cX6_addRun 100 = .ok (.iload 4, 2) := by decide +kernel
theorem dX6_addRun_102 : decode cX6_addRun 102 = .ok (.iconst 1, 1) := by decide +kernel
theorem dX6_addRun_103 : decode cX6_addRun 103 = .ok (.iadd, 1) := by decide +kernel
theorem dX6_addRun_104 : decode cX6_addRun 104 = .ok (.ireturn, 1) := by decide +kernel
theorem dX6_dropRun_0 : decode cX6_dropRun 0 = .ok (.aload_n 0, 1) := by decide +kernel
theorem dX6_dropRun_1 : decode cX6_dropRun 1 = .ok (.iload_n 1, 1) := by decide +kernel
theorem dX6_dropRun_2 : decode cX6_dropRun 2 = .ok (.invokevirtual 65, 3) := by decide +kernel
theorem dX6_dropRun_5 : decode cX6_dropRun 5 = .ok (.ifCond .ne 6, 3) := by decide +kernel
theorem dX6_dropRun_8 : decode cX6_dropRun 8 = .ok (.bipush (-2), 2) := by decide +kernel
theorem dX6_dropRun_10 : decode cX6_dropRun 10 = .ok (.ireturn, 1) := by decide +kernel
theorem dX6_dropRun_11 : decode cX6_dropRun 11 = .ok (.aload_n 0, 1) := by decide +kernel
theorem dX6_dropRun_12 : decode cX6_dropRun 12 = .ok (.iload_n 1, 1) := by decide +kernel
theorem dX6_dropRun_13 : decode cX6_dropRun 13 = .ok (.invokevirtual 69, 3) := by decide +kernel
theorem dX6_dropRun_16 : decode cX6_dropRun 16 = .ok (.iconst 1, 1) := by decide +kernel
theorem dX6_dropRun_17 : decode cX6_dropRun 17 = .ok (.if_icmp .ne 6, 3) := by decide +kernel
theorem dX6_dropRun_20 : decode cX6_dropRun 20 = .ok (.bipush (-3), 2) := by decide +kernel
theorem dX6_dropRun_22 : decode cX6_dropRun 22 = .ok (.ireturn, 1) := by decide +kernel
theorem dX6_dropRun_23 : decode cX6_dropRun 23 = .ok (.aload_n 0, 1) := by decide +kernel
theorem dX6_dropRun_24 : decode cX6_dropRun 24 = .ok (.getfield 13, 3) := by decide +kernel
theorem dX6_dropRun_27 : decode cX6_dropRun 27 = .ok (.bipush 9, 2) := by decide +kernel
theorem dX6_dropRun_29 : decode cX6_dropRun 29 = .ok (.bipush 17, 2) := by decide +kernel
theorem dX6_dropRun_31 : decode cX6_dropRun 31 = .ok (.iload_n 1, 1) := by decide +kernel
theorem dX6_dropRun_32 : decode cX6_dropRun 32 = .ok (.imul, 1) := by decide +kernel
theorem dX6_dropRun_33 : decode cX6_dropRun 33 = .ok (.iadd, 1) := by decide +kernel
theorem dX6_dropRun_34 : decode cX6_dropRun 34 = .ok (.dup2, 1) := by decide +kernel
theorem dX6_dropRun_35 : decode cX6_dropRun 35 = .ok (.iaload, 1) := by decide +kernel
theorem dX6_dropRun_36 : decode cX6_dropRun 36 = .ok (.iconst 1, 1) := by decide +kernel
theorem dX6_dropRun_37 : decode cX6_dropRun 37 = .ok (.isub, 1) := by decide +kernel
theorem dX6_dropRun_38 : decode cX6_dropRun 38 = .ok (.iastore, 1) := by decide +kernel
theorem dX6_dropRun_39 : decode cX6_dropRun 39 = .ok (.aload_n 0, 1) := by decide +kernel
theorem dX6_dropRun_40 : decode cX6_dropRun 40 = .ok (.iload_n 1, 1) := by decide +kernel
theorem dX6_dropRun_41 : decode cX6_dropRun 41 = .ok (.invokevirtual 69, 3) := by decide +kernel
theorem dX6_dropRun_44 : decode cX6_dropRun 44 = .ok (.ireturn, 1) := by decide +kernel
theorem dX6_addPocket_0 : decode cX6_addPocket 0 = .ok (.iload_n 1, 1) := by decide +kernel
theorem dX6_addPocket_1 : decode cX6_addPocket 1 = .ok (.iconst 1, 1) := by decide +kernel
theorem dX6_addPocket_2 : decode cX6_addPocket 2 = .ok (.bipush 60, 2) := by decide +kernel
theorem dX6_addPocket_4 : decode cX6_addPocket 4 = .ok (.invokestatic 61, 3) := by decide +kernel
theorem dX6_addPocket_7 : decode cX6_addPocket 7 = .ok (.ifCond .eq 13, 3) := by decide +kernel
theorem dX6_addPocket_10 : decode cX6_addPocket 10 = .ok (.iload_n 2, 1) := by decide +kernel
theorem dX6_addPocket_11 : decode cX6_addPocket 11 = .ok (.iconst 0, 1) := by decide +kernel
theorem dX6_addPocket_12 : decode cX6_addPocket 12 = .ok (.bipush 63, 2) := by decide +kernel
theorem dX6_addPocket_14 : decode cX6_addPocket 14 = .ok (.invokestatic 61, 3) := by decide +kernel
theorem dX6_addPocket_17 : decode cX6_addPocket 17 = .ok (.ifCond .ne 6, 3) := by decide +kernel
theorem dX6_addPocket_20 : decode cX6_addPocket 20 = .ok (.bipush (-2), 2) := by decide +kernel
theorem dX6_addPocket_22 : decode cX6_addPocket 22 = .ok (.ireturn, 1) := by decide +kernel
theorem dX6_addPocket_23 : decode cX6_addPocket 23 = .ok (.aload_n 0, 1) := by decide +kernel
theorem dX6_addPocket_24 : decode cX6_addPocket 24 = .ok (.getfield 13, 3) := by decide +kernel
theorem dX6_addPocket_27 : decode cX6_addPocket 27 = .ok (.iconst 1, 1) := by decide +kernel
theorem dX6_addPocket_28 : decode cX6_addPocket 28 = .ok (.iaload, 1) := by decide +kernel
theorem dX6_addPocket_29 : decode cX6_addPocket 29 = .ok (.bipush 6, 2) := by decide +kernel
theorem dX6_addPocket_31 : decode cX6_addPocket 31 = .ok (.if_icmp .ne 6, 3) := by decide +kernel
theorem dX6_addPocket_34 : decode cX6_addPocket 34 = .ok (.bipush (-4), 2) := by decide +kernel
theorem dX6_addPocket_36 : decode cX6_addPocket 36 = .ok (.ireturn, 1) := by decide +kernel
theorem dX6_addPocket_37 : decode cX6_addPocket 37 = .ok (.aload_n 0, 1) := by decide +kernel
theorem dX6_addPocket_38 : decode cX6_addPocket 38 = .ok (.getfield 13, 3) := by decide +kernel
theorem dX6_addPocket_41 : decode cX6_addPocket 41 = .ok (.iconst 1, 1) := by decide +kernel
theorem dX6_addPocket_42 : decode cX6_addPocket 42 = .ok (.iaload, 1) := by decide +kernel
theorem dX6_addPocket_43 : decode cX6_addPocket 43 = .ok (.istore_n 3, 1) := by decide +kernel
theorem dX6_addPocket_44 : decode cX6_addPocket 44 = .ok (.aload_n 0, 1) := by decide +kernel
theorem dX6_addPocket_45 : decode cX6_addPocket 45 = .ok (.getfield 13, 3) := by decide +kernel
theorem dX6_addPocket_48 : decode cX6_addPocket 48 = .ok (.bipush 111, 2) := by decide +kernel
theorem dX6_addPocket_50 : decode cX6_addPocket 50 = .ok (.iconst 2, 1) := by decide +kernel
theorem dX6_addPocket_51 : decode cX6_addPocket 51 = .ok (.iload_n 3, 1) := by decide +kernel
theorem dX6_addPocket_52 : decode cX6_addPocket 52 = .ok (.imul, 1) := by decide +kernel
theorem dX6_addPocket_53 : decode cX6_addPocket 53 = .ok (.iadd, 1) := by decide +kernel
theorem dX6_addPocket_54 : decode cX6_addPocket 54 = .ok (.iload_n 1, 1) := by decide +kernel
theorem dX6_addPocket_55 : decode cX6_addPocket 55 = .ok (.iastore, 1) := by decide +kernel
theorem dX6_addPocket_56 : decode cX6_addPocket 56 = .ok (.aload_n 0, 1) := by decide +kernel
theorem dX6_addPocket_57 : decode cX6_addPocket 57 = .ok (.getfield 13, 3) := by decide +kernel
theorem dX6_addPocket_60 : decode cX6_addPocket 60 = .ok (.bipush 111, 2) := by decide +kernel
theorem dX6_addPocket_62 : decode cX6_addPocket 62 = .ok (.iconst 2, 1) := by decide +kernel
theorem dX6_addPocket_63 : decode cX6_addPocket 63 = .ok (.iload_n 3, 1) := by decide +kernel
theorem dX6_addPocket_64 : decode cX6_addPocket 64 = .ok (.imul, 1) := by decide +kernel
theorem dX6_addPocket_65 : decode cX6_addPocket 65 = .ok (.iadd, 1) := by decide +kernel
theorem dX6_addPocket_66 : decode cX6_addPocket 66 = .ok (.iconst 1, 1) := by decide +kernel
theorem dX6_addPocket_67 : decode cX6_addPocket 67 = .ok (.iadd, 1) := by decide +kernel
theorem dX6_addPocket_68 : decode cX6_addPocket 68 = .ok (.iload_n 2, 1) := by decide +kernel
theorem dX6_addPocket_69 : decode cX6_addPocket 69 = .ok (.iastore, 1) := by decide +kernel
theorem dX6_addPocket_70 : decode cX6_addPocket 70 = .ok (.aload_n 0, 1) := by decide +kernel
theorem dX6_addPocket_71 : decode cX6_addPocket 71 = .ok (.getfield 13, 3) := by decide +kernel
theorem dX6_addPocket_74 : decode cX6_addPocket 74 = .ok (.iconst 1, 1) := by decide +kernel
theorem dX6_addPocket_75 : decode cX6_addPocket 75 = .ok (.dup2, 1) := by decide +kernel
theorem dX6_addPocket_76 : decode cX6_addPocket 76 = .ok (.iaload, 1) := by decide +kernel
theorem dX6_addPocket_77 : decode cX6_addPocket 77 = .ok (.iconst 1, 1) := by decide +kernel
theorem dX6_addPocket_78 : decode cX6_addPocket 78 = .ok (.iadd, 1) := by decide +kernel
theorem dX6_addPocket_79 : decode cX6_addPocket 79 = .ok (.iastore, 1) := by decide +kernel
theorem dX6_addPocket_80 : decode cX6_addPocket 80 = .ok (.iload_n 3, 1) := by decide +kernel
theorem dX6_addPocket_81 : decode cX6_addPocket 81 = .ok (.ireturn, 1) := by decide +kernel
theorem dX6_becomes_0 : decode cX6_becomes 0 = .ok (.aload_n 0, 1) := by decide +kernel
theorem dX6_becomes_1 : decode cX6_becomes 1 = .ok (.getfield 13, 3) := by decide +kernel
theorem dX6_becomes_4 : decode cX6_becomes 4 = .ok (.iload_n 1, 1) := by decide +kernel
theorem dX6_becomes_5 : decode cX6_becomes 5 = .ok (.iaload, 1) := by decide +kernel
theorem dX6_becomes_6 : decode cX6_becomes 6 = .ok (.istore_n 3, 1) := by decide +kernel
theorem dX6_becomes_7 : decode cX6_becomes 7 = .ok (.aload_n 0, 1) := by decide +kernel
theorem dX6_becomes_8 : decode cX6_becomes 8 = .ok (.getfield 13, 3) := by decide +kernel
theorem dX6_becomes_11 : decode cX6_becomes 11 = .ok (.iload_n 1, 1) := by decide +kernel
theorem dX6_becomes_12 : decode cX6_becomes 12 = .ok (.iload_n 2, 1) := by decide +kernel
theorem dX6_becomes_13 : decode cX6_becomes 13 = .ok (.iastore, 1) := by decide +kernel
theorem dX6_becomes_14 : decode cX6_becomes 14 = .ok (.iload_n 3, 1) := by decide +kernel
theorem dX6_becomes_15 : decode cX6_becomes 15 = .ok (.ireturn, 1) := by decide +kernel
theorem dX6_setWide_0 : decode cX6_setWide 0 = .ok (.aload_n 0, 1) := by decide +kernel
theorem dX6_setWide_1 : decode cX6_setWide 1 = .ok (.iload_n 1, 1) := by decide +kernel
theorem dX6_setWide_2 : decode cX6_setWide 2 = .ok (.invokevirtual 73, 3) := by decide +kernel
theorem dX6_setWide_5 : decode cX6_setWide 5 = .ok (.ifCond .eq 27, 3) := by decide +kernel
theorem dX6_setWide_8 : decode cX6_setWide 8 = .ok (.iload_n 2, 1) := by decide +kernel
theorem dX6_setWide_9 : decode cX6_setWide 9 = .ok (.iconst 1, 1) := by decide +kernel
theorem dX6_setWide_10 : decode cX6_setWide 10 = .ok (.bipush 60, 2) := by decide +kernel
theorem dX6_setWide_12 : decode cX6_setWide 12 = .ok (.invokestatic 61, 3) := by decide +kernel
theorem dX6_setWide_15 : decode cX6_setWide 15 = .ok (.ifCond .eq 17, 3) := by decide +kernel
theorem dX6_setWide_18 : decode cX6_setWide 18 = .ok (.aload_n 0, 1) := by decide +kernel
theorem dX6_setWide_19 : decode cX6_setWide 19 = .ok (.bipush 111, 2) := by decide +kernel
theorem dX6_setWide_21 : decode cX6_setWide 21 = .ok (.iconst 2, 1) := by decide +kernel
theorem dX6_setWide_22 : decode cX6_setWide 22 = .ok (.iload_n 1, 1) := by decide +kernel
theorem dX6_setWide_23 : decode cX6_setWide 23 = .ok (.imul, 1) := by decide +kernel
theorem dX6_setWide_24 : decode cX6_setWide 24 = .ok (.iadd, 1) := by decide +kernel
theorem dX6_setWide_25 : decode cX6_setWide 25 = .ok (.iload_n 2, 1) := by decide +kernel
theorem dX6_setWide_26 : decode cX6_setWide 26 = .ok (.invokevirtual 76, 3) := by decide +kernel
theorem dX6_setWide_29 : decode cX6_setWide 29 = .ok (.goto 5, 3) := by decide +kernel
theorem dX6_setWide_32 : decode cX6_setWide 32 = .ok (.bipush (-2), 2) := by decide +kernel
theorem dX6_setWide_34 : decode cX6_setWide 34 = .ok (.ireturn, 1) := by decide +kernel
theorem dX6_setTouch_0 : decode cX6_setTouch 0 = .ok (.aload_n 0, 1) := by decide +kernel
theorem dX6_setTouch_1 : decode cX6_setTouch 1 = .ok (.iload_n 1, 1) := by decide +kernel
theorem dX6_setTouch_2 : decode cX6_setTouch 2 = .ok (.invokevirtual 73, 3) := by decide +kernel
theorem dX6_setTouch_5 : decode cX6_setTouch 5 = .ok (.ifCond .eq 29, 3) := by decide +kernel
theorem dX6_setTouch_8 : decode cX6_setTouch 8 = .ok (.iload_n 2, 1) := by decide +kernel
theorem dX6_setTouch_9 : decode cX6_setTouch 9 = .ok (.iconst 0, 1) := by decide +kernel
theorem dX6_setTouch_10 : decode cX6_setTouch 10 = .ok (.bipush 63, 2) := by decide +kernel
theorem dX6_setTouch_12 : decode cX6_setTouch 12 = .ok (.invokestatic 61, 3) := by decide +kernel
theorem dX6_setTouch_15 : decode cX6_setTouch 15 = .ok (.ifCond .eq 19, 3) := by decide +kernel
theorem dX6_setTouch_18 : decode cX6_setTouch 18 = .ok (.aload_n 0, 1) := by decide +kernel
theorem dX6_setTouch_19 : decode cX6_setTouch 19 = .ok (.bipush 111, 2) := by decide +kernel
theorem dX6_setTouch_21 : decode cX6_setTouch 21 = .ok (.iconst 2, 1) := by decide +kernel
theorem dX6_setTouch_22 : decode cX6_setTouch 22 = .ok (.iload_n 1, 1) := by decide +kernel
theorem dX6_setTouch_23 : decode cX6_setTouch 23 = .ok (.imul, 1) := by decide +kernel
theorem dX6_setTouch_24 : decode cX6_setTouch 24 = .ok (.iadd, 1) := by decide +kernel
theorem dX6_setTouch_25 : decode cX6_setTouch 25 = .ok (.iconst 1, 1) := by decide +kernel
theorem dX6_setTouch_26 : decode cX6_setTouch 26 = .ok (.iadd, 1) := by decide +kernel
theorem dX6_setTouch_27 : decode cX6_setTouch 27 = .ok (.iload_n 2, 1) := by decide +kernel
theorem dX6_setTouch_28 : decode cX6_setTouch 28 = .ok (.invokevirtual 76, 3) := by decide +kernel
theorem dX6_setTouch_31 : decode cX6_setTouch 31 = .ok (.goto 5, 3) := by decide +kernel
theorem dX6_setTouch_34 : decode cX6_setTouch 34 = .ok (.bipush (-2), 2) := by decide +kernel
theorem dX6_setTouch_36 : decode cX6_setTouch 36 = .ok (.ireturn, 1) := by decide +kernel
theorem dX6_leastOf_0 : decode cX6_leastOf 0 = .ok (.iload_n 0, 1) := by decide +kernel
theorem dX6_leastOf_1 : decode cX6_leastOf 1 = .ok (.ifCond .ne 7, 3) := by decide +kernel
theorem dX6_leastOf_4 : decode cX6_leastOf 4 = .ok (.iconst 2, 1) := by decide +kernel
theorem dX6_leastOf_5 : decode cX6_leastOf 5 = .ok (.goto 19, 3) := by decide +kernel
theorem dX6_leastOf_8 : decode cX6_leastOf 8 = .ok (.iload_n 0, 1) := by decide +kernel
theorem dX6_leastOf_9 : decode cX6_leastOf 9 = .ok (.iconst 1, 1) := by decide +kernel
theorem dX6_leastOf_10 : decode cX6_leastOf 10 = .ok (.if_icmp .eq 9, 3) := by decide +kernel
theorem dX6_leastOf_13 : decode cX6_leastOf 13 = .ok (.iload_n 0, 1) := by decide +kernel
theorem dX6_leastOf_14 : decode cX6_leastOf 14 = .ok (.bipush 6, 2) := by decide +kernel
theorem dX6_leastOf_16 : decode cX6_leastOf 16 = .ok (.if_icmp .ne 7, 3) := by decide +kernel
theorem dX6_leastOf_19 : decode cX6_leastOf 19 = .ok (.iconst 1, 1) := by decide +kernel
theorem dX6_leastOf_20 : decode cX6_leastOf 20 = .ok (.goto 4, 3) := by decide +kernel
theorem dX6_leastOf_23 : decode cX6_leastOf 23 = .ok (.iconst 0, 1) := by decide +kernel
theorem dX6_leastOf_24 : decode cX6_leastOf 24 = .ok (.ireturn, 1) := by decide +kernel
theorem dX6_mostOf_0 : decode cX6_mostOf 0 = .ok (.iload_n 0, 1) := by decide +kernel
theorem dX6_mostOf_1 : decode cX6_mostOf 1 = .ok (.ifCond .ne 8, 3) := by decide +kernel
theorem dX6_mostOf_4 : decode cX6_mostOf 4 = .ok (.bipush 12, 2) := by decide +kernel
theorem dX6_mostOf_6 : decode cX6_mostOf 6 = .ok (.goto 54, 3) := by decide +kernel
theorem dX6_mostOf_9 : decode cX6_mostOf 9 = .ok (.iload_n 0, 1) := by decide +kernel
theorem dX6_mostOf_10 : decode cX6_mostOf 10 = .ok (.iconst 1, 1) := by decide +kernel
theorem dX6_mostOf_11 : decode cX6_mostOf 11 = .ok (.if_icmp .ne 7, 3) := by decide +kernel
theorem dX6_mostOf_14 : decode cX6_mostOf 14 = .ok (.iconst 4, 1) := by decide +kernel
theorem dX6_mostOf_15 : decode cX6_mostOf 15 = .ok (.goto 45, 3) := by decide +kernel
theorem dX6_mostOf_18 : decode cX6_mostOf 18 = .ok (.iload_n 0, 1) := by decide +kernel
theorem dX6_mostOf_19 : decode cX6_mostOf 19 = .ok (.iconst 2, 1) := by decide +kernel
theorem dX6_mostOf_20 : decode cX6_mostOf 20 = .ok (.if_icmp .ne 7, 3) := by decide +kernel
theorem dX6_mostOf_23 : decode cX6_mostOf 23 = .ok (.iconst 2, 1) := by decide +kernel
theorem dX6_mostOf_24 : decode cX6_mostOf 24 = .ok (.goto 36, 3) := by decide +kernel
theorem dX6_mostOf_27 : decode cX6_mostOf 27 = .ok (.iload_n 0, 1) := by decide +kernel
theorem dX6_mostOf_28 : decode cX6_mostOf 28 = .ok (.iconst 3, 1) := by decide +kernel
theorem dX6_mostOf_29 : decode cX6_mostOf 29 = .ok (.if_icmp .ne 8, 3) := by decide +kernel
theorem dX6_mostOf_32 : decode cX6_mostOf 32 = .ok (.bipush 20, 2) := by decide +kernel
theorem dX6_mostOf_34 : decode cX6_mostOf 34 = .ok (.goto 26, 3) := by decide +kernel
theorem dX6_mostOf_37 : decode cX6_mostOf 37 = .ok (.iload_n 0, 1) := by decide +kernel
theorem dX6_mostOf_38 : decode cX6_mostOf 38 = .ok (.iconst 4, 1) := by decide +kernel
theorem dX6_mostOf_39 : decode cX6_mostOf 39 = .ok (.if_icmp .ne 9, 3) := by decide +kernel
theorem dX6_mostOf_42 : decode cX6_mostOf 42 = .ok (.sipush 999, 3) := by decide +kernel
theorem dX6_mostOf_45 : decode cX6_mostOf 45 = .ok (.goto 15, 3) := by decide +kernel
theorem dX6_mostOf_48 : decode cX6_mostOf 48 = .ok (.iload_n 0, 1) := by decide +kernel
theorem dX6_mostOf_49 : decode cX6_mostOf 49 = .ok (.iconst 5, 1) := by decide +kernel
theorem dX6_mostOf_50 : decode cX6_mostOf 50 = .ok (.if_icmp .ne 8, 3) := by decide +kernel
theorem dX6_mostOf_53 : decode cX6_mostOf 53 = .ok (.bipush 6, 2) := by decide +kernel
theorem dX6_mostOf_55 : decode cX6_mostOf 55 = .ok (.goto 5, 3) := by decide +kernel
theorem dX6_mostOf_58 : decode cX6_mostOf 58 = .ok (.bipush 9, 2) := by decide +kernel
theorem dX6_mostOf_60 : decode cX6_mostOf 60 = .ok (.ireturn, 1) := by decide +kernel
theorem dX6_setSetting_0 : decode cX6_setSetting 0 = .ok (.iload_n 1, 1) := by decide +kernel
theorem dX6_setSetting_1 : decode cX6_setSetting 1 = .ok (.iconst 0, 1) := by decide +kernel
theorem dX6_setSetting_2 : decode cX6_setSetting 2 = .ok (.bipush 6, 2) := by decide +kernel
theorem dX6_setSetting_4 : decode cX6_setSetting 4 = .ok (.invokestatic 61, 3) := by decide +kernel
theorem dX6_setSetting_7 : decode cX6_setSetting 7 = .ok (.ifCond .eq 29, 3) := by decide +kernel
theorem dX6_setSetting_10 : decode cX6_setSetting 10 = .ok (.iload_n 2, 1) := by decide +kernel
theorem dX6_setSetting_11 : decode cX6_setSetting 11 = .ok (.iload_n 1, 1) := by decide +kernel
theorem dX6_setSetting_12 : decode cX6_setSetting 12 = .ok (.invokestatic 80, 3) := by decide +kernel
theorem dX6_setSetting_15 : decode cX6_setSetting 15 = .ok (.iload_n 1, 1) := by decide +kernel
theorem dX6_setSetting_16 : decode cX6_setSetting 16 = .ok (.invokestatic 83, 3) := by decide +kernel
theorem dX6_setSetting_19 : decode cX6_setSetting 19 = .ok (.invokestatic 61, 3) := by decide +kernel
theorem dX6_setSetting_22 : decode cX6_setSetting 22 = .ok (.ifCond .eq 14, 3) := by decide +kernel
theorem dX6_setSetting_25 : decode cX6_setSetting 25 = .ok (.aload_n 0, 1) := by decide +kernel
theorem dX6_setSetting_26 : decode cX6_setSetting 26 = .ok (.iconst 2, 1) := by decide +kernel
theorem dX6_setSetting_27 : decode cX6_setSetting 27 = .ok (.iload_n 1, 1) := by decide +kernel
theorem dX6_setSetting_28 : decode cX6_setSetting 28 = .ok (.iadd, 1) := by decide +kernel
theorem dX6_setSetting_29 : decode cX6_setSetting 29 = .ok (.iload_n 2, 1) := by decide +kernel
theorem dX6_setSetting_30 : decode cX6_setSetting 30 = .ok (.invokevirtual 76, 3) := by decide +kernel
theorem dX6_setSetting_33 : decode cX6_setSetting 33 = .ok (.goto 5, 3) := by decide +kernel
theorem dX6_setSetting_36 : decode cX6_setSetting 36 = .ok (.bipush (-2), 2) := by decide +kernel
theorem dX6_setSetting_38 : decode cX6_setSetting 38 = .ok (.ireturn, 1) := by decide +kernel
theorem dX6_done_0 : decode cX6_done 0 = .ok (.iload_n 1, 1) := by decide +kernel
theorem dX6_done_1 : decode cX6_done 1 = .ok (.ifCond .ge 9, 3) := by decide +kernel
theorem dX6_done_4 : decode cX6_done 4 = .ok (.aload_n 0, 1) := by decide +kernel
theorem dX6_done_5 : decode cX6_done 5 = .ok (.iload_n 1, 1) := by decide +kernel
theorem dX6_done_6 : decode cX6_done 6 = .ok (.invokevirtual 86, 3) := by decide +kernel
theorem dX6_done_9 : decode cX6_done 9 = .ok (.ireturn, 1) := by decide +kernel
theorem dX6_done_10 : decode cX6_done 10 = .ok (.aload_n 0, 1) := by decide +kernel
theorem dX6_done_11 : decode cX6_done 11 = .ok (.invokevirtual 89, 3) := by decide +kernel
theorem dX6_done_14 : decode cX6_done 14 = .ok (.iload_n 1, 1) := by decide +kernel
theorem dX6_done_15 : decode cX6_done 15 = .ok (.ireturn, 1) := by decide +kernel
theorem dX6_line_0 : decode cX6_line 0 = .ok (.aload_n 0, 1) := by decide +kernel
theorem dX6_line_1 : decode cX6_line 1 = .ok (.iconst 5, 1) := by decide +kernel
theorem dX6_line_2 : decode cX6_line 2 = .ok (.invokevirtual 92, 3) := by decide +kernel
theorem dX6_line_5 : decode cX6_line 5 = .ok (.aload_n 0, 1) := by decide +kernel
theorem dX6_line_6 : decode cX6_line 6 = .ok (.aload_n 0, 1) := by decide +kernel
theorem dX6_line_7 : decode cX6_line 7 = .ok (.iload_n 1, 1) := by decide +kernel
theorem dX6_line_8 : decode cX6_line 8 = .ok (.invokevirtual 95, 3) := by decide +kernel
theorem dX6_line_11 : decode cX6_line 11 = .ok (.invokevirtual 98, 3) := by decide +kernel
theorem dX6_line_14 : decode cX6_line 14 = .ok (.ireturn, 1) := by decide +kernel
theorem dX6_goes_0 : decode cX6_goes 0 = .ok (.aload_n 0, 1) := by decide +kernel
theorem dX6_goes_1 : decode cX6_goes 1 = .ok (.iconst 5, 1) := by decide +kernel
theorem dX6_goes_2 : decode cX6_goes 2 = .ok (.invokevirtual 92, 3) := by decide +kernel
theorem dX6_goes_5 : decode cX6_goes 5 = .ok (.aload_n 0, 1) := by decide +kernel
theorem dX6_goes_6 : decode cX6_goes 6 = .ok (.aload_n 0, 1) := by decide +kernel
theorem dX6_goes_7 : decode cX6_goes 7 = .ok (.iload_n 1, 1) := by decide +kernel
theorem dX6_goes_8 : decode cX6_goes 8 = .ok (.iload_n 2, 1) := by decide +kernel
theorem dX6_goes_9 : decode cX6_goes 9 = .ok (.iload_n 3, 1) := by decide +kernel
theorem dX6_goes_10 : decode cX6_goes 10 = .ok (.invokevirtual 101, 3) := by decide +kernel
theorem dX6_goes_13 : decode cX6_goes 13 = .ok (.invokevirtual 98, 3) := by decide +kernel
theorem dX6_goes_16 : decode cX6_goes 16 = .ok (.ireturn, 1) := by decide +kernel
theorem dX6_shortens_0 : decode cX6_shortens 0 = .ok (.aload_n 0, 1) := by decide +kernel
theorem dX6_shortens_1 : decode cX6_shortens 1 = .ok (.iconst 5, 1) := by decide +kernel
theorem dX6_shortens_2 : decode cX6_shortens 2 = .ok (.invokevirtual 92, 3) := by decide +kernel
theorem dX6_shortens_5 : decode cX6_shortens 5 = .ok (.aload_n 0, 1) := by decide +kernel
theorem dX6_shortens_6 : decode cX6_shortens 6 = .ok (.aload_n 0, 1) := by decide +kernel
theorem dX6_shortens_7 : decode cX6_shortens 7 = .ok (.iload_n 1, 1) := by decide +kernel
theorem dX6_shortens_8 : decode cX6_shortens 8 = .ok (.invokevirtual 105, 3) := by decide +kernel
theorem dX6_shortens_11 : decode cX6_shortens 11 = .ok (.invokevirtual 98, 3) := by decide +kernel
theorem dX6_shortens_14 : decode cX6_shortens 14 = .ok (.ireturn, 1) := by decide +kernel
theorem dX6_pocket_0 : decode cX6_pocket 0 = .ok (.aload_n 0, 1) := by decide +kernel
theorem dX6_pocket_1 : decode cX6_pocket 1 = .ok (.iconst 5, 1) := by decide +kernel
theorem dX6_pocket_2 : decode cX6_pocket 2 = .ok (.invokevirtual 92, 3) := by decide +kernel
theorem dX6_pocket_5 : decode cX6_pocket 5 = .ok (.aload_n 0, 1) := by decide +kernel
theorem dX6_pocket_6 : decode cX6_pocket 6 = .ok (.aload_n 0, 1) := by decide +kernel
theorem dX6_pocket_7 : decode cX6_pocket 7 = .ok (.iload_n 1, 1) := by decide +kernel
theorem dX6_pocket_8 : decode cX6_pocket 8 = .ok (.iload_n 2, 1) := by decide +kernel
theorem dX6_pocket_9 : decode cX6_pocket 9 = .ok (.invokevirtual 108, 3) := by decide +kernel
theorem dX6_pocket_12 : decode cX6_pocket 12 = .ok (.invokevirtual 98, 3) := by decide +kernel
theorem dX6_pocket_15 : decode cX6_pocket 15 = .ok (.ireturn, 1) := by decide +kernel
theorem dX6_widens_0 : decode cX6_widens 0 = .ok (.aload_n 0, 1) := by decide +kernel
theorem dX6_widens_1 : decode cX6_widens 1 = .ok (.iconst 5, 1) := by decide +kernel
theorem dX6_widens_2 : decode cX6_widens 2 = .ok (.invokevirtual 92, 3) := by decide +kernel
theorem dX6_widens_5 : decode cX6_widens 5 = .ok (.aload_n 0, 1) := by decide +kernel
theorem dX6_widens_6 : decode cX6_widens 6 = .ok (.aload_n 0, 1) := by decide +kernel
theorem dX6_widens_7 : decode cX6_widens 7 = .ok (.iload_n 1, 1) := by decide +kernel
theorem dX6_widens_8 : decode cX6_widens 8 = .ok (.iload_n 2, 1) := by decide +kernel
theorem dX6_widens_9 : decode cX6_widens 9 = .ok (.invokevirtual 111, 3) := by decide +kernel
theorem dX6_widens_12 : decode cX6_widens 12 = .ok (.invokevirtual 98, 3) := by decide +kernel
theorem dX6_widens_15 : decode cX6_widens 15 = .ok (.ireturn, 1) := by decide +kernel
theorem dX6_touches_0 : decode cX6_touches 0 = .ok (.aload_n 0, 1) := by decide +kernel
theorem dX6_touches_1 : decode cX6_touches 1 = .ok (.iconst 5, 1) := by decide +kernel
theorem dX6_touches_2 : decode cX6_touches 2 = .ok (.invokevirtual 92, 3) := by decide +kernel
theorem dX6_touches_5 : decode cX6_touches 5 = .ok (.aload_n 0, 1) := by decide +kernel
theorem dX6_touches_6 : decode cX6_touches 6 = .ok (.aload_n 0, 1) := by decide +kernel
theorem dX6_touches_7 : decode cX6_touches 7 = .ok (.iload_n 1, 1) := by decide +kernel
theorem dX6_touches_8 : decode cX6_touches 8 = .ok (.iload_n 2, 1) := by decide +kernel
theorem dX6_touches_9 : decode cX6_touches 9 = .ok (.invokevirtual 114, 3) := by decide +kernel
theorem dX6_touches_12 : decode cX6_touches 12 = .ok (.invokevirtual 98, 3) := by decide +kernel
theorem dX6_touches_15 : decode cX6_touches 15 = .ok (.ireturn, 1) := by decide +kernel
theorem dX6_sets_0 : decode cX6_sets 0 = .ok (.aload_n 0, 1) := by decide +kernel
theorem dX6_sets_1 : decode cX6_sets 1 = .ok (.iconst 5, 1) := by decide +kernel
theorem dX6_sets_2 : decode cX6_sets 2 = .ok (.invokevirtual 92, 3) := by decide +kernel
theorem dX6_sets_5 : decode cX6_sets 5 = .ok (.aload_n 0, 1) := by decide +kernel
theorem dX6_sets_6 : decode cX6_sets 6 = .ok (.aload_n 0, 1) := by decide +kernel
theorem dX6_sets_7 : decode cX6_sets 7 = .ok (.iload_n 1, 1) := by decide +kernel
theorem dX6_sets_8 : decode cX6_sets 8 = .ok (.iload_n 2, 1) := by decide +kernel
theorem dX6_sets_9 : decode cX6_sets 9 = .ok (.invokevirtual 117, 3) := by decide +kernel
theorem dX6_sets_12 : decode cX6_sets 12 = .ok (.invokevirtual 98, 3) := by decide +kernel
theorem dX6_sets_15 : decode cX6_sets 15 = .ok (.ireturn, 1) := by decide +kernel
theorem dX6_base_0 : decode cX6_base 0 = .ok (.iconst 0, 1) := by decide +kernel
theorem dX6_base_1 : decode cX6_base 1 = .ok (.istore_n 2, 1) := by decide +kernel
theorem dX6_base_2 : decode cX6_base 2 = .ok (.iconst 0, 1) := by decide +kernel
theorem dX6_base_3 : decode cX6_base 3 = .ok (.istore_n 3, 1) := by decide +kernel
theorem dX6_base_4 : decode cX6_base 4 = .ok (.iload_n 3, 1) := by decide +kernel
theorem dX6_base_5 : decode cX6_base 5 = .ok (.aload_n 0, 1) := by decide +kernel
theorem dX6_base_6 : decode cX6_base 6 = .ok (.iload_n 1, 1) := by decide +kernel
theorem dX6_base_7 : decode cX6_base 7 = .ok (.invokevirtual 69, 3) := by decide +kernel
theorem dX6_base_10 : decode cX6_base 10 = .ok (.if_icmp .ge 18, 3) := by decide +kernel
theorem dX6_base_13 : decode cX6_base 13 = .ok (.iload_n 2, 1) := by decide +kernel
theorem dX6_base_14 : decode cX6_base 14 = .ok (.aload_n 0, 1) := by decide +kernel
theorem dX6_base_15 : decode cX6_base 15 = .ok (.iload_n 1, 1) := by decide +kernel
theorem dX6_base_16 : decode cX6_base 16 = .ok (.iload_n 3, 1) := by decide +kernel
theorem dX6_base_17 : decode cX6_base 17 = .ok (.invokevirtual 120, 3) := by decide +kernel
theorem dX6_base_20 : decode cX6_base 20 = .ok (.iadd, 1) := by decide +kernel
theorem dX6_base_21 : decode cX6_base 21 = .ok (.istore_n 2, 1) := by decide +kernel
theorem dX6_base_22 : decode cX6_base 22 = .ok (.iinc 3 1, 3) := by decide +kernel
theorem dX6_base_25 : decode cX6_base 25 = .ok (.goto (-21), 3) := by decide +kernel
theorem dX6_base_28 : decode cX6_base 28 = .ok (.iload_n 2, 1) := by decide +kernel
theorem dX6_base_29 : decode cX6_base 29 = .ok (.aload_n 0, 1) := by decide +kernel
theorem dX6_base_30 : decode cX6_base 30 = .ok (.getfield 13, 3) := by decide +kernel
theorem dX6_base_33 : decode cX6_base 33 = .ok (.iconst 4, 1) := by decide +kernel
theorem dX6_base_34 : decode cX6_base 34 = .ok (.iaload, 1) := by decide +kernel
theorem dX6_base_35 : decode cX6_base 35 = .ok (.aload_n 0, 1) := by decide +kernel
theorem dX6_base_36 : decode cX6_base 36 = .ok (.iload_n 1, 1) := by decide +kernel
theorem dX6_base_37 : decode cX6_base 37 = .ok (.invokevirtual 69, 3) := by decide +kernel
theorem dX6_base_40 : decode cX6_base 40 = .ok (.iconst 1, 1) := by decide +kernel
theorem dX6_base_41 : decode cX6_base 41 = .ok (.isub, 1) := by decide +kernel
theorem dX6_base_42 : decode cX6_base 42 = .ok (.imul, 1) := by decide +kernel
theorem dX6_base_43 : decode cX6_base 43 = .ok (.isub, 1) := by decide +kernel
theorem dX6_base_44 : decode cX6_base 44 = .ok (.istore_n 2, 1) := by decide +kernel
theorem dX6_base_45 : decode cX6_base 45 = .ok (.iload_n 2, 1) := by decide +kernel
theorem dX6_base_46 : decode cX6_base 46 = .ok (.ifCond .ge 7, 3) := by decide +kernel
theorem dX6_base_49 : decode cX6_base 49 = .ok (.iconst 0, 1) := by decide +kernel
theorem dX6_base_50 : decode cX6_base 50 = .ok (.goto 4, 3) := by decide +kernel
theorem dX6_base_53 : decode cX6_base 53 = .ok (.iload_n 2, 1) := by decide +kernel
theorem dX6_base_54 : decode cX6_base 54 = .ok (.ireturn, 1) := by decide +kernel
theorem dX6_gain_0 : decode cX6_gain 0 = .ok (.iconst 2, 1) := by decide +kernel
theorem dX6_gain_1 : decode cX6_gain 1 = .ok (.aload_n 0, 1) := by decide +kernel
theorem dX6_gain_2 : decode cX6_gain 2 = .ok (.getfield 13, 3) := by decide +kernel
theorem dX6_gain_5 : decode cX6_gain 5 = .ok (.iconst 2, 1) := by decide +kernel
theorem dX6_gain_6 : decode cX6_gain 6 = .ok (.iaload, 1) := by decide +kernel
theorem dX6_gain_7 : decode cX6_gain 7 = .ok (.aload_n 0, 1) := by decide +kernel
theorem dX6_gain_8 : decode cX6_gain 8 = .ok (.getfield 13, 3) := by decide +kernel
theorem dX6_gain_11 : decode cX6_gain 11 = .ok (.iconst 3, 1) := by decide +kernel
theorem dX6_gain_12 : decode cX6_gain 12 = .ok (.iaload, 1) := by decide +kernel
theorem dX6_gain_13 : decode cX6_gain 13 = .ok (.isub, 1) := by decide +kernel
theorem dX6_gain_14 : decode cX6_gain 14 = .ok (.imul, 1) := by decide +kernel
theorem dX6_gain_15 : decode cX6_gain 15 = .ok (.iconst 4, 1) := by decide +kernel
theorem dX6_gain_16 : decode cX6_gain 16 = .ok (.aload_n 0, 1) := by decide +kernel
theorem dX6_gain_17 : decode cX6_gain 17 = .ok (.getfield 13, 3) := by decide +kernel
theorem dX6_gain_20 : decode cX6_gain 20 = .ok (.iconst 4, 1) := by decide +kernel
theorem dX6_gain_21 : decode cX6_gain 21 = .ok (.iaload, 1) := by decide +kernel
theorem dX6_gain_22 : decode cX6_gain 22 = .ok (.imul, 1) := by decide +kernel
theorem dX6_gain_23 : decode cX6_gain 23 = .ok (.isub, 1) := by decide +kernel
theorem dX6_gain_24 : decode cX6_gain 24 = .ok (.ireturn, 1) := by decide +kernel
theorem dX6_humps_0 : decode cX6_humps 0 = .ok (.aload_n 0, 1) := by decide +kernel
theorem dX6_humps_1 : decode cX6_humps 1 = .ok (.invokevirtual 123, 3) := by decide +kernel
theorem dX6_humps_4 : decode cX6_humps 4 = .ok (.iconst 2, 1) := by decide +kernel
theorem dX6_humps_5 : decode cX6_humps 5 = .ok (.if_icmp .ge 7, 3) := by decide +kernel
theorem dX6_humps_8 : decode cX6_humps 8 = .ok (.iconst 0, 1) := by decide +kernel
theorem dX6_humps_9 : decode cX6_humps 9 = .ok (.goto 30, 3) := by decide +kernel
theorem dX6_humps_12 : decode cX6_humps 12 = .ok (.aload_n 0, 1) := by decide +kernel
theorem dX6_humps_13 : decode cX6_humps 13 = .ok (.getfield 13, 3) := by decide +kernel
theorem dX6_humps_16 : decode cX6_humps 16 = .ok (.bipush 111, 2) := by decide +kernel
theorem dX6_humps_18 : decode cX6_humps 18 = .ok (.iconst 2, 1) := by decide +kernel
theorem dX6_humps_19 : decode cX6_humps 19 = .ok (.iload_n 1, 1) := by decide +kernel
theorem dX6_humps_20 : decode cX6_humps 20 = .ok (.imul, 1) := by decide +kernel
theorem dX6_humps_21 : decode cX6_humps 21 = .ok (.iadd, 1) := by decide +kernel
theorem dX6_humps_22 : decode cX6_humps 22 = .ok (.iaload, 1) := by decide +kernel
theorem dX6_humps_23 : decode cX6_humps 23 = .ok (.aload_n 0, 1) := by decide +kernel
theorem dX6_humps_24 : decode cX6_humps 24 = .ok (.getfield 13, 3) := by decide +kernel
theorem dX6_humps_27 : decode cX6_humps 27 = .ok (.iconst 3, 1) := by decide +kernel
theorem dX6_humps_28 : decode cX6_humps 28 = .ok (.iaload, 1) := by decide +kernel
theorem dX6_humps_29 : decode cX6_humps 29 = .ok (.iadd, 1) := by decide +kernel
theorem dX6_humps_30 : decode cX6_humps 30 = .ok (.iconst 2, 1) := by decide +kernel
theorem dX6_humps_31 : decode cX6_humps 31 = .ok (.aload_n 0, 1) := by decide +kernel
theorem dX6_humps_32 : decode cX6_humps 32 = .ok (.getfield 13, 3) := by decide +kernel
theorem dX6_humps_35 : decode cX6_humps 35 = .ok (.iconst 3, 1) := by decide +kernel
theorem dX6_humps_36 : decode cX6_humps 36 = .ok (.iaload, 1) := by decide +kernel
theorem dX6_humps_37 : decode cX6_humps 37 = .ok (.imul, 1) := by decide +kernel
theorem dX6_humps_38 : decode cX6_humps 38 = .ok (.idiv, 1) := by decide +kernel
theorem dX6_humps_39 : decode cX6_humps 39 = .ok (.ireturn, 1) := by decide +kernel
theorem dX6_lack_0 : decode cX6_lack 0 = .ok (.iload_n 2, 1) := by decide +kernel
theorem dX6_lack_1 : decode cX6_lack 1 = .ok (.aload_n 0, 1) := by decide +kernel
theorem dX6_lack_2 : decode cX6_lack 2 = .ok (.getfield 13, 3) := by decide +kernel
theorem dX6_lack_5 : decode cX6_lack 5 = .ok (.iconst 5, 1) := by decide +kernel
theorem dX6_lack_6 : decode cX6_lack 6 = .ok (.iaload, 1) := by decide +kernel
theorem dX6_lack_7 : decode cX6_lack 7 = .ok (.isub, 1) := by decide +kernel
theorem dX6_lack_8 : decode cX6_lack 8 = .ok (.aload_n 0, 1) := by decide +kernel
theorem dX6_lack_9 : decode cX6_lack 9 = .ok (.iload_n 1, 1) := by decide +kernel
theorem dX6_lack_10 : decode cX6_lack 10 = .ok (.invokevirtual 126, 3) := by decide +kernel
theorem dX6_lack_13 : decode cX6_lack 13 = .ok (.isub, 1) := by decide +kernel
theorem dX6_lack_14 : decode cX6_lack 14 = .ok (.istore_n 3, 1) := by decide +kernel
theorem dX6_lack_15 : decode cX6_lack 15 = .ok (.iload_n 3, 1) := by decide +kernel
theorem dX6_lack_16 : decode cX6_lack 16 = .ok (.ifCond .gt 7, 3) := by decide +kernel
theorem dX6_lack_19 : decode cX6_lack 19 = .ok (.iconst 0, 1) := by decide +kernel
theorem dX6_lack_20 : decode cX6_lack 20 = .ok (.goto 16, 3) := by decide +kernel
theorem dX6_lack_23 : decode cX6_lack 23 = .ok (.iload_n 3, 1) := by decide +kernel
theorem dX6_lack_24 : decode cX6_lack 24 = .ok (.iconst 2, 1) := by decide +kernel
theorem dX6_lack_25 : decode cX6_lack 25 = .ok (.irem, 1) := by decide +kernel
theorem dX6_lack_26 : decode cX6_lack 26 = .ok (.ifCond .ne 7, 3) := by decide +kernel
theorem dX6_lack_29 : decode cX6_lack 29 = .ok (.iload_n 3, 1) := by decide +kernel
theorem dX6_lack_30 : decode cX6_lack 30 = .ok (.goto 6, 3) := by decide +kernel
theorem dX6_lack_33 : decode cX6_lack 33 = .ok (.iload_n 3, 1) := by decide +kernel
theorem dX6_lack_34 : decode cX6_lack 34 = .ok (.iconst 1, 1) := by decide +kernel
theorem dX6_lack_35 : decode cX6_lack 35 = .ok (.iadd, 1) := by decide +kernel
theorem dX6_lack_36 : decode cX6_lack 36 = .ok (.ireturn, 1) := by decide +kernel
theorem dX6_needBy_0 : decode cX6_needBy 0 = .ok (.aload_n 0, 1) := by decide +kernel
theorem dX6_needBy_1 : decode cX6_needBy 1 = .ok (.iload_n 1, 1) := by decide +kernel
theorem dX6_needBy_2 : decode cX6_needBy 2 = .ok (.iload_n 2, 1) := by decide +kernel
theorem dX6_needBy_3 : decode cX6_needBy 3 = .ok (.invokevirtual 129, 3) := by decide +kernel
theorem dX6_needBy_6 : decode cX6_needBy 6 = .ok (.istore_n 3, 1) := by decide +kernel
theorem dX6_needBy_7 : decode cX6_needBy 7 = .ok (.iload_n 3, 1) := by decide +kernel
theorem dX6_needBy_8 : decode cX6_needBy 8 = .ok (.ifCond .ne 7, 3) := by decide +kernel
theorem dX6_needBy_11 : decode cX6_needBy 11 = .ok (.iconst 0, 1) := by decide +kernel
theorem dX6_needBy_12 : decode cX6_needBy 12 = .ok (.goto 30, 3) := by decide +kernel
theorem dX6_needBy_15 : decode cX6_needBy 15 = .ok (.aload_n 0, 1) := by decide +kernel
theorem dX6_needBy_16 : decode cX6_needBy 16 = .ok (.invokevirtual 123, 3) := by decide +kernel
theorem dX6_needBy_19 : decode cX6_needBy 19 = .ok (.iconst 2, 1) := by decide +kernel
theorem dX6_needBy_20 : decode cX6_needBy 20 = .ok (.if_icmp .ge 9, 3) := by decide +kernel
theorem dX6_needBy_23 : decode cX6_needBy 23 = .ok (.sipush 1000, 3) := by decide +kernel
theorem dX6_needBy_26 : decode cX6_needBy 26 = .ok (.goto 16, 3) := by decide +kernel
theorem dX6_needBy_29 : decode cX6_needBy 29 = .ok (.iload_n 3, 1) := by decide +kernel
theorem dX6_needBy_30 : decode cX6_needBy 30 = .ok (.aload_n 0, 1) := by decide +kernel
theorem dX6_needBy_31 : decode cX6_needBy 31 = .ok (.invokevirtual 123, 3) := by decide +kernel
theorem dX6_needBy_34 : decode cX6_needBy 34 = .ok (.iadd, 1) := by decide +kernel
theorem dX6_needBy_35 : decode cX6_needBy 35 = .ok (.iconst 1, 1) := by decide +kernel
theorem dX6_needBy_36 : decode cX6_needBy 36 = .ok (.isub, 1) := by decide +kernel
theorem dX6_needBy_37 : decode cX6_needBy 37 = .ok (.aload_n 0, 1) := by decide +kernel
theorem dX6_needBy_38 : decode cX6_needBy 38 = .ok (.invokevirtual 123, 3) := by decide +kernel
theorem dX6_needBy_41 : decode cX6_needBy 41 = .ok (.idiv, 1) := by decide +kernel
theorem dX6_needBy_42 : decode cX6_needBy 42 = .ok (.ireturn, 1) := by decide +kernel
theorem dX6_pocketsOf_0 : decode cX6_pocketsOf 0 = .ok (.iconst 0, 1) := by decide +kernel
theorem dX6_pocketsOf_1 : decode cX6_pocketsOf 1 = .ok (.istore_n 2, 1) := by decide +kernel
theorem dX6_pocketsOf_2 : decode cX6_pocketsOf 2 = .ok (.iconst 0, 1) := by decide +kernel
theorem dX6_pocketsOf_3 : decode cX6_pocketsOf 3 = .ok (.istore_n 3, 1) := by decide +kernel
theorem dX6_pocketsOf_4 : decode cX6_pocketsOf 4 = .ok (.iload_n 3, 1) := by decide +kernel
theorem dX6_pocketsOf_5 : decode cX6_pocketsOf 5 = .ok (.aload_n 0, 1) := by decide +kernel
theorem dX6_pocketsOf_6 : decode cX6_pocketsOf 6 = .ok (.getfield 13, 3) := by decide +kernel
theorem dX6_pocketsOf_9 : decode cX6_pocketsOf 9 = .ok (.iconst 1, 1) := by decide +kernel
theorem dX6_pocketsOf_10 : decode cX6_pocketsOf 10 = .ok (.iaload, 1) := by decide +kernel
theorem dX6_pocketsOf_11 : decode cX6_pocketsOf 11 = .ok (.if_icmp .ge 31, 3) := by decide +kernel
theorem dX6_pocketsOf_14 : decode cX6_pocketsOf 14 = .ok (.iload_n 2, 1) := by decide +kernel
theorem dX6_pocketsOf_15 : decode cX6_pocketsOf 15 = .ok (.aload_n 0, 1) := by decide +kernel
theorem dX6_pocketsOf_16 : decode cX6_pocketsOf 16 = .ok (.getfield 13, 3) := by decide +kernel
theorem dX6_pocketsOf_19 : decode cX6_pocketsOf 19 = .ok (.bipush 111, 2) := by decide +kernel
theorem dX6_pocketsOf_21 : decode cX6_pocketsOf 21 = .ok (.iconst 2, 1) := by decide +kernel
theorem dX6_pocketsOf_22 : decode cX6_pocketsOf 22 = .ok (.iload_n 3, 1) := by decide +kernel
theorem dX6_pocketsOf_23 : decode cX6_pocketsOf 23 = .ok (.imul, 1) := by decide +kernel
theorem dX6_pocketsOf_24 : decode cX6_pocketsOf 24 = .ok (.iadd, 1) := by decide +kernel
theorem dX6_pocketsOf_25 : decode cX6_pocketsOf 25 = .ok (.iconst 1, 1) := by decide +kernel
theorem dX6_pocketsOf_26 : decode cX6_pocketsOf 26 = .ok (.iadd, 1) := by decide +kernel
theorem dX6_pocketsOf_27 : decode cX6_pocketsOf 27 = .ok (.iaload, 1) := by decide +kernel
theorem dX6_pocketsOf_28 : decode cX6_pocketsOf 28 = .ok (.iload_n 1, 1) := by decide +kernel
theorem dX6_pocketsOf_29 : decode cX6_pocketsOf 29 = .ok (.ishr, 1) := by decide +kernel
theorem dX6_pocketsOf_30 : decode cX6_pocketsOf 30 = .ok (.iconst 1, 1) := by decide +kernel
theorem dX6_pocketsOf_31 : decode cX6_pocketsOf 31 = .ok (.iand, 1) := by decide +kernel
theorem dX6_pocketsOf_32 : decode cX6_pocketsOf 32 = .ok (.iload_n 3, 1) := by decide +kernel
theorem dX6_pocketsOf_33 : decode cX6_pocketsOf 33 = .ok (.ishl, 1) := by decide +kernel
theorem dX6_pocketsOf_34 : decode cX6_pocketsOf 34 = .ok (.ior, 1) := by decide +kernel
theorem dX6_pocketsOf_35 : decode cX6_pocketsOf 35 = .ok (.istore_n 2, 1) := by decide +kernel
theorem dX6_pocketsOf_36 : decode cX6_pocketsOf 36 = .ok (.iinc 3 1, 3) := by decide +kernel
theorem dX6_pocketsOf_39 : decode cX6_pocketsOf 39 = .ok (.goto (-35), 3) := by decide +kernel
theorem dX6_pocketsOf_42 : decode cX6_pocketsOf 42 = .ok (.iload_n 2, 1) := by decide +kernel
theorem dX6_pocketsOf_43 : decode cX6_pocketsOf 43 = .ok (.ireturn, 1) := by decide +kernel
theorem dX6_turns_0 : decode cX6_turns 0 = .ok (.iconst 0, 1) := by decide +kernel
theorem dX6_turns_1 : decode cX6_turns 1 = .ok (.istore_n 3, 1) := by decide +kernel
theorem dX6_turns_2 : decode cX6_turns 2 = .ok (.iconst 1, 1) := by decide +kernel
theorem dX6_turns_3 : decode cX6_turns 3 = .ok (.istore 4, 2) := by decide +kernel
theorem dX6_turns_5 : decode cX6_turns 5 = .ok (.iload 4, 2) := by decide +kernel
theorem dX6_turns_7 : decode cX6_turns 7 = .ok (.aload_n 0, 1) := by decide +kernel
theorem dX6_turns_8 : decode cX6_turns 8 = .ok (.iload_n 1, 1) := by decide +kernel
theorem dX6_turns_9 : decode cX6_turns 9 = .ok (.invokevirtual 69, 3) := by decide +kernel
theorem dX6_turns_12 : decode cX6_turns 12 = .ok (.if_icmp .ge 28, 3) := by decide +kernel
theorem dX6_turns_15 : decode cX6_turns 15 = .ok (.iload_n 3, 1) := by decide +kernel
theorem dX6_turns_16 : decode cX6_turns 16 = .ok (.aload_n 0, 1) := by decide +kernel
theorem dX6_turns_17 : decode cX6_turns 17 = .ok (.iload_n 1, 1) := by decide +kernel
theorem dX6_turns_18 : decode cX6_turns 18 = .ok (.iload 4, 2) := by decide +kernel
theorem dX6_turns_20 : decode cX6_turns 20 = .ok (.invokevirtual 132, 3) := by decide +kernel
theorem dX6_turns_23 : decode cX6_turns 23 = .ok (.iload_n 2, 1) := by decide +kernel
theorem dX6_turns_24 : decode cX6_turns 24 = .ok (.if_icmp .ne 7, 3) := by decide +kernel
theorem dX6_turns_27 : decode cX6_turns 27 = .ok (.iconst 1, 1) := by decide +kernel
theorem dX6_turns_28 : decode cX6_turns 28 = .ok (.goto 4, 3) := by decide +kernel
theorem dX6_turns_31 : decode cX6_turns 31 = .ok (.iconst 0, 1) := by decide +kernel
theorem dX6_turns_32 : decode cX6_turns 32 = .ok (.iadd, 1) := by decide +kernel
theorem dX6_turns_33 : decode cX6_turns 33 = .ok (.istore_n 3, 1) := by decide +kernel
theorem dX6_turns_34 : decode cX6_turns 34 = .ok (.iinc 4 1, 3) := by decide +kernel
theorem dX6_turns_37 : decode cX6_turns 37 = .ok (.goto (-32), 3) := by decide +kernel
theorem dX6_turns_40 : decode cX6_turns 40 = .ok (.iload_n 3, 1) := by decide +kernel
theorem dX6_turns_41 : decode cX6_turns 41 = .ok (.ireturn, 1) := by decide +kernel
theorem dX6_toldLine_0 : decode cX6_toldLine 0 = .ok (.iload_n 2, 1) := by decide +kernel
theorem dX6_toldLine_1 : decode cX6_toldLine 1 = .ok (.tableswitch 90 0 5 #[39, 45, 51, 64, 77, 83], 39) := by decide +kernel
theorem dX6_toldLine_40 : decode cX6_toldLine 40 = .ok (.aload_n 0, 1) := by decide +kernel
theorem dX6_toldLine_41 : decode cX6_toldLine 41 = .ok (.iload_n 1, 1) := by decide +kernel
theorem dX6_toldLine_42 : decode cX6_toldLine 42 = .ok (.invokevirtual 69, 3) := by decide +kernel
theorem dX6_toldLine_45 : decode cX6_toldLine 45 = .ok (.ireturn, 1) := by decide +kernel
theorem dX6_toldLine_46 : decode cX6_toldLine 46 = .ok (.aload_n 0, 1) := by decide +kernel
theorem dX6_toldLine_47 : decode cX6_toldLine 47 = .ok (.iload_n 1, 1) := by decide +kernel
theorem dX6_toldLine_48 : decode cX6_toldLine 48 = .ok (.invokevirtual 126, 3) := by decide +kernel
theorem dX6_toldLine_51 : decode cX6_toldLine 51 = .ok (.ireturn, 1) := by decide +kernel
theorem dX6_toldLine_52 : decode cX6_toldLine 52 = .ok (.aload_n 0, 1) := by decide +kernel
theorem dX6_toldLine_53 : decode cX6_toldLine 53 = .ok (.iload_n 1, 1) := by decide +kernel
theorem dX6_toldLine_54 : decode cX6_toldLine 54 = .ok (.aload_n 0, 1) := by decide +kernel
theorem dX6_toldLine_55 : decode cX6_toldLine 55 = .ok (.getfield 13, 3) := by decide +kernel
theorem dX6_toldLine_58 : decode cX6_toldLine 58 = .ok (.bipush 6, 2) := by decide +kernel
theorem dX6_toldLine_60 : decode cX6_toldLine 60 = .ok (.iaload, 1) := by decide +kernel
theorem dX6_toldLine_61 : decode cX6_toldLine 61 = .ok (.invokevirtual 129, 3) := by decide +kernel
theorem dX6_toldLine_64 : decode cX6_toldLine 64 = .ok (.ireturn, 1) := by decide +kernel
theorem dX6_toldLine_65 : decode cX6_toldLine 65 = .ok (.aload_n 0, 1) := by decide +kernel
theorem dX6_toldLine_66 : decode cX6_toldLine 66 = .ok (.iload_n 1, 1) := by decide +kernel
theorem dX6_toldLine_67 : decode cX6_toldLine 67 = .ok (.aload_n 0, 1) := by decide +kernel
theorem dX6_toldLine_68 : decode cX6_toldLine 68 = .ok (.getfield 13, 3) := by decide +kernel
theorem dX6_toldLine_71 : decode cX6_toldLine 71 = .ok (.bipush 6, 2) := by decide +kernel
theorem dX6_toldLine_73 : decode cX6_toldLine 73 = .ok (.iaload, 1) := by decide +kernel
theorem dX6_toldLine_74 : decode cX6_toldLine 74 = .ok (.invokevirtual 135, 3) := by decide +kernel
theorem dX6_toldLine_77 : decode cX6_toldLine 77 = .ok (.ireturn, 1) := by decide +kernel
theorem dX6_toldLine_78 : decode cX6_toldLine 78 = .ok (.aload_n 0, 1) := by decide +kernel
theorem dX6_toldLine_79 : decode cX6_toldLine 79 = .ok (.iload_n 1, 1) := by decide +kernel
theorem dX6_toldLine_80 : decode cX6_toldLine 80 = .ok (.invokevirtual 138, 3) := by decide +kernel
theorem dX6_toldLine_83 : decode cX6_toldLine 83 = .ok (.ireturn, 1) := by decide +kernel
theorem dX6_toldLine_84 : decode cX6_toldLine 84 = .ok (.aload_n 0, 1) := by decide +kernel
theorem dX6_toldLine_85 : decode cX6_toldLine 85 = .ok (.iload_n 1, 1) := by decide +kernel
theorem dX6_toldLine_86 : decode cX6_toldLine 86 = .ok (.iconst 1, 1) := by decide +kernel
theorem dX6_toldLine_87 : decode cX6_toldLine 87 = .ok (.invokevirtual 141, 3) := by decide +kernel
theorem dX6_toldLine_90 : decode cX6_toldLine 90 = .ok (.ireturn, 1) := by decide +kernel
theorem dX6_toldLine_91 : decode cX6_toldLine 91 = .ok (.aload_n 0, 1) := by decide +kernel
theorem dX6_toldLine_92 : decode cX6_toldLine 92 = .ok (.iload_n 1, 1) := by decide +kernel
theorem dX6_toldLine_93 : decode cX6_toldLine 93 = .ok (.iconst 0, 1) := by decide +kernel
theorem dX6_toldLine_94 : decode cX6_toldLine 94 = .ok (.invokevirtual 141, 3) := by decide +kernel
theorem dX6_toldLine_97 : decode cX6_toldLine 97 = .ok (.ireturn, 1) := by decide +kernel
theorem dX6_of_0 : decode cX6_of 0 = .ok (.aload_n 0, 1) := by decide +kernel
theorem dX6_of_1 : decode cX6_of 1 = .ok (.iload_n 1, 1) := by decide +kernel
theorem dX6_of_2 : decode cX6_of 2 = .ok (.invokevirtual 65, 3) := by decide +kernel
theorem dX6_of_5 : decode cX6_of 5 = .ok (.ifCond .eq 22, 3) := by decide +kernel
theorem dX6_of_8 : decode cX6_of 8 = .ok (.iload_n 2, 1) := by decide +kernel
theorem dX6_of_9 : decode cX6_of 9 = .ok (.iconst 0, 1) := by decide +kernel
theorem dX6_of_10 : decode cX6_of 10 = .ok (.bipush 6, 2) := by decide +kernel
theorem dX6_of_12 : decode cX6_of 12 = .ok (.invokestatic 61, 3) := by decide +kernel
theorem dX6_of_15 : decode cX6_of 15 = .ok (.ifCond .eq 12, 3) := by decide +kernel
theorem dX6_of_18 : decode cX6_of 18 = .ok (.aload_n 0, 1) := by decide +kernel
theorem dX6_of_19 : decode cX6_of 19 = .ok (.iload_n 1, 1) := by decide +kernel
theorem dX6_of_20 : decode cX6_of 20 = .ok (.iload_n 2, 1) := by decide +kernel
theorem dX6_of_21 : decode cX6_of 21 = .ok (.invokevirtual 144, 3) := by decide +kernel
theorem dX6_of_24 : decode cX6_of 24 = .ok (.goto 7, 3) := by decide +kernel
theorem dX6_of_27 : decode cX6_of 27 = .ok (.aload_n 0, 1) := by decide +kernel
theorem dX6_of_28 : decode cX6_of 28 = .ok (.invokevirtual 43, 3) := by decide +kernel
theorem dX6_of_31 : decode cX6_of 31 = .ok (.ireturn, 1) := by decide +kernel
theorem dX6_toldRun_0 : decode cX6_toldRun 0 = .ok (.iload_n 3, 1) := by decide +kernel
theorem dX6_toldRun_1 : decode cX6_toldRun 1 = .ok (.ifCond .ne 12, 3) := by decide +kernel
theorem dX6_toldRun_4 : decode cX6_toldRun 4 = .ok (.aload_n 0, 1) := by decide +kernel
theorem dX6_toldRun_5 : decode cX6_toldRun 5 = .ok (.iload_n 1, 1) := by decide +kernel
theorem dX6_toldRun_6 : decode cX6_toldRun 6 = .ok (.iload_n 2, 1) := by decide +kernel
theorem dX6_toldRun_7 : decode cX6_toldRun 7 = .ok (.invokevirtual 120, 3) := by decide +kernel
theorem dX6_toldRun_10 : decode cX6_toldRun 10 = .ok (.goto 39, 3) := by decide +kernel
theorem dX6_toldRun_13 : decode cX6_toldRun 13 = .ok (.iload_n 3, 1) := by decide +kernel
theorem dX6_toldRun_14 : decode cX6_toldRun 14 = .ok (.iconst 1, 1) := by decide +kernel
theorem dX6_toldRun_15 : decode cX6_toldRun 15 = .ok (.if_icmp .ne 20, 3) := by decide +kernel
theorem dX6_toldRun_18 : decode cX6_toldRun 18 = .ok (.iload_n 2, 1) := by decide +kernel
theorem dX6_toldRun_19 : decode cX6_toldRun 19 = .ok (.ifCond .ne 7, 3) := by decide +kernel
theorem dX6_toldRun_22 : decode cX6_toldRun 22 = .ok (.iconst (-1), 1) := by decide +kernel
theorem dX6_toldRun_23 : decode cX6_toldRun 23 = .ok (.goto 26, 3) := by decide +kernel
theorem dX6_toldRun_26 : decode cX6_toldRun 26 = .ok (.aload_n 0, 1) := by decide +kernel
theorem dX6_toldRun_27 : decode cX6_toldRun 27 = .ok (.iload_n 1, 1) := by decide +kernel
theorem dX6_toldRun_28 : decode cX6_toldRun 28 = .ok (.iload_n 2, 1) := by decide +kernel
theorem dX6_toldRun_29 : decode cX6_toldRun 29 = .ok (.invokevirtual 132, 3) := by decide +kernel
theorem dX6_toldRun_32 : decode cX6_toldRun 32 = .ok (.goto 17, 3) := by decide +kernel
theorem dX6_toldRun_35 : decode cX6_toldRun 35 = .ok (.aload_n 0, 1) := by decide +kernel
theorem dX6_toldRun_36 : decode cX6_toldRun 36 = .ok (.iload_n 1, 1) := by decide +kernel
theorem dX6_toldRun_37 : decode cX6_toldRun 37 = .ok (.iload_n 2, 1) := by decide +kernel
theorem dX6_toldRun_38 : decode cX6_toldRun 38 = .ok (.invokevirtual 120, 3) := by decide +kernel
theorem dX6_toldRun_41 : decode cX6_toldRun 41 = .ok (.aload_n 0, 1) := by decide +kernel
theorem dX6_toldRun_42 : decode cX6_toldRun 42 = .ok (.getfield 13, 3) := by decide +kernel
theorem dX6_toldRun_45 : decode cX6_toldRun 45 = .ok (.bipush 8, 2) := by decide +kernel
theorem dX6_toldRun_47 : decode cX6_toldRun 47 = .ok (.iaload, 1) := by decide +kernel
theorem dX6_toldRun_48 : decode cX6_toldRun 48 = .ok (.idiv, 1) := by decide +kernel
theorem dX6_toldRun_49 : decode cX6_toldRun 49 = .ok (.ireturn, 1) := by decide +kernel
theorem dX6_isRun_0 : decode cX6_isRun 0 = .ok (.aload_n 0, 1) := by decide +kernel
theorem dX6_isRun_1 : decode cX6_isRun 1 = .ok (.iload_n 1, 1) := by decide +kernel
theorem dX6_isRun_2 : decode cX6_isRun 2 = .ok (.invokevirtual 65, 3) := by decide +kernel
theorem dX6_isRun_5 : decode cX6_isRun 5 = .ok (.ifCond .eq 22, 3) := by decide +kernel
theorem dX6_isRun_8 : decode cX6_isRun 8 = .ok (.iload_n 2, 1) := by decide +kernel
theorem dX6_isRun_9 : decode cX6_isRun 9 = .ok (.iconst 0, 1) := by decide +kernel
theorem dX6_isRun_10 : decode cX6_isRun 10 = .ok (.aload_n 0, 1) := by decide +kernel
theorem dX6_isRun_11 : decode cX6_isRun 11 = .ok (.iload_n 1, 1) := by decide +kernel
theorem dX6_isRun_12 : decode cX6_isRun 12 = .ok (.invokevirtual 69, 3) := by decide +kernel
theorem dX6_isRun_15 : decode cX6_isRun 15 = .ok (.iconst 1, 1) := by decide +kernel
theorem dX6_isRun_16 : decode cX6_isRun 16 = .ok (.isub, 1) := by decide +kernel
theorem dX6_isRun_17 : decode cX6_isRun 17 = .ok (.invokestatic 61, 3) := by decide +kernel
theorem dX6_isRun_20 : decode cX6_isRun 20 = .ok (.ifCond .eq 7, 3) := by decide +kernel
theorem dX6_isRun_23 : decode cX6_isRun 23 = .ok (.iconst 1, 1) := by decide +kernel
theorem dX6_isRun_24 : decode cX6_isRun 24 = .ok (.goto 4, 3) := by decide +kernel
theorem dX6_isRun_27 : decode cX6_isRun 27 = .ok (.iconst 0, 1) := by decide +kernel
theorem dX6_isRun_28 : decode cX6_isRun 28 = .ok (.ireturn, 1) := by decide +kernel
theorem dX6_run_0 : decode cX6_run 0 = .ok (.aload_n 0, 1) := by decide +kernel
theorem dX6_run_1 : decode cX6_run 1 = .ok (.iload_n 1, 1) := by decide +kernel
theorem dX6_run_2 : decode cX6_run 2 = .ok (.iload_n 2, 1) := by decide +kernel
theorem dX6_run_3 : decode cX6_run 3 = .ok (.invokevirtual 147, 3) := by decide +kernel
theorem dX6_run_6 : decode cX6_run 6 = .ok (.ifCond .eq 22, 3) := by decide +kernel
theorem dX6_run_9 : decode cX6_run 9 = .ok (.iload_n 3, 1) := by decide +kernel
theorem dX6_run_10 : decode cX6_run 10 = .ok (.iconst 0, 1) := by decide +kernel
theorem dX6_run_11 : decode cX6_run 11 = .ok (.iconst 2, 1) := by decide +kernel
theorem dX6_run_12 : decode cX6_run 12 = .ok (.invokestatic 61, 3) := by decide +kernel
theorem dX6_run_15 : decode cX6_run 15 = .ok (.ifCond .eq 13, 3) := by decide +kernel
theorem dX6_run_18 : decode cX6_run 18 = .ok (.aload_n 0, 1) := by decide +kernel
theorem dX6_run_19 : decode cX6_run 19 = .ok (.iload_n 1, 1) := by decide +kernel
theorem dX6_run_20 : decode cX6_run 20 = .ok (.iload_n 2, 1) := by decide +kernel
theorem dX6_run_21 : decode cX6_run 21 = .ok (.iload_n 3, 1) := by decide +kernel
theorem dX6_run_22 : decode cX6_run 22 = .ok (.invokevirtual 151, 3) := by decide +kernel
theorem dX6_run_25 : decode cX6_run 25 = .ok (.goto 7, 3) := by decide +kernel
theorem dX6_run_28 : decode cX6_run 28 = .ok (.aload_n 0, 1) := by decide +kernel
theorem dX6_run_29 : decode cX6_run 29 = .ok (.invokevirtual 43, 3) := by decide +kernel
theorem dX6_run_32 : decode cX6_run 32 = .ok (.ireturn, 1) := by decide +kernel
theorem dX6_lays_0 : decode cX6_lays 0 = .ok (.iconst 1, 1) := by decide +kernel
theorem dX6_lays_1 : decode cX6_lays 1 = .ok (.istore_n 2, 1) := by decide +kernel
theorem dX6_lays_2 : decode cX6_lays 2 = .ok (.iconst 0, 1) := by decide +kernel
theorem dX6_lays_3 : decode cX6_lays 3 = .ok (.istore_n 3, 1) := by decide +kernel
theorem dX6_lays_4 : decode cX6_lays 4 = .ok (.iload_n 3, 1) := by decide +kernel
theorem dX6_lays_5 : decode cX6_lays 5 = .ok (.aload_n 0, 1) := by decide +kernel
theorem dX6_lays_6 : decode cX6_lays 6 = .ok (.getfield 13, 3) := by decide +kernel
theorem dX6_lays_9 : decode cX6_lays 9 = .ok (.iconst 0, 1) := by decide +kernel
theorem dX6_lays_10 : decode cX6_lays 10 = .ok (.iaload, 1) := by decide +kernel
theorem dX6_lays_11 : decode cX6_lays 11 = .ok (.if_icmp .ge 51, 3) := by decide +kernel
theorem dX6_lays_14 : decode cX6_lays 14 = .ok (.aload_n 0, 1) := by decide +kernel
theorem dX6_lays_15 : decode cX6_lays 15 = .ok (.getfield 19, 3) := by decide +kernel
theorem dX6_lays_18 : decode cX6_lays 18 = .ok (.iload_n 3, 1) := by decide +kernel
theorem dX6_lays_19 : decode cX6_lays 19 = .ok (.aload_n 0, 1) := by decide +kernel
theorem dX6_lays_20 : decode cX6_lays 20 = .ok (.iload_n 3, 1) := by decide +kernel
theorem dX6_lays_21 : decode cX6_lays 21 = .ok (.iload_n 1, 1) := by decide +kernel
theorem dX6_lays_22 : decode cX6_lays 22 = .ok (.invokevirtual 135, 3) := by decide +kernel
theorem dX6_lays_25 : decode cX6_lays 25 = .ok (.iastore, 1) := by decide +kernel
theorem dX6_lays_26 : decode cX6_lays 26 = .ok (.aload_n 0, 1) := by decide +kernel
theorem dX6_lays_27 : decode cX6_lays 27 = .ok (.getfield 25, 3) := by decide +kernel
theorem dX6_lays_30 : decode cX6_lays 30 = .ok (.iload_n 3, 1) := by decide +kernel
theorem dX6_lays_31 : decode cX6_lays 31 = .ok (.aload_n 0, 1) := by decide +kernel
theorem dX6_lays_32 : decode cX6_lays 32 = .ok (.iload_n 3, 1) := by decide +kernel
theorem dX6_lays_33 : decode cX6_lays 33 = .ok (.invokevirtual 138, 3) := by decide +kernel
theorem dX6_lays_36 : decode cX6_lays 36 = .ok (.iastore, 1) := by decide +kernel
theorem dX6_lays_37 : decode cX6_lays 37 = .ok (.iload_n 2, 1) := by decide +kernel
theorem dX6_lays_38 : decode cX6_lays 38 = .ok (.ifCond .eq 16, 3) := by decide +kernel
theorem dX6_lays_41 : decode cX6_lays 41 = .ok (.aload_n 0, 1) := by decide +kernel
theorem dX6_lays_42 : decode cX6_lays 42 = .ok (.iload_n 3, 1) := by decide +kernel
theorem dX6_lays_43 : decode cX6_lays 43 = .ok (.invokevirtual 126, 3) := by decide +kernel
theorem dX6_lays_46 : decode cX6_lays 46 = .ok (.iload_n 1, 1) := by decide +kernel
theorem dX6_lays_47 : decode cX6_lays 47 = .ok (.if_icmp .gt 7, 3) := by decide +kernel
theorem dX6_lays_50 : decode cX6_lays 50 = .ok (.iconst 1, 1) := by decide +kernel
theorem dX6_lays_51 : decode cX6_lays 51 = .ok (.goto 4, 3) := by decide +kernel
theorem dX6_lays_54 : decode cX6_lays 54 = .ok (.iconst 0, 1) := by decide +kernel
theorem dX6_lays_55 : decode cX6_lays 55 = .ok (.istore_n 2, 1) := by decide +kernel
theorem dX6_lays_56 : decode cX6_lays 56 = .ok (.iinc 3 1, 3) := by decide +kernel
theorem dX6_lays_59 : decode cX6_lays 59 = .ok (.goto (-55), 3) := by decide +kernel
theorem dX6_lays_62 : decode cX6_lays 62 = .ok (.iconst 0, 1) := by decide +kernel
theorem dX6_lays_63 : decode cX6_lays 63 = .ok (.istore_n 3, 1) := by decide +kernel
theorem dX6_lays_64 : decode cX6_lays 64 = .ok (.iload_n 3, 1) := by decide +kernel
theorem dX6_lays_65 : decode cX6_lays 65 = .ok (.aload_n 0, 1) := by decide +kernel
theorem dX6_lays_66 : decode cX6_lays 66 = .ok (.getfield 13, 3) := by decide +kernel
theorem dX6_lays_69 : decode cX6_lays 69 = .ok (.iconst 1, 1) := by decide +kernel
theorem dX6_lays_70 : decode cX6_lays 70 = .ok (.iaload, 1) := by decide +kernel
theorem dX6_lays_71 : decode cX6_lays 71 = .ok (.if_icmp .ge 20, 3) := by decide +kernel
theorem dX6_lays_74 : decode cX6_lays 74 = .ok (.aload_n 0, 1) := by decide +kernel
theorem dX6_lays_75 : decode cX6_lays 75 = .ok (.getfield 22, 3) := by decide +kernel
theorem dX6_lays_78 : decode cX6_lays 78 = .ok (.iload_n 3, 1) := by decide +kernel
theorem dX6_lays_79 : decode cX6_lays 79 = .ok (.aload_n 0, 1) := by decide +kernel
theorem dX6_lays_80 : decode cX6_lays 80 = .ok (.iload_n 3, 1) := by decide +kernel
theorem dX6_lays_81 : decode cX6_lays 81 = .ok (.invokevirtual 154, 3) := by decide +kernel
theorem dX6_lays_84 : decode cX6_lays 84 = .ok (.iastore, 1) := by decide +kernel
theorem dX6_lays_85 : decode cX6_lays 85 = .ok (.iinc 3 1, 3) := by decide +kernel
theorem dX6_lays_88 : decode cX6_lays 88 = .ok (.goto (-24), 3) := by decide +kernel
theorem dX6_lays_91 : decode cX6_lays 91 = .ok (.iload_n 2, 1) := by decide +kernel
theorem dX6_lays_92 : decode cX6_lays 92 = .ok (.ireturn, 1) := by decide +kernel
theorem dX6_isEnough_0 : decode cX6_isEnough 0 = .ok (.iconst 0, 1) := by decide +kernel
theorem dX6_isEnough_1 : decode cX6_isEnough 1 = .ok (.istore_n 2, 1) := by decide +kernel
theorem dX6_isEnough_2 : decode cX6_isEnough 2 = .ok (.iconst 0, 1) := by decide +kernel
theorem dX6_isEnough_3 : decode cX6_isEnough 3 = .ok (.istore_n 3, 1) := by decide +kernel
theorem dX6_isEnough_4 : decode cX6_isEnough 4 = .ok (.iconst 0, 1) := by decide +kernel
theorem dX6_isEnough_5 : decode cX6_isEnough 5 = .ok (.istore 4, 2) := by decide +kernel
theorem dX6_isEnough_7 : decode cX6_isEnough 7 = .ok (.iload 4, 2) := by decide +kernel
theorem dX6_isEnough_9 : decode cX6_isEnough 9 = .ok (.aload_n 0, 1) := by decide +kernel
theorem dX6_isEnough_10 : decode cX6_isEnough 10 = .ok (.getfield 13, 3) := by decide +kernel
theorem dX6_isEnough_13 : decode cX6_isEnough 13 = .ok (.iconst 0, 1) := by decide +kernel
theorem dX6_isEnough_14 : decode cX6_isEnough 14 = .ok (.iaload, 1) := by decide +kernel
theorem dX6_isEnough_15 : decode cX6_isEnough 15 = .ok (.if_icmp .ge 39, 3) := by decide +kernel
theorem dX6_isEnough_18 : decode cX6_isEnough 18 = .ok (.iload_n 1, 1) := by decide +kernel
theorem dX6_isEnough_19 : decode cX6_isEnough 19 = .ok (.iload 4, 2) := by decide +kernel
theorem dX6_isEnough_21 : decode cX6_isEnough 21 = .ok (.ishr, 1) := by decide +kernel
theorem dX6_isEnough_22 : decode cX6_isEnough 22 = .ok (.iconst 1, 1) := by decide +kernel
theorem dX6_isEnough_23 : decode cX6_isEnough 23 = .ok (.iand, 1) := by decide +kernel
theorem dX6_isEnough_24 : decode cX6_isEnough 24 = .ok (.iconst 1, 1) := by decide +kernel
theorem dX6_isEnough_25 : decode cX6_isEnough 25 = .ok (.if_icmp .ne 23, 3) := by decide +kernel
theorem dX6_isEnough_28 : decode cX6_isEnough 28 = .ok (.iload_n 3, 1) := by decide +kernel
theorem dX6_isEnough_29 : decode cX6_isEnough 29 = .ok (.aload_n 0, 1) := by decide +kernel
theorem dX6_isEnough_30 : decode cX6_isEnough 30 = .ok (.getfield 19, 3) := by decide +kernel
theorem dX6_isEnough_33 : decode cX6_isEnough 33 = .ok (.iload 4, 2) := by decide +kernel
theorem dX6_isEnough_35 : decode cX6_isEnough 35 = .ok (.iaload, 1) := by decide +kernel
theorem dX6_isEnough_36 : decode cX6_isEnough 36 = .ok (.iadd, 1) := by decide +kernel
theorem dX6_isEnough_37 : decode cX6_isEnough 37 = .ok (.istore_n 3, 1) := by decide +kernel
theorem dX6_isEnough_38 : decode cX6_isEnough 38 = .ok (.iload_n 2, 1) := by decide +kernel
theorem dX6_isEnough_39 : decode cX6_isEnough 39 = .ok (.aload_n 0, 1) := by decide +kernel
theorem dX6_isEnough_40 : decode cX6_isEnough 40 = .ok (.getfield 25, 3) := by decide +kernel
theorem dX6_isEnough_43 : decode cX6_isEnough 43 = .ok (.iload 4, 2) := by decide +kernel
theorem dX6_isEnough_45 : decode cX6_isEnough 45 = .ok (.iaload, 1) := by decide +kernel
theorem dX6_isEnough_46 : decode cX6_isEnough 46 = .ok (.ior, 1) := by decide +kernel
theorem dX6_isEnough_47 : decode cX6_isEnough 47 = .ok (.istore_n 2, 1) := by decide +kernel
theorem dX6_isEnough_48 : decode cX6_isEnough 48 = .ok (.iinc 4 1, 3) := by decide +kernel
theorem dX6_isEnough_51 : decode cX6_isEnough 51 = .ok (.goto (-44), 3) := by decide +kernel
theorem dX6_isEnough_54 : decode cX6_isEnough 54 = .ok (.iconst 0, 1) := by decide +kernel
theorem dX6_isEnough_55 : decode cX6_isEnough 55 = .ok (.istore 4, 2) := by decide +kernel
theorem dX6_isEnough_57 : decode cX6_isEnough 57 = .ok (.iload 4, 2) := by decide +kernel
theorem dX6_isEnough_59 : decode cX6_isEnough 59 = .ok (.aload_n 0, 1) := by decide +kernel
theorem dX6_isEnough_60 : decode cX6_isEnough 60 = .ok (.getfield 13, 3) := by decide +kernel
theorem dX6_isEnough_63 : decode cX6_isEnough 63 = .ok (.iconst 1, 1) := by decide +kernel
theorem dX6_isEnough_64 : decode cX6_isEnough 64 = .ok (.iaload, 1) := by decide +kernel
theorem dX6_isEnough_65 : decode cX6_isEnough 65 = .ok (.if_icmp .ge 33, 3) := by decide +kernel
theorem dX6_isEnough_68 : decode cX6_isEnough 68 = .ok (.iload_n 3, 1) := by decide +kernel
theorem dX6_isEnough_69 : decode cX6_isEnough 69 = .ok (.iload_n 2, 1) := by decide +kernel
theorem dX6_isEnough_70 : decode cX6_isEnough 70 = .ok (.iload 4, 2) := by decide +kernel
theorem dX6_isEnough_72 : decode cX6_isEnough 72 = .ok (.ishr, 1) := by decide +kernel
theorem dX6_isEnough_73 : decode cX6_isEnough 73 = .ok (.iconst 1, 1) := by decide +kernel
theorem dX6_isEnough_74 : decode cX6_isEnough 74 = .ok (.iand, 1) := by decide +kernel
theorem dX6_isEnough_75 : decode cX6_isEnough 75 = .ok (.iconst 1, 1) := by decide +kernel
theorem dX6_isEnough_76 : decode cX6_isEnough 76 = .ok (.if_icmp .ne 13, 3) := by decide +kernel
theorem dX6_isEnough_79 : decode cX6_isEnough 79 = .ok (.aload_n 0, 1) := by decide +kernel
theorem dX6_isEnough_80 : decode cX6_isEnough 80 = .ok (.getfield 22, 3) := by decide +kernel
theorem dX6_isEnough_83 : decode cX6_isEnough 83 = .ok (.iload 4, 2) := by decide +kernel
theorem dX6_isEnough_85 : decode cX6_isEnough 85 = .ok (.iaload, 1) := by decide +kernel
theorem dX6_isEnough_86 : decode cX6_isEnough 86 = .ok (.goto 4, 3) := by decide +kernel
theorem dX6_isEnough_89 : decode cX6_isEnough 89 = .ok (.iconst 0, 1) := by decide +kernel
theorem dX6_isEnough_90 : decode cX6_isEnough 90 = .ok (.isub, 1) := by decide +kernel
theorem dX6_isEnough_91 : decode cX6_isEnough 91 = .ok (.istore_n 3, 1) := by decide +kernel
theorem dX6_isEnough_92 : decode cX6_isEnough 92 = .ok (.iinc 4 1, 3) := by decide +kernel
theorem dX6_isEnough_95 : decode cX6_isEnough 95 = .ok (.goto (-38), 3) := by decide +kernel
theorem dX6_isEnough_98 : decode cX6_isEnough 98 = .ok (.iload_n 3, 1) := by decide +kernel
theorem dX6_isEnough_99 : decode cX6_isEnough 99 = .ok (.ifCond .gt 7, 3) := by decide +kernel
theorem dX6_isEnough_102 : decode cX6_isEnough 102 = .ok (.iconst 1, 1) := by decide +kernel
theorem dX6_isEnough_103 : decode cX6_isEnough 103 = .ok (.goto 4, 3) := by decide +kernel
theorem dX6_isEnough_106 : decode cX6_isEnough 106 = .ok (.iconst 0, 1) := by decide +kernel
theorem dX6_isEnough_107 : decode cX6_isEnough 107 = .ok (.ireturn, 1) := by decide +kernel
theorem dX6_areEnough_0 : decode cX6_areEnough 0 = .ok (.iconst 1, 1) := by decide +kernel
theorem dX6_areEnough_1 : decode cX6_areEnough 1 = .ok (.istore_n 1, 1) := by decide +kernel
theorem dX6_areEnough_2 : decode cX6_areEnough 2 = .ok (.iconst 1, 1) := by decide +kernel
theorem dX6_areEnough_3 : decode cX6_areEnough 3 = .ok (.istore_n 2, 1) := by decide +kernel
theorem dX6_areEnough_4 : decode cX6_areEnough 4 = .ok (.iload_n 2, 1) := by decide +kernel
theorem dX6_areEnough_5 : decode cX6_areEnough 5 = .ok (.iconst 1, 1) := by decide +kernel
theorem dX6_areEnough_6 : decode cX6_areEnough 6 = .ok (.aload_n 0, 1) := by decide +kernel
theorem dX6_areEnough_7 : decode cX6_areEnough 7 = .ok (.getfield 13, 3) := by decide +kernel
theorem dX6_areEnough_10 : decode cX6_areEnough 10 = .ok (.iconst 0, 1) := by decide +kernel
theorem dX6_areEnough_11 : decode cX6_areEnough 11 = .ok (.iaload, 1) := by decide +kernel
theorem dX6_areEnough_12 : decode cX6_areEnough 12 = .ok (.ishl, 1) := by decide +kernel
theorem dX6_areEnough_13 : decode cX6_areEnough 13 = .ok (.if_icmp .ge 19, 3) := by decide +kernel
theorem dX6_areEnough_16 : decode cX6_areEnough 16 = .ok (.iload_n 1, 1) := by decide +kernel
theorem dX6_areEnough_17 : decode cX6_areEnough 17 = .ok (.ifCond .eq 15, 3) := by decide +kernel
theorem dX6_areEnough_20 : decode cX6_areEnough 20 = .ok (.aload_n 0, 1) := by decide +kernel
theorem dX6_areEnough_21 : decode cX6_areEnough 21 = .ok (.iload_n 2, 1) := by decide +kernel
theorem dX6_areEnough_22 : decode cX6_areEnough 22 = .ok (.invokevirtual 157, 3) := by decide +kernel
theorem dX6_areEnough_25 : decode cX6_areEnough 25 = .ok (.istore_n 1, 1) := by decide +kernel
theorem dX6_areEnough_26 : decode cX6_areEnough 26 = .ok (.iinc 2 1, 3) := by decide +kernel
theorem dX6_areEnough_29 : decode cX6_areEnough 29 = .ok (.goto (-25), 3) := by decide +kernel
theorem dX6_areEnough_32 : decode cX6_areEnough 32 = .ok (.iload_n 1, 1) := by decide +kernel
theorem dX6_areEnough_33 : decode cX6_areEnough 33 = .ok (.ireturn, 1) := by decide +kernel
theorem dX6_allCan_0 : decode cX6_allCan 0 = .ok (.aload_n 0, 1) := by decide +kernel
theorem dX6_allCan_1 : decode cX6_allCan 1 = .ok (.iload_n 1, 1) := by decide +kernel
theorem dX6_allCan_2 : decode cX6_allCan 2 = .ok (.invokevirtual 160, 3) := by decide +kernel
theorem dX6_allCan_5 : decode cX6_allCan 5 = .ok (.ifCond .eq 14, 3) := by decide +kernel
theorem dX6_allCan_8 : decode cX6_allCan 8 = .ok (.aload_n 0, 1) := by decide +kernel
theorem dX6_allCan_9 : decode cX6_allCan 9 = .ok (.invokevirtual 163, 3) := by decide +kernel
theorem dX6_allCan_12 : decode cX6_allCan 12 = .ok (.ifCond .eq 7, 3) := by decide +kernel
theorem dX6_allCan_15 : decode cX6_allCan 15 = .ok (.iconst 1, 1) := by decide +kernel
theorem dX6_allCan_16 : decode cX6_allCan 16 = .ok (.goto 4, 3) := by decide +kernel
theorem dX6_allCan_19 : decode cX6_allCan 19 = .ok (.iconst 0, 1) := by decide +kernel
theorem dX6_allCan_20 : decode cX6_allCan 20 = .ok (.ireturn, 1) := by decide +kernel
theorem dX6_allCanNow_0 : decode cX6_allCanNow 0 = .ok (.aload_n 0, 1) := by decide +kernel
theorem dX6_allCanNow_1 : decode cX6_allCanNow 1 = .ok (.aload_n 0, 1) := by decide +kernel
theorem dX6_allCanNow_2 : decode cX6_allCanNow 2 = .ok (.getfield 13, 3) := by decide +kernel
theorem dX6_allCanNow_5 : decode cX6_allCanNow 5 = .ok (.bipush 6, 2) := by decide +kernel
theorem dX6_allCanNow_7 : decode cX6_allCanNow 7 = .ok (.iaload, 1) := by decide +kernel
theorem dX6_allCanNow_8 : decode cX6_allCanNow 8 = .ok (.invokevirtual 167, 3) := by decide +kernel
theorem dX6_allCanNow_11 : decode cX6_allCanNow 11 = .ok (.ireturn, 1) := by decide +kernel
theorem dX6_can_0 : decode cX6_can 0 = .ok (.iload_n 1, 1) := by decide +kernel
theorem dX6_can_1 : decode cX6_can 1 = .ok (.iconst 0, 1) := by decide +kernel
theorem dX6_can_2 : decode cX6_can 2 = .ok (.sipush 999, 3) := by decide +kernel
theorem dX6_can_5 : decode cX6_can 5 = .ok (.invokestatic 61, 3) := by decide +kernel
theorem dX6_can_8 : decode cX6_can 8 = .ok (.ifCond .eq 19, 3) := by decide +kernel
theorem dX6_can_11 : decode cX6_can 11 = .ok (.aload_n 0, 1) := by decide +kernel
theorem dX6_can_12 : decode cX6_can 12 = .ok (.iload_n 1, 1) := by decide +kernel
theorem dX6_can_13 : decode cX6_can 13 = .ok (.invokevirtual 167, 3) := by decide +kernel
theorem dX6_can_16 : decode cX6_can 16 = .ok (.ifCond .eq 7, 3) := by decide +kernel
theorem dX6_can_19 : decode cX6_can 19 = .ok (.iconst 1, 1) := by decide +kernel
theorem dX6_can_20 : decode cX6_can 20 = .ok (.goto 11, 3) := by decide +kernel
theorem dX6_can_23 : decode cX6_can 23 = .ok (.iconst 0, 1) := by decide +kernel
theorem dX6_can_24 : decode cX6_can 24 = .ok (.goto 7, 3) := by decide +kernel
theorem dX6_can_27 : decode cX6_can 27 = .ok (.aload_n 0, 1) := by decide +kernel
theorem dX6_can_28 : decode cX6_can 28 = .ok (.invokevirtual 43, 3) := by decide +kernel
theorem dX6_can_31 : decode cX6_can 31 = .ok (.ireturn, 1) := by decide +kernel
theorem dX6_longest_0 : decode cX6_longest 0 = .ok (.iconst 0, 1) := by decide +kernel
theorem dX6_longest_1 : decode cX6_longest 1 = .ok (.istore_n 1, 1) := by decide +kernel
theorem dX6_longest_2 : decode cX6_longest 2 = .ok (.iconst 0, 1) := by decide +kernel
theorem dX6_longest_3 : decode cX6_longest 3 = .ok (.istore_n 2, 1) := by decide +kernel
theorem dX6_longest_4 : decode cX6_longest 4 = .ok (.iload_n 2, 1) := by decide +kernel
theorem dX6_longest_5 : decode cX6_longest 5 = .ok (.aload_n 0, 1) := by decide +kernel
theorem dX6_longest_6 : decode cX6_longest 6 = .ok (.getfield 13, 3) := by decide +kernel
theorem dX6_longest_9 : decode cX6_longest 9 = .ok (.iconst 0, 1) := by decide +kernel
theorem dX6_longest_10 : decode cX6_longest 10 = .ok (.iaload, 1) := by decide +kernel
theorem dX6_longest_11 : decode cX6_longest 11 = .ok (.if_icmp .ge 28, 3) := by decide +kernel
theorem dX6_longest_14 : decode cX6_longest 14 = .ok (.aload_n 0, 1) := by decide +kernel
theorem dX6_longest_15 : decode cX6_longest 15 = .ok (.iload_n 2, 1) := by decide +kernel
theorem dX6_longest_16 : decode cX6_longest 16 = .ok (.invokevirtual 126, 3) := by decide +kernel
theorem dX6_longest_19 : decode cX6_longest 19 = .ok (.iload_n 1, 1) := by decide +kernel
theorem dX6_longest_20 : decode cX6_longest 20 = .ok (.if_icmp .le 11, 3) := by decide +kernel
theorem dX6_longest_23 : decode cX6_longest 23 = .ok (.aload_n 0, 1) := by decide +kernel
theorem dX6_longest_24 : decode cX6_longest 24 = .ok (.iload_n 2, 1) := by decide +kernel
theorem dX6_longest_25 : decode cX6_longest 25 = .ok (.invokevirtual 126, 3) := by decide +kernel
theorem dX6_longest_28 : decode cX6_longest 28 = .ok (.goto 4, 3) := by decide +kernel
theorem dX6_longest_31 : decode cX6_longest 31 = .ok (.iload_n 1, 1) := by decide +kernel
theorem dX6_longest_32 : decode cX6_longest 32 = .ok (.istore_n 1, 1) := by decide +kernel
theorem dX6_longest_33 : decode cX6_longest 33 = .ok (.iinc 2 1, 3) := by decide +kernel
theorem dX6_longest_36 : decode cX6_longest 36 = .ok (.goto (-32), 3) := by decide +kernel
theorem dX6_longest_39 : decode cX6_longest 39 = .ok (.iload_n 1, 1) := by decide +kernel
theorem dX6_longest_40 : decode cX6_longest 40 = .ok (.ireturn, 1) := by decide +kernel
theorem dX6_least_0 : decode cX6_least 0 = .ok (.aload_n 0, 1) := by decide +kernel
theorem dX6_least_1 : decode cX6_least 1 = .ok (.aload_n 0, 1) := by decide +kernel
theorem dX6_least_2 : decode cX6_least 2 = .ok (.invokevirtual 170, 3) := by decide +kernel
theorem dX6_least_5 : decode cX6_least 5 = .ok (.invokevirtual 167, 3) := by decide +kernel
theorem dX6_least_8 : decode cX6_least 8 = .ok (.ifCond .eq 10, 3) := by decide +kernel
theorem dX6_least_11 : decode cX6_least 11 = .ok (.aload_n 0, 1) := by decide +kernel
theorem dX6_least_12 : decode cX6_least 12 = .ok (.invokevirtual 170, 3) := by decide +kernel
theorem dX6_least_15 : decode cX6_least 15 = .ok (.goto 4, 3) := by decide +kernel
theorem dX6_least_18 : decode cX6_least 18 = .ok (.iconst (-1), 1) := by decide +kernel
theorem dX6_least_19 : decode cX6_least 19 = .ok (.ireturn, 1) := by decide +kernel
theorem dX6_greatest_0 : decode cX6_greatest 0 = .ok (.aload_n 0, 1) := by decide +kernel
theorem dX6_greatest_1 : decode cX6_greatest 1 = .ok (.invokevirtual 170, 3) := by decide +kernel
theorem dX6_greatest_4 : decode cX6_greatest 4 = .ok (.istore_n 1, 1) := by decide +kernel
theorem dX6_greatest_5 : decode cX6_greatest 5 = .ok (.aload_n 0, 1) := by decide +kernel
theorem dX6_greatest_6 : decode cX6_greatest 6 = .ok (.iload_n 1, 1) := by decide +kernel
theorem dX6_greatest_7 : decode cX6_greatest 7 = .ok (.invokevirtual 167, 3) := by decide +kernel
theorem dX6_greatest_10 : decode cX6_greatest 10 = .ok (.ifCond .ne 5, 3) := by decide +kernel
theorem dX6_greatest_13 : decode cX6_greatest 13 = .ok (.iconst (-1), 1) := by decide +kernel
theorem dX6_greatest_14 : decode cX6_greatest 14 = .ok (.ireturn, 1) := by decide +kernel
theorem dX6_greatest_15 : decode cX6_greatest 15 = .ok (.sipush 1000, 3) := by decide +kernel
theorem dX6_greatest_18 : decode cX6_greatest 18 = .ok (.istore_n 2, 1) := by decide +kernel
theorem dX6_greatest_19 : decode cX6_greatest 19 = .ok (.iload_n 2, 1) := by decide +kernel
theorem dX6_greatest_20 : decode cX6_greatest 20 = .ok (.iload_n 1, 1) := by decide +kernel
theorem dX6_greatest_21 : decode cX6_greatest 21 = .ok (.isub, 1) := by decide +kernel
theorem dX6_greatest_22 : decode cX6_greatest 22 = .ok (.iconst 1, 1) := by decide +kernel
theorem dX6_greatest_23 : decode cX6_greatest 23 = .ok (.if_icmp .le 27, 3) := by decide +kernel
theorem dX6_greatest_26 : decode cX6_greatest 26 = .ok (.iload_n 1, 1) := by decide +kernel
theorem dX6_greatest_27 : decode cX6_greatest 27 = .ok (.iload_n 2, 1) := by decide +kernel
theorem dX6_greatest_28 : decode cX6_greatest 28 = .ok (.iadd, 1) := by decide +kernel
theorem dX6_greatest_29 : decode cX6_greatest 29 = .ok (.iconst 2, 1) := by decide +kernel
theorem dX6_greatest_30 : decode cX6_greatest 30 = .ok (.idiv, 1) := by decide +kernel
theorem dX6_greatest_31 : decode cX6_greatest 31 = .ok (.istore_n 3, 1) := by decide +kernel
theorem dX6_greatest_32 : decode cX6_greatest 32 = .ok (.aload_n 0, 1) := by decide +kernel
theorem dX6_greatest_33 : decode cX6_greatest 33 = .ok (.iload_n 3, 1) := by decide +kernel
theorem dX6_greatest_34 : decode cX6_greatest 34 = .ok (.invokevirtual 167, 3) := by decide +kernel
theorem dX6_greatest_37 : decode cX6_greatest 37 = .ok (.ifCond .eq 8, 3) := by decide +kernel
theorem dX6_greatest_40 : decode cX6_greatest 40 = .ok (.iload_n 3, 1) := by decide +kernel
theorem dX6_greatest_41 : decode cX6_greatest 41 = .ok (.istore_n 1, 1) := by decide +kernel
theorem dX6_greatest_42 : decode cX6_greatest 42 = .ok (.goto 5, 3) := by decide +kernel
theorem dX6_greatest_45 : decode cX6_greatest 45 = .ok (.iload_n 3, 1) := by decide +kernel
theorem dX6_greatest_46 : decode cX6_greatest 46 = .ok (.istore_n 2, 1) := by decide +kernel
theorem dX6_greatest_47 : decode cX6_greatest 47 = .ok (.goto (-28), 3) := by decide +kernel
theorem dX6_greatest_50 : decode cX6_greatest 50 = .ok (.iload_n 1, 1) := by decide +kernel
theorem dX6_greatest_51 : decode cX6_greatest 51 = .ok (.ireturn, 1) := by decide +kernel
theorem dX6_ones_0 : decode cX6_ones 0 = .ok (.iconst 0, 1) := by decide +kernel
theorem dX6_ones_1 : decode cX6_ones 1 = .ok (.istore_n 1, 1) := by decide +kernel
theorem dX6_ones_2 : decode cX6_ones 2 = .ok (.iconst 0, 1) := by decide +kernel
theorem dX6_ones_3 : decode cX6_ones 3 = .ok (.istore_n 2, 1) := by decide +kernel
theorem dX6_ones_4 : decode cX6_ones 4 = .ok (.iload_n 2, 1) := by decide +kernel
theorem dX6_ones_5 : decode cX6_ones 5 = .ok (.bipush 6, 2) := by decide +kernel
theorem dX6_ones_7 : decode cX6_ones 7 = .ok (.if_icmp .ge 17, 3) := by decide +kernel
theorem dX6_ones_10 : decode cX6_ones 10 = .ok (.iload_n 1, 1) := by decide +kernel
theorem dX6_ones_11 : decode cX6_ones 11 = .ok (.iload_n 0, 1) := by decide +kernel
theorem dX6_ones_12 : decode cX6_ones 12 = .ok (.iload_n 2, 1) := by decide +kernel
theorem dX6_ones_13 : decode cX6_ones 13 = .ok (.ishr, 1) := by decide +kernel
theorem dX6_ones_14 : decode cX6_ones 14 = .ok (.iconst 1, 1) := by decide +kernel
theorem dX6_ones_15 : decode cX6_ones 15 = .ok (.iand, 1) := by decide +kernel
theorem dX6_ones_16 : decode cX6_ones 16 = .ok (.iadd, 1) := by decide +kernel
theorem dX6_ones_17 : decode cX6_ones 17 = .ok (.istore_n 1, 1) := by decide +kernel
theorem dX6_ones_18 : decode cX6_ones 18 = .ok (.iinc 2 1, 3) := by decide +kernel
theorem dX6_ones_21 : decode cX6_ones 21 = .ok (.goto (-17), 3) := by decide +kernel
theorem dX6_ones_24 : decode cX6_ones 24 = .ok (.iload_n 1, 1) := by decide +kernel
theorem dX6_ones_25 : decode cX6_ones 25 = .ok (.ireturn, 1) := by decide +kernel
theorem dX6_blocked_0 : decode cX6_blocked 0 = .ok (.iconst 0, 1) := by decide +kernel
theorem dX6_blocked_1 : decode cX6_blocked 1 = .ok (.istore_n 1, 1) := by decide +kernel
theorem dX6_blocked_2 : decode cX6_blocked 2 = .ok (.iconst 0, 1) := by decide +kernel
theorem dX6_blocked_3 : decode cX6_blocked 3 = .ok (.istore_n 2, 1) := by decide +kernel
theorem dX6_blocked_4 : decode cX6_blocked 4 = .ok (.iload_n 2, 1) := by decide +kernel
theorem dX6_blocked_5 : decode cX6_blocked 5 = .ok (.aload_n 0, 1) := by decide +kernel
theorem dX6_blocked_6 : decode cX6_blocked 6 = .ok (.getfield 13, 3) := by decide +kernel
theorem dX6_blocked_9 : decode cX6_blocked 9 = .ok (.iconst 0, 1) := by decide +kernel
theorem dX6_blocked_10 : decode cX6_blocked 10 = .ok (.iaload, 1) := by decide +kernel
theorem dX6_blocked_11 : decode cX6_blocked 11 = .ok (.if_icmp .ge 34, 3) := by decide +kernel
theorem dX6_blocked_14 : decode cX6_blocked 14 = .ok (.iload_n 1, 1) := by decide +kernel
theorem dX6_blocked_15 : decode cX6_blocked 15 = .ok (.aload_n 0, 1) := by decide +kernel
theorem dX6_blocked_16 : decode cX6_blocked 16 = .ok (.iload_n 2, 1) := by decide +kernel
theorem dX6_blocked_17 : decode cX6_blocked 17 = .ok (.invokevirtual 126, 3) := by decide +kernel
theorem dX6_blocked_20 : decode cX6_blocked 20 = .ok (.aload_n 0, 1) := by decide +kernel
theorem dX6_blocked_21 : decode cX6_blocked 21 = .ok (.getfield 13, 3) := by decide +kernel
theorem dX6_blocked_24 : decode cX6_blocked 24 = .ok (.bipush 6, 2) := by decide +kernel
theorem dX6_blocked_26 : decode cX6_blocked 26 = .ok (.iaload, 1) := by decide +kernel
theorem dX6_blocked_27 : decode cX6_blocked 27 = .ok (.if_icmp .le 9, 3) := by decide +kernel
theorem dX6_blocked_30 : decode cX6_blocked 30 = .ok (.iconst 1, 1) := by decide +kernel
theorem dX6_blocked_31 : decode cX6_blocked 31 = .ok (.iload_n 2, 1) := by decide +kernel
theorem dX6_blocked_32 : decode cX6_blocked 32 = .ok (.ishl, 1) := by decide +kernel
theorem dX6_blocked_33 : decode cX6_blocked 33 = .ok (.goto 4, 3) := by decide +kernel
theorem dX6_blocked_36 : decode cX6_blocked 36 = .ok (.iconst 0, 1) := by decide +kernel
theorem dX6_blocked_37 : decode cX6_blocked 37 = .ok (.ior, 1) := by decide +kernel
theorem dX6_blocked_38 : decode cX6_blocked 38 = .ok (.istore_n 1, 1) := by decide +kernel
theorem dX6_blocked_39 : decode cX6_blocked 39 = .ok (.iinc 2 1, 3) := by decide +kernel
theorem dX6_blocked_42 : decode cX6_blocked 42 = .ok (.goto (-38), 3) := by decide +kernel
theorem dX6_blocked_45 : decode cX6_blocked 45 = .ok (.iload_n 1, 1) := by decide +kernel
theorem dX6_blocked_46 : decode cX6_blocked 46 = .ok (.ifCond .eq 5, 3) := by decide +kernel
theorem dX6_blocked_49 : decode cX6_blocked 49 = .ok (.iload_n 1, 1) := by decide +kernel
theorem dX6_blocked_50 : decode cX6_blocked 50 = .ok (.ireturn, 1) := by decide +kernel
theorem dX6_blocked_51 : decode cX6_blocked 51 = .ok (.aload_n 0, 1) := by decide +kernel
theorem dX6_blocked_52 : decode cX6_blocked 52 = .ok (.aload_n 0, 1) := by decide +kernel
theorem dX6_blocked_53 : decode cX6_blocked 53 = .ok (.getfield 13, 3) := by decide +kernel
theorem dX6_blocked_56 : decode cX6_blocked 56 = .ok (.bipush 6, 2) := by decide +kernel
theorem dX6_blocked_58 : decode cX6_blocked 58 = .ok (.iaload, 1) := by decide +kernel
theorem dX6_blocked_59 : decode cX6_blocked 59 = .ok (.invokevirtual 160, 3) := by decide +kernel
theorem dX6_blocked_62 : decode cX6_blocked 62 = .ok (.pop, 1) := by decide +kernel
theorem dX6_blocked_63 : decode cX6_blocked 63 = .ok (.iconst 0, 1) := by decide +kernel
theorem dX6_blocked_64 : decode cX6_blocked 64 = .ok (.istore_n 2, 1) := by decide +kernel
theorem dX6_blocked_65 : decode cX6_blocked 65 = .ok (.iconst 1, 1) := by decide +kernel
theorem dX6_blocked_66 : decode cX6_blocked 66 = .ok (.istore_n 3, 1) := by decide +kernel
theorem dX6_blocked_67 : decode cX6_blocked 67 = .ok (.iload_n 3, 1) := by decide +kernel
theorem dX6_blocked_68 : decode cX6_blocked 68 = .ok (.iconst 1, 1) := by decide +kernel
theorem dX6_blocked_69 : decode cX6_blocked 69 = .ok (.aload_n 0, 1) := by decide +kernel
theorem dX6_blocked_70 : decode cX6_blocked 70 = .ok (.getfield 13, 3) := by decide +kernel
theorem dX6_blocked_73 : decode cX6_blocked 73 = .ok (.iconst 0, 1) := by decide +kernel
theorem dX6_blocked_74 : decode cX6_blocked 74 = .ok (.iaload, 1) := by decide +kernel
theorem dX6_blocked_75 : decode cX6_blocked 75 = .ok (.ishl, 1) := by decide +kernel
theorem dX6_blocked_76 : decode cX6_blocked 76 = .ok (.if_icmp .ge 38, 3) := by decide +kernel
theorem dX6_blocked_79 : decode cX6_blocked 79 = .ok (.aload_n 0, 1) := by decide +kernel
theorem dX6_blocked_80 : decode cX6_blocked 80 = .ok (.iload_n 3, 1) := by decide +kernel
theorem dX6_blocked_81 : decode cX6_blocked 81 = .ok (.invokevirtual 157, 3) := by decide +kernel
theorem dX6_blocked_84 : decode cX6_blocked 84 = .ok (.ifCond .ne 22, 3) := by decide +kernel
theorem dX6_blocked_87 : decode cX6_blocked 87 = .ok (.iload_n 2, 1) := by decide +kernel
theorem dX6_blocked_88 : decode cX6_blocked 88 = .ok (.ifCond .eq 14, 3) := by decide +kernel
theorem dX6_blocked_91 : decode cX6_blocked 91 = .ok (.iload_n 3, 1) := by decide +kernel
theorem dX6_blocked_92 : decode cX6_blocked 92 = .ok (.invokestatic 173, 3) := by decide +kernel
theorem dX6_blocked_95 : decode cX6_blocked 95 = .ok (.iload_n 2, 1) := by decide +kernel
theorem dX6_blocked_96 : decode cX6_blocked 96 = .ok (.invokestatic 173, 3) := by decide +kernel
theorem dX6_blocked_99 : decode cX6_blocked 99 = .ok (.if_icmp .ge 7, 3) := by decide +kernel
theorem dX6_blocked_102 : decode cX6_blocked 102 = .ok (.iload_n 3, 1) := by decide +kernel
theorem dX6_blocked_103 : decode cX6_blocked 103 = .ok (.goto 4, 3) := by decide +kernel
theorem dX6_blocked_106 : decode cX6_blocked 106 = .ok (.iload_n 2, 1) := by decide +kernel
theorem dX6_blocked_107 : decode cX6_blocked 107 = .ok (.istore_n 2, 1) := by decide +kernel
theorem dX6_blocked_108 : decode cX6_blocked 108 = .ok (.iinc 3 1, 3) := by decide +kernel
theorem dX6_blocked_111 : decode cX6_blocked 111 = .ok (.goto (-44), 3) := by decide +kernel
theorem dX6_blocked_114 : decode cX6_blocked 114 = .ok (.iload_n 2, 1) := by decide +kernel
theorem dX6_blocked_115 : decode cX6_blocked 115 = .ok (.ireturn, 1) := by decide +kernel
theorem dX6_more_0 : decode cX6_more 0 = .ok (.aload_n 0, 1) := by decide +kernel
theorem dX6_more_1 : decode cX6_more 1 = .ok (.invokevirtual 176, 3) := by decide +kernel
theorem dX6_more_4 : decode cX6_more 4 = .ok (.ifCond .eq 8, 3) := by decide +kernel
theorem dX6_more_7 : decode cX6_more 7 = .ok (.aload_n 0, 1) := by decide +kernel
theorem dX6_more_8 : decode cX6_more 8 = .ok (.invokevirtual 47, 3) := by decide +kernel
theorem dX6_more_11 : decode cX6_more 11 = .ok (.ireturn, 1) := by decide +kernel
theorem dX6_more_12 : decode cX6_more 12 = .ok (.iconst (-1), 1) := by decide +kernel
theorem dX6_more_13 : decode cX6_more 13 = .ok (.istore_n 1, 1) := by decide +kernel
theorem dX6_more_14 : decode cX6_more 14 = .ok (.aload_n 0, 1) := by decide +kernel
theorem dX6_more_15 : decode cX6_more 15 = .ok (.getfield 13, 3) := by decide +kernel
theorem dX6_more_18 : decode cX6_more 18 = .ok (.iconst 1, 1) := by decide +kernel
theorem dX6_more_19 : decode cX6_more 19 = .ok (.iaload, 1) := by decide +kernel
theorem dX6_more_20 : decode cX6_more 20 = .ok (.iconst 1, 1) := by decide +kernel
theorem dX6_more_21 : decode cX6_more 21 = .ok (.isub, 1) := by decide +kernel
theorem dX6_more_22 : decode cX6_more 22 = .ok (.istore_n 2, 1) := by decide +kernel
theorem dX6_more_23 : decode cX6_more 23 = .ok (.iload_n 2, 1) := by decide +kernel
theorem dX6_more_24 : decode cX6_more 24 = .ok (.ifCond .lt 48, 3) := by decide +kernel
theorem dX6_more_27 : decode cX6_more 27 = .ok (.aload_n 0, 1) := by decide +kernel
theorem dX6_more_28 : decode cX6_more 28 = .ok (.aload_n 0, 1) := by decide +kernel
theorem dX6_more_29 : decode cX6_more 29 = .ok (.getfield 13, 3) := by decide +kernel
theorem dX6_more_32 : decode cX6_more 32 = .ok (.bipush 6, 2) := by decide +kernel
theorem dX6_more_34 : decode cX6_more 34 = .ok (.iaload, 1) := by decide +kernel
theorem dX6_more_35 : decode cX6_more 35 = .ok (.invokevirtual 160, 3) := by decide +kernel
theorem dX6_more_38 : decode cX6_more 38 = .ok (.istore_n 3, 1) := by decide +kernel
theorem dX6_more_39 : decode cX6_more 39 = .ok (.aload_n 0, 1) := by decide +kernel
theorem dX6_more_40 : decode cX6_more 40 = .ok (.getfield 22, 3) := by decide +kernel
theorem dX6_more_43 : decode cX6_more 43 = .ok (.iload_n 2, 1) := by decide +kernel
theorem dX6_more_44 : decode cX6_more 44 = .ok (.dup2, 1) := by decide +kernel
theorem dX6_more_45 : decode cX6_more 45 = .ok (.iaload, 1) := by decide +kernel
theorem dX6_more_46 : decode cX6_more 46 = .ok (.iconst 1, 1) := by decide +kernel
theorem dX6_more_47 : decode cX6_more 47 = .ok (.iadd, 1) := by decide +kernel
theorem dX6_more_48 : decode cX6_more 48 = .ok (.iastore, 1) := by decide +kernel
theorem dX6_more_49 : decode cX6_more 49 = .ok (.iload_n 3, 1) := by decide +kernel
theorem dX6_more_50 : decode cX6_more 50 = .ok (.ifCond .eq 14, 3) := by decide +kernel
theorem dX6_more_53 : decode cX6_more 53 = .ok (.aload_n 0, 1) := by decide +kernel
theorem dX6_more_54 : decode cX6_more 54 = .ok (.invokevirtual 163, 3) := by decide +kernel
theorem dX6_more_57 : decode cX6_more 57 = .ok (.ifCond .eq 7, 3) := by decide +kernel
theorem dX6_more_60 : decode cX6_more 60 = .ok (.iload_n 2, 1) := by decide +kernel
theorem dX6_more_61 : decode cX6_more 61 = .ok (.goto 4, 3) := by decide +kernel
theorem dX6_more_64 : decode cX6_more 64 = .ok (.iload_n 1, 1) := by decide +kernel
theorem dX6_more_65 : decode cX6_more 65 = .ok (.istore_n 1, 1) := by decide +kernel
theorem dX6_more_66 : decode cX6_more 66 = .ok (.iinc 2 (-1), 3) := by decide +kernel
theorem dX6_more_69 : decode cX6_more 69 = .ok (.goto (-46), 3) := by decide +kernel
theorem dX6_more_72 : decode cX6_more 72 = .ok (.iload_n 1, 1) := by decide +kernel
theorem dX6_more_73 : decode cX6_more 73 = .ok (.ireturn, 1) := by decide +kernel
theorem dX6_draw_0 : decode cX6_draw 0 = .ok (.aload_n 0, 1) := by decide +kernel
theorem dX6_draw_1 : decode cX6_draw 1 = .ok (.invokevirtual 176, 3) := by decide +kernel
theorem dX6_draw_4 : decode cX6_draw 4 = .ok (.ifCond .ne 5, 3) := by decide +kernel
theorem dX6_draw_7 : decode cX6_draw 7 = .ok (.iconst 0, 1) := by decide +kernel
theorem dX6_draw_8 : decode cX6_draw 8 = .ok (.ireturn, 1) := by decide +kernel
theorem dX6_draw_9 : decode cX6_draw 9 = .ok (.iconst 0, 1) := by decide +kernel
theorem dX6_draw_10 : decode cX6_draw 10 = .ok (.istore_n 1, 1) := by decide +kernel
theorem dX6_draw_11 : decode cX6_draw 11 = .ok (.iload_n 1, 1) := by decide +kernel
theorem dX6_draw_12 : decode cX6_draw 12 = .ok (.aload_n 0, 1) := by decide +kernel
theorem dX6_draw_13 : decode cX6_draw 13 = .ok (.getfield 13, 3) := by decide +kernel
theorem dX6_draw_16 : decode cX6_draw 16 = .ok (.iconst 0, 1) := by decide +kernel
theorem dX6_draw_17 : decode cX6_draw 17 = .ok (.iaload, 1) := by decide +kernel
theorem dX6_draw_18 : decode cX6_draw 18 = .ok (.if_icmp .ge 174, 3) := by decide +kernel
theorem dX6_draw_21 : decode cX6_draw 21 = .ok (.iconst 0, 1) := by decide +kernel
theorem dX6_draw_22 : decode cX6_draw 22 = .ok (.istore_n 2, 1) := by decide +kernel
theorem dX6_draw_23 : decode cX6_draw 23 = .ok (.iload_n 2, 1) := by decide +kernel
theorem dX6_draw_24 : decode cX6_draw 24 = .ok (.aload_n 0, 1) := by decide +kernel
theorem dX6_draw_25 : decode cX6_draw 25 = .ok (.getfield 13, 3) := by decide +kernel
theorem dX6_draw_28 : decode cX6_draw 28 = .ok (.iconst 1, 1) := by decide +kernel
theorem dX6_draw_29 : decode cX6_draw 29 = .ok (.iaload, 1) := by decide +kernel
theorem dX6_draw_30 : decode cX6_draw 30 = .ok (.if_icmp .ge 156, 3) := by decide +kernel
theorem dX6_draw_33 : decode cX6_draw 33 = .ok (.aload_n 0, 1) := by decide +kernel
theorem dX6_draw_34 : decode cX6_draw 34 = .ok (.getfield 25, 3) := by decide +kernel
theorem dX6_draw_37 : decode cX6_draw 37 = .ok (.iload_n 1, 1) := by decide +kernel
theorem dX6_draw_38 : decode cX6_draw 38 = .ok (.iaload, 1) := by decide +kernel
theorem dX6_draw_39 : decode cX6_draw 39 = .ok (.iload_n 2, 1) := by decide +kernel
theorem dX6_draw_40 : decode cX6_draw 40 = .ok (.ishr, 1) := by decide +kernel
theorem dX6_draw_41 : decode cX6_draw 41 = .ok (.iconst 1, 1) := by decide +kernel
theorem dX6_draw_42 : decode cX6_draw 42 = .ok (.iand, 1) := by decide +kernel
theorem dX6_draw_43 : decode cX6_draw 43 = .ok (.iconst 1, 1) := by decide +kernel
theorem dX6_draw_44 : decode cX6_draw 44 = .ok (.if_icmp .ne 7, 3) := by decide +kernel
theorem dX6_draw_47 : decode cX6_draw 47 = .ok (.iconst 1, 1) := by decide +kernel
theorem dX6_draw_48 : decode cX6_draw 48 = .ok (.goto 4, 3) := by decide +kernel
theorem dX6_draw_51 : decode cX6_draw 51 = .ok (.iconst 0, 1) := by decide +kernel
theorem dX6_draw_52 : decode cX6_draw 52 = .ok (.istore_n 3, 1) := by decide +kernel
theorem dX6_draw_53 : decode cX6_draw 53 = .ok (.aload_n 0, 1) := by decide +kernel
theorem dX6_draw_54 : decode cX6_draw 54 = .ok (.getfield 25, 3) := by decide +kernel
theorem dX6_draw_57 : decode cX6_draw 57 = .ok (.iload_n 1, 1) := by decide +kernel
theorem dX6_draw_58 : decode cX6_draw 58 = .ok (.dup2, 1) := by decide +kernel
theorem dX6_draw_59 : decode cX6_draw 59 = .ok (.iaload, 1) := by decide +kernel
theorem dX6_draw_60 : decode cX6_draw 60 = .ok (.iconst 1, 1) := by decide +kernel
theorem dX6_draw_61 : decode cX6_draw 61 = .ok (.iload_n 2, 1) := by decide +kernel
theorem dX6_draw_62 : decode cX6_draw 62 = .ok (.ishl, 1) := by decide +kernel
theorem dX6_draw_63 : decode cX6_draw 63 = .ok (.iconst (-1), 1) := by decide +kernel
theorem dX6_draw_64 : decode cX6_draw 64 = .ok (.ixor, 1) := by decide +kernel
theorem dX6_draw_65 : decode cX6_draw 65 = .ok (.iand, 1) := by decide +kernel
theorem dX6_draw_66 : decode cX6_draw 66 = .ok (.iastore, 1) := by decide +kernel
theorem dX6_draw_67 : decode cX6_draw 67 = .ok (.iload_n 3, 1) := by decide +kernel
theorem dX6_draw_68 : decode cX6_draw 68 = .ok (.ifCond .ne 7, 3) := by decide +kernel
theorem dX6_draw_71 : decode cX6_draw 71 = .ok (.iconst 0, 1) := by decide +kernel
theorem dX6_draw_72 : decode cX6_draw 72 = .ok (.goto 33, 3) := by decide +kernel
theorem dX6_draw_75 : decode cX6_draw 75 = .ok (.aload_n 0, 1) := by decide +kernel
theorem dX6_draw_76 : decode cX6_draw 76 = .ok (.getfield 19, 3) := by decide +kernel
theorem dX6_draw_79 : decode cX6_draw 79 = .ok (.iload_n 1, 1) := by decide +kernel
theorem dX6_draw_80 : decode cX6_draw 80 = .ok (.iaload, 1) := by decide +kernel
theorem dX6_draw_81 : decode cX6_draw 81 = .ok (.aload_n 0, 1) := by decide +kernel
theorem dX6_draw_82 : decode cX6_draw 82 = .ok (.getfield 22, 3) := by decide +kernel
theorem dX6_draw_85 : decode cX6_draw 85 = .ok (.iload_n 2, 1) := by decide +kernel
theorem dX6_draw_86 : decode cX6_draw 86 = .ok (.iaload, 1) := by decide +kernel
theorem dX6_draw_87 : decode cX6_draw 87 = .ok (.if_icmp .ge 12, 3) := by decide +kernel
theorem dX6_draw_90 : decode cX6_draw 90 = .ok (.aload_n 0, 1) := by decide +kernel
theorem dX6_draw_91 : decode cX6_draw 91 = .ok (.getfield 19, 3) := by decide +kernel
theorem dX6_draw_94 : decode cX6_draw 94 = .ok (.iload_n 1, 1) := by decide +kernel
theorem dX6_draw_95 : decode cX6_draw 95 = .ok (.iaload, 1) := by decide +kernel
theorem dX6_draw_96 : decode cX6_draw 96 = .ok (.goto 9, 3) := by decide +kernel
theorem dX6_draw_99 : decode cX6_draw 99 = .ok (.aload_n 0, 1) := by decide +kernel
theorem dX6_draw_100 : decode cX6_draw 100 = .ok (.getfield 22, 3) := by decide +kernel
theorem dX6_draw_103 : decode cX6_draw 103 = .ok (.iload_n 2, 1) := by decide +kernel
theorem dX6_draw_104 : decode cX6_draw 104 = .ok (.iaload, 1) := by decide +kernel
theorem dX6_draw_105 : decode cX6_draw 105 = .ok (.istore 4, 2) := by decide +kernel
theorem dX6_draw_107 : decode cX6_draw 107 = .ok (.aload_n 0, 1) := by decide +kernel
theorem dX6_draw_108 : decode cX6_draw 108 = .ok (.getfield 19, 3) := by decide +kernel
theorem dX6_draw_111 : decode cX6_draw 111 = .ok (.iload_n 1, 1) := by decide +kernel
theorem dX6_draw_112 : decode cX6_draw 112 = .ok (.dup2, 1) := by decide +kernel
theorem dX6_draw_113 : decode cX6_draw 113 = .ok (.iaload, 1) := by decide +kernel
theorem dX6_draw_114 : decode cX6_draw 114 = .ok (.iload 4, 2) := by decide +kernel
theorem dX6_draw_116 : decode cX6_draw 116 = .ok (.isub, 1) := by decide +kernel
theorem dX6_draw_117 : decode cX6_draw 117 = .ok (.iastore, 1) := by decide +kernel
theorem dX6_draw_118 : decode cX6_draw 118 = .ok (.aload_n 0, 1) := by decide +kernel
theorem dX6_draw_119 : decode cX6_draw 119 = .ok (.getfield 22, 3) := by decide +kernel
theorem dX6_draw_122 : decode cX6_draw 122 = .ok (.iload_n 2, 1) := by decide +kernel
theorem dX6_draw_123 : decode cX6_draw 123 = .ok (.dup2, 1) := by decide +kernel
theorem dX6_draw_124 : decode cX6_draw 124 = .ok (.iaload, 1) := by decide +kernel
theorem dX6_draw_125 : decode cX6_draw 125 = .ok (.iload 4, 2) := by decide +kernel
theorem dX6_draw_127 : decode cX6_draw 127 = .ok (.isub, 1) := by decide +kernel
theorem dX6_draw_128 : decode cX6_draw 128 = .ok (.iastore, 1) := by decide +kernel
theorem dX6_draw_129 : decode cX6_draw 129 = .ok (.iload 4, 2) := by decide +kernel
theorem dX6_draw_131 : decode cX6_draw 131 = .ok (.ifCond .le 36, 3) := by decide +kernel
theorem dX6_draw_134 : decode cX6_draw 134 = .ok (.aload_n 0, 1) := by decide +kernel
theorem dX6_draw_135 : decode cX6_draw 135 = .ok (.invokevirtual 163, 3) := by decide +kernel
theorem dX6_draw_138 : decode cX6_draw 138 = .ok (.ifCond .ne 29, 3) := by decide +kernel
theorem dX6_draw_141 : decode cX6_draw 141 = .ok (.iinc 4 (-1), 3) := by decide +kernel
theorem dX6_draw_144 : decode cX6_draw 144 = .ok (.aload_n 0, 1) := by decide +kernel
theorem dX6_draw_145 : decode cX6_draw 145 = .ok (.getfield 19, 3) := by decide +kernel
theorem dX6_draw_148 : decode cX6_draw 148 = .ok (.iload_n 1, 1) := by decide +kernel
theorem dX6_draw_149 : decode cX6_draw 149 = .ok (.dup2, 1) := by decide +kernel
theorem dX6_draw_150 : decode cX6_draw 150 = .ok (.iaload, 1) := by decide +kernel
theorem dX6_draw_151 : decode cX6_draw 151 = .ok (.iconst 1, 1) := by decide +kernel
theorem dX6_draw_152 : decode cX6_draw 152 = .ok (.iadd, 1) := by decide +kernel
theorem dX6_draw_153 : decode cX6_draw 153 = .ok (.iastore, 1) := by decide +kernel
theorem dX6_draw_154 : decode cX6_draw 154 = .ok (.aload_n 0, 1) := by decide +kernel
theorem dX6_draw_155 : decode cX6_draw 155 = .ok (.getfield 22, 3) := by decide +kernel
theorem dX6_draw_158 : decode cX6_draw 158 = .ok (.iload_n 2, 1) := by decide +kernel
theorem dX6_draw_159 : decode cX6_draw 159 = .ok (.dup2, 1) := by decide +kernel
theorem dX6_draw_160 : decode cX6_draw 160 = .ok (.iaload, 1) := by decide +kernel
theorem dX6_draw_161 : decode cX6_draw 161 = .ok (.iconst 1, 1) := by decide +kernel
theorem dX6_draw_162 : decode cX6_draw 162 = .ok (.iadd, 1) := by decide +kernel
theorem dX6_draw_163 : decode cX6_draw 163 = .ok (.iastore, 1) := by decide +kernel
theorem dX6_draw_164 : decode cX6_draw 164 = .ok (.goto (-35), 3) := by decide +kernel
theorem dX6_draw_167 : decode cX6_draw 167 = .ok (.aload_n 0, 1) := by decide +kernel
theorem dX6_draw_168 : decode cX6_draw 168 = .ok (.getfield 28, 3) := by decide +kernel
theorem dX6_draw_171 : decode cX6_draw 171 = .ok (.bipush 6, 2) := by decide +kernel
theorem dX6_draw_173 : decode cX6_draw 173 = .ok (.iload_n 1, 1) := by decide +kernel
theorem dX6_draw_174 : decode cX6_draw 174 = .ok (.imul, 1) := by decide +kernel
theorem dX6_draw_175 : decode cX6_draw 175 = .ok (.iload_n 2, 1) := by decide +kernel
theorem dX6_draw_176 : decode cX6_draw 176 = .ok (.iadd, 1) := by decide +kernel
theorem dX6_draw_177 : decode cX6_draw 177 = .ok (.iload 4, 2) := by decide +kernel
theorem dX6_draw_179 : decode cX6_draw 179 = .ok (.iastore, 1) := by decide +kernel
theorem dX6_draw_180 : decode cX6_draw 180 = .ok (.iinc 2 1, 3) := by decide +kernel
theorem dX6_draw_183 : decode cX6_draw 183 = .ok (.goto (-160), 3) := by decide +kernel
theorem dX6_draw_186 : decode cX6_draw 186 = .ok (.iinc 1 1, 3) := by decide +kernel
theorem dX6_draw_189 : decode cX6_draw 189 = .ok (.goto (-178), 3) := by decide +kernel
theorem dX6_draw_192 : decode cX6_draw 192 = .ok (.iconst 1, 1) := by decide +kernel
theorem dX6_draw_193 : decode cX6_draw 193 = .ok (.ireturn, 1) := by decide +kernel
theorem dX6_draws_0 : decode cX6_draws 0 = .ok (.aload_n 0, 1) := by decide +kernel
theorem dX6_draws_1 : decode cX6_draws 1 = .ok (.iload_n 1, 1) := by decide +kernel
theorem dX6_draws_2 : decode cX6_draws 2 = .ok (.invokevirtual 65, 3) := by decide +kernel
theorem dX6_draws_5 : decode cX6_draws 5 = .ok (.ifCond .eq 11, 3) := by decide +kernel
theorem dX6_draws_8 : decode cX6_draws 8 = .ok (.aload_n 0, 1) := by decide +kernel
theorem dX6_draws_9 : decode cX6_draws 9 = .ok (.iload_n 2, 1) := by decide +kernel
theorem dX6_draws_10 : decode cX6_draws 10 = .ok (.invokevirtual 73, 3) := by decide +kernel
theorem dX6_draws_13 : decode cX6_draws 13 = .ok (.ifCond .ne 8, 3) := by decide +kernel
theorem dX6_draws_16 : decode cX6_draws 16 = .ok (.aload_n 0, 1) := by decide +kernel
theorem dX6_draws_17 : decode cX6_draws 17 = .ok (.invokevirtual 43, 3) := by decide +kernel
theorem dX6_draws_20 : decode cX6_draws 20 = .ok (.ireturn, 1) := by decide +kernel
theorem dX6_draws_21 : decode cX6_draws 21 = .ok (.aload_n 0, 1) := by decide +kernel
theorem dX6_draws_22 : decode cX6_draws 22 = .ok (.invokevirtual 179, 3) := by decide +kernel
theorem dX6_draws_25 : decode cX6_draws 25 = .ok (.ifCond .eq 17, 3) := by decide +kernel
theorem dX6_draws_28 : decode cX6_draws 28 = .ok (.aload_n 0, 1) := by decide +kernel
theorem dX6_draws_29 : decode cX6_draws 29 = .ok (.getfield 28, 3) := by decide +kernel
theorem dX6_draws_32 : decode cX6_draws 32 = .ok (.bipush 6, 2) := by decide +kernel
theorem dX6_draws_34 : decode cX6_draws 34 = .ok (.iload_n 1, 1) := by decide +kernel
theorem dX6_draws_35 : decode cX6_draws 35 = .ok (.imul, 1) := by decide +kernel
theorem dX6_draws_36 : decode cX6_draws 36 = .ok (.iload_n 2, 1) := by decide +kernel
theorem dX6_draws_37 : decode cX6_draws 37 = .ok (.iadd, 1) := by decide +kernel
theorem dX6_draws_38 : decode cX6_draws 38 = .ok (.iaload, 1) := by decide +kernel
theorem dX6_draws_39 : decode cX6_draws 39 = .ok (.goto 7, 3) := by decide +kernel
theorem dX6_draws_42 : decode cX6_draws 42 = .ok (.aload_n 0, 1) := by decide +kernel
theorem dX6_draws_43 : decode cX6_draws 43 = .ok (.invokevirtual 47, 3) := by decide +kernel
theorem dX6_draws_46 : decode cX6_draws 46 = .ok (.ireturn, 1) := by decide +kernel
theorem dX6_length_0 : decode cX6_length 0 = .ok (.aload_n 0, 1) := by decide +kernel
theorem dX6_length_1 : decode cX6_length 1 = .ok (.iload_n 1, 1) := by decide +kernel
theorem dX6_length_2 : decode cX6_length 2 = .ok (.invokevirtual 65, 3) := by decide +kernel
theorem dX6_length_5 : decode cX6_length 5 = .ok (.ifCond .ne 8, 3) := by decide +kernel
theorem dX6_length_8 : decode cX6_length 8 = .ok (.aload_n 0, 1) := by decide +kernel
theorem dX6_length_9 : decode cX6_length 9 = .ok (.invokevirtual 43, 3) := by decide +kernel
theorem dX6_length_12 : decode cX6_length 12 = .ok (.ireturn, 1) := by decide +kernel
theorem dX6_length_13 : decode cX6_length 13 = .ok (.aload_n 0, 1) := by decide +kernel
theorem dX6_length_14 : decode cX6_length 14 = .ok (.invokevirtual 176, 3) := by decide +kernel
theorem dX6_length_17 : decode cX6_length 17 = .ok (.ifCond .eq 24, 3) := by decide +kernel
theorem dX6_length_20 : decode cX6_length 20 = .ok (.aload_n 0, 1) := by decide +kernel
theorem dX6_length_21 : decode cX6_length 21 = .ok (.iload_n 1, 1) := by decide +kernel
theorem dX6_length_22 : decode cX6_length 22 = .ok (.invokevirtual 126, 3) := by decide +kernel
theorem dX6_length_25 : decode cX6_length 25 = .ok (.aload_n 0, 1) := by decide +kernel
theorem dX6_length_26 : decode cX6_length 26 = .ok (.iload_n 1, 1) := by decide +kernel
theorem dX6_length_27 : decode cX6_length 27 = .ok (.aload_n 0, 1) := by decide +kernel
theorem dX6_length_28 : decode cX6_length 28 = .ok (.getfield 13, 3) := by decide +kernel
theorem dX6_length_31 : decode cX6_length 31 = .ok (.bipush 6, 2) := by decide +kernel
theorem dX6_length_33 : decode cX6_length 33 = .ok (.iaload, 1) := by decide +kernel
theorem dX6_length_34 : decode cX6_length 34 = .ok (.invokevirtual 129, 3) := by decide +kernel
theorem dX6_length_37 : decode cX6_length 37 = .ok (.iadd, 1) := by decide +kernel
theorem dX6_length_38 : decode cX6_length 38 = .ok (.goto 7, 3) := by decide +kernel
theorem dX6_length_41 : decode cX6_length 41 = .ok (.aload_n 0, 1) := by decide +kernel
theorem dX6_length_42 : decode cX6_length 42 = .ok (.invokevirtual 47, 3) := by decide +kernel
theorem dX6_length_45 : decode cX6_length 45 = .ok (.ireturn, 1) := by decide +kernel
theorem dX6_free_0 : decode cX6_free 0 = .ok (.aload_n 0, 1) := by decide +kernel
theorem dX6_free_1 : decode cX6_free 1 = .ok (.invokevirtual 179, 3) := by decide +kernel
theorem dX6_free_4 : decode cX6_free 4 = .ok (.ifCond .ne 5, 3) := by decide +kernel
theorem dX6_free_7 : decode cX6_free 7 = .ok (.iconst (-1), 1) := by decide +kernel
theorem dX6_free_8 : decode cX6_free 8 = .ok (.ireturn, 1) := by decide +kernel
theorem dX6_free_9 : decode cX6_free 9 = .ok (.aload_n 0, 1) := by decide +kernel
theorem dX6_free_10 : decode cX6_free 10 = .ok (.iload_n 1, 1) := by decide +kernel
theorem dX6_free_11 : decode cX6_free 11 = .ok (.invokevirtual 154, 3) := by decide +kernel
theorem dX6_free_14 : decode cX6_free 14 = .ok (.istore_n 2, 1) := by decide +kernel
theorem dX6_free_15 : decode cX6_free 15 = .ok (.iconst 0, 1) := by decide +kernel
theorem dX6_free_16 : decode cX6_free 16 = .ok (.istore_n 3, 1) := by decide +kernel
theorem dX6_free_17 : decode cX6_free 17 = .ok (.iload_n 3, 1) := by decide +kernel
theorem dX6_free_18 : decode cX6_free 18 = .ok (.aload_n 0, 1) := by decide +kernel
theorem dX6_free_19 : decode cX6_free 19 = .ok (.getfield 13, 3) := by decide +kernel
theorem dX6_free_22 : decode cX6_free 22 = .ok (.iconst 0, 1) := by decide +kernel
theorem dX6_free_23 : decode cX6_free 23 = .ok (.iaload, 1) := by decide +kernel
theorem dX6_free_24 : decode cX6_free 24 = .ok (.if_icmp .ge 23, 3) := by decide +kernel
theorem dX6_free_27 : decode cX6_free 27 = .ok (.iload_n 2, 1) := by decide +kernel
theorem dX6_free_28 : decode cX6_free 28 = .ok (.aload_n 0, 1) := by decide +kernel
theorem dX6_free_29 : decode cX6_free 29 = .ok (.getfield 28, 3) := by decide +kernel
theorem dX6_free_32 : decode cX6_free 32 = .ok (.bipush 6, 2) := by decide +kernel
theorem dX6_free_34 : decode cX6_free 34 = .ok (.iload_n 3, 1) := by decide +kernel
theorem dX6_free_35 : decode cX6_free 35 = .ok (.imul, 1) := by decide +kernel
theorem dX6_free_36 : decode cX6_free 36 = .ok (.iload_n 1, 1) := by decide +kernel
theorem dX6_free_37 : decode cX6_free 37 = .ok (.iadd, 1) := by decide +kernel
theorem dX6_free_38 : decode cX6_free 38 = .ok (.iaload, 1) := by decide +kernel
theorem dX6_free_39 : decode cX6_free 39 = .ok (.isub, 1) := by decide +kernel
theorem dX6_free_40 : decode cX6_free 40 = .ok (.istore_n 2, 1) := by decide +kernel
theorem dX6_free_41 : decode cX6_free 41 = .ok (.iinc 3 1, 3) := by decide +kernel
theorem dX6_free_44 : decode cX6_free 44 = .ok (.goto (-27), 3) := by decide +kernel
theorem dX6_free_47 : decode cX6_free 47 = .ok (.iload_n 2, 1) := by decide +kernel
theorem dX6_free_48 : decode cX6_free 48 = .ok (.ireturn, 1) := by decide +kernel
theorem dX6_toldPocket_0 : decode cX6_toldPocket 0 = .ok (.iload_n 2, 1) := by decide +kernel
theorem dX6_toldPocket_1 : decode cX6_toldPocket 1 = .ok (.ifCond .ne 17, 3) := by decide +kernel
theorem dX6_toldPocket_4 : decode cX6_toldPocket 4 = .ok (.aload_n 0, 1) := by decide +kernel
theorem dX6_toldPocket_5 : decode cX6_toldPocket 5 = .ok (.getfield 13, 3) := by decide +kernel
theorem dX6_toldPocket_8 : decode cX6_toldPocket 8 = .ok (.bipush 111, 2) := by decide +kernel
theorem dX6_toldPocket_10 : decode cX6_toldPocket 10 = .ok (.iconst 2, 1) := by decide +kernel
theorem dX6_toldPocket_11 : decode cX6_toldPocket 11 = .ok (.iload_n 1, 1) := by decide +kernel
theorem dX6_toldPocket_12 : decode cX6_toldPocket 12 = .ok (.imul, 1) := by decide +kernel
theorem dX6_toldPocket_13 : decode cX6_toldPocket 13 = .ok (.iadd, 1) := by decide +kernel
theorem dX6_toldPocket_14 : decode cX6_toldPocket 14 = .ok (.iaload, 1) := by decide +kernel
theorem dX6_toldPocket_15 : decode cX6_toldPocket 15 = .ok (.goto 53, 3) := by decide +kernel
theorem dX6_toldPocket_18 : decode cX6_toldPocket 18 = .ok (.iload_n 2, 1) := by decide +kernel
theorem dX6_toldPocket_19 : decode cX6_toldPocket 19 = .ok (.iconst 1, 1) := by decide +kernel
theorem dX6_toldPocket_20 : decode cX6_toldPocket 20 = .ok (.if_icmp .ne 30, 3) := by decide +kernel
theorem dX6_toldPocket_23 : decode cX6_toldPocket 23 = .ok (.aload_n 0, 1) := by decide +kernel
theorem dX6_toldPocket_24 : decode cX6_toldPocket 24 = .ok (.getfield 13, 3) := by decide +kernel
theorem dX6_toldPocket_27 : decode cX6_toldPocket 27 = .ok (.bipush 111, 2) := by decide +kernel
theorem dX6_toldPocket_29 : decode cX6_toldPocket 29 = .ok (.iconst 2, 1) := by decide +kernel
theorem dX6_toldPocket_30 : decode cX6_toldPocket 30 = .ok (.iload_n 1, 1) := by decide +kernel
theorem dX6_toldPocket_31 : decode cX6_toldPocket 31 = .ok (.imul, 1) := by decide +kernel
theorem dX6_toldPocket_32 : decode cX6_toldPocket 32 = .ok (.iadd, 1) := by decide +kernel
theorem dX6_toldPocket_33 : decode cX6_toldPocket 33 = .ok (.iconst 1, 1) := by decide +kernel
theorem dX6_toldPocket_34 : decode cX6_toldPocket 34 = .ok (.iadd, 1) := by decide +kernel
theorem dX6_toldPocket_35 : decode cX6_toldPocket 35 = .ok (.iaload, 1) := by decide +kernel
theorem dX6_toldPocket_36 : decode cX6_toldPocket 36 = .ok (.iconst 1, 1) := by decide +kernel
theorem dX6_toldPocket_37 : decode cX6_toldPocket 37 = .ok (.aload_n 0, 1) := by decide +kernel
theorem dX6_toldPocket_38 : decode cX6_toldPocket 38 = .ok (.getfield 13, 3) := by decide +kernel
theorem dX6_toldPocket_41 : decode cX6_toldPocket 41 = .ok (.iconst 0, 1) := by decide +kernel
theorem dX6_toldPocket_42 : decode cX6_toldPocket 42 = .ok (.iaload, 1) := by decide +kernel
theorem dX6_toldPocket_43 : decode cX6_toldPocket 43 = .ok (.ishl, 1) := by decide +kernel
theorem dX6_toldPocket_44 : decode cX6_toldPocket 44 = .ok (.iconst 1, 1) := by decide +kernel
theorem dX6_toldPocket_45 : decode cX6_toldPocket 45 = .ok (.isub, 1) := by decide +kernel
theorem dX6_toldPocket_46 : decode cX6_toldPocket 46 = .ok (.iand, 1) := by decide +kernel
theorem dX6_toldPocket_47 : decode cX6_toldPocket 47 = .ok (.goto 21, 3) := by decide +kernel
theorem dX6_toldPocket_50 : decode cX6_toldPocket 50 = .ok (.iload_n 2, 1) := by decide +kernel
theorem dX6_toldPocket_51 : decode cX6_toldPocket 51 = .ok (.iconst 2, 1) := by decide +kernel
theorem dX6_toldPocket_52 : decode cX6_toldPocket 52 = .ok (.if_icmp .ne 11, 3) := by decide +kernel
theorem dX6_toldPocket_55 : decode cX6_toldPocket 55 = .ok (.aload_n 0, 1) := by decide +kernel
theorem dX6_toldPocket_56 : decode cX6_toldPocket 56 = .ok (.iload_n 1, 1) := by decide +kernel
theorem dX6_toldPocket_57 : decode cX6_toldPocket 57 = .ok (.invokevirtual 154, 3) := by decide +kernel
theorem dX6_toldPocket_60 : decode cX6_toldPocket 60 = .ok (.goto 8, 3) := by decide +kernel
theorem dX6_toldPocket_63 : decode cX6_toldPocket 63 = .ok (.aload_n 0, 1) := by decide +kernel
theorem dX6_toldPocket_64 : decode cX6_toldPocket 64 = .ok (.iload_n 1, 1) := by decide +kernel
theorem dX6_toldPocket_65 : decode cX6_toldPocket 65 = .ok (.invokevirtual 182, 3) := by decide +kernel
theorem dX6_toldPocket_68 : decode cX6_toldPocket 68 = .ok (.ireturn, 1) := by decide +kernel
theorem dX6_about_0 : decode cX6_about 0 = .ok (.aload_n 0, 1) := by decide +kernel
theorem dX6_about_1 : decode cX6_about 1 = .ok (.iload_n 1, 1) := by decide +kernel
theorem dX6_about_2 : decode cX6_about 2 = .ok (.invokevirtual 73, 3) := by decide +kernel
theorem dX6_about_5 : decode cX6_about 5 = .ok (.ifCond .eq 21, 3) := by decide +kernel
theorem dX6_about_8 : decode cX6_about 8 = .ok (.iload_n 2, 1) := by decide +kernel
theorem dX6_about_9 : decode cX6_about 9 = .ok (.iconst 0, 1) := by decide +kernel
theorem dX6_about_10 : decode cX6_about 10 = .ok (.iconst 3, 1) := by decide +kernel
theorem dX6_about_11 : decode cX6_about 11 = .ok (.invokestatic 61, 3) := by decide +kernel
theorem dX6_about_14 : decode cX6_about 14 = .ok (.ifCond .eq 12, 3) := by decide +kernel
theorem dX6_about_17 : decode cX6_about 17 = .ok (.aload_n 0, 1) := by decide +kernel
theorem dX6_about_18 : decode cX6_about 18 = .ok (.iload_n 1, 1) := by decide +kernel
theorem dX6_about_19 : decode cX6_about 19 = .ok (.iload_n 2, 1) := by decide +kernel
theorem dX6_about_20 : decode cX6_about 20 = .ok (.invokevirtual 185, 3) := by decide +kernel
theorem dX6_about_23 : decode cX6_about 23 = .ok (.goto 7, 3) := by decide +kernel
theorem dX6_about_26 : decode cX6_about 26 = .ok (.aload_n 0, 1) := by decide +kernel
theorem dX6_about_27 : decode cX6_about 27 = .ok (.invokevirtual 43, 3) := by decide +kernel
theorem dX6_about_30 : decode cX6_about 30 = .ok (.ireturn, 1) := by decide +kernel
theorem dX6_setting_0 : decode cX6_setting 0 = .ok (.iload_n 1, 1) := by decide +kernel
theorem dX6_setting_1 : decode cX6_setting 1 = .ok (.iconst 0, 1) := by decide +kernel
theorem dX6_setting_2 : decode cX6_setting 2 = .ok (.bipush 6, 2) := by decide +kernel
theorem dX6_setting_4 : decode cX6_setting 4 = .ok (.invokestatic 61, 3) := by decide +kernel
theorem dX6_setting_7 : decode cX6_setting 7 = .ok (.ifCond .eq 14, 3) := by decide +kernel
theorem dX6_setting_10 : decode cX6_setting 10 = .ok (.aload_n 0, 1) := by decide +kernel
theorem dX6_setting_11 : decode cX6_setting 11 = .ok (.getfield 13, 3) := by decide +kernel
theorem dX6_setting_14 : decode cX6_setting 14 = .ok (.iconst 2, 1) := by decide +kernel
theorem dX6_setting_15 : decode cX6_setting 15 = .ok (.iload_n 1, 1) := by decide +kernel
theorem dX6_setting_16 : decode cX6_setting 16 = .ok (.iadd, 1) := by decide +kernel
theorem dX6_setting_17 : decode cX6_setting 17 = .ok (.iaload, 1) := by decide +kernel
theorem dX6_setting_18 : decode cX6_setting 18 = .ok (.goto 7, 3) := by decide +kernel
theorem dX6_setting_21 : decode cX6_setting 21 = .ok (.aload_n 0, 1) := by decide +kernel
theorem dX6_setting_22 : decode cX6_setting 22 = .ok (.invokevirtual 43, 3) := by decide +kernel
theorem dX6_setting_25 : decode cX6_setting 25 = .ok (.ireturn, 1) := by decide +kernel
theorem dX6_countOf_0 : decode cX6_countOf 0 = .ok (.iconst 0, 1) := by decide +kernel
theorem dX6_countOf_1 : decode cX6_countOf 1 = .ok (.istore_n 2, 1) := by decide +kernel
theorem dX6_countOf_2 : decode cX6_countOf 2 = .ok (.iload_n 1, 1) := by decide +kernel
theorem dX6_countOf_3 : decode cX6_countOf 3 = .ok (.iconst 5, 1) := by decide +kernel
theorem dX6_countOf_4 : decode cX6_countOf 4 = .ok (.if_icmp .ne 29, 3) := by decide +kernel
theorem dX6_countOf_7 : decode cX6_countOf 7 = .ok (.iconst 0, 1) := by decide +kernel
theorem dX6_countOf_8 : decode cX6_countOf 8 = .ok (.istore_n 3, 1) := by decide +kernel
theorem dX6_countOf_9 : decode cX6_countOf 9 = .ok (.iload_n 3, 1) := by decide +kernel
theorem dX6_countOf_10 : decode cX6_countOf 10 = .ok (.aload_n 0, 1) := by decide +kernel
theorem dX6_countOf_11 : decode cX6_countOf 11 = .ok (.getfield 13, 3) := by decide +kernel
theorem dX6_countOf_14 : decode cX6_countOf 14 = .ok (.iconst 1, 1) := by decide +kernel
theorem dX6_countOf_15 : decode cX6_countOf 15 = .ok (.iaload, 1) := by decide +kernel
theorem dX6_countOf_16 : decode cX6_countOf 16 = .ok (.if_icmp .ge 17, 3) := by decide +kernel
theorem dX6_countOf_19 : decode cX6_countOf 19 = .ok (.iload_n 2, 1) := by decide +kernel
theorem dX6_countOf_20 : decode cX6_countOf 20 = .ok (.aload_n 0, 1) := by decide +kernel
theorem dX6_countOf_21 : decode cX6_countOf 21 = .ok (.iload_n 3, 1) := by decide +kernel
theorem dX6_countOf_22 : decode cX6_countOf 22 = .ok (.invokevirtual 154, 3) := by decide +kernel
theorem dX6_countOf_25 : decode cX6_countOf 25 = .ok (.iadd, 1) := by decide +kernel
theorem dX6_countOf_26 : decode cX6_countOf 26 = .ok (.istore_n 2, 1) := by decide +kernel
theorem dX6_countOf_27 : decode cX6_countOf 27 = .ok (.iinc 3 1, 3) := by decide +kernel
theorem dX6_countOf_30 : decode cX6_countOf 30 = .ok (.goto (-21), 3) := by decide +kernel
theorem dX6_countOf_33 : decode cX6_countOf 33 = .ok (.iload_n 1, 1) := by decide +kernel
theorem dX6_countOf_34 : decode cX6_countOf 34 = .ok (.bipush 6, 2) := by decide +kernel
theorem dX6_countOf_36 : decode cX6_countOf 36 = .ok (.if_icmp .ne 36, 3) := by decide +kernel
theorem dX6_countOf_39 : decode cX6_countOf 39 = .ok (.iconst 0, 1) := by decide +kernel
theorem dX6_countOf_40 : decode cX6_countOf 40 = .ok (.istore_n 3, 1) := by decide +kernel
theorem dX6_countOf_41 : decode cX6_countOf 41 = .ok (.iload_n 3, 1) := by decide +kernel
theorem dX6_countOf_42 : decode cX6_countOf 42 = .ok (.aload_n 0, 1) := by decide +kernel
theorem dX6_countOf_43 : decode cX6_countOf 43 = .ok (.getfield 13, 3) := by decide +kernel
theorem dX6_countOf_46 : decode cX6_countOf 46 = .ok (.iconst 0, 1) := by decide +kernel
theorem dX6_countOf_47 : decode cX6_countOf 47 = .ok (.iaload, 1) := by decide +kernel
theorem dX6_countOf_48 : decode cX6_countOf 48 = .ok (.if_icmp .ge 24, 3) := by decide +kernel
theorem dX6_countOf_51 : decode cX6_countOf 51 = .ok (.iload_n 2, 1) := by decide +kernel
theorem dX6_countOf_52 : decode cX6_countOf 52 = .ok (.aload_n 0, 1) := by decide +kernel
theorem dX6_countOf_53 : decode cX6_countOf 53 = .ok (.iload_n 3, 1) := by decide +kernel
theorem dX6_countOf_54 : decode cX6_countOf 54 = .ok (.aload_n 0, 1) := by decide +kernel
theorem dX6_countOf_55 : decode cX6_countOf 55 = .ok (.getfield 13, 3) := by decide +kernel
theorem dX6_countOf_58 : decode cX6_countOf 58 = .ok (.bipush 6, 2) := by decide +kernel
theorem dX6_countOf_60 : decode cX6_countOf 60 = .ok (.iaload, 1) := by decide +kernel
theorem dX6_countOf_61 : decode cX6_countOf 61 = .ok (.invokevirtual 135, 3) := by decide +kernel
theorem dX6_countOf_64 : decode cX6_countOf 64 = .ok (.iadd, 1) := by decide +kernel
theorem dX6_countOf_65 : decode cX6_countOf 65 = .ok (.istore_n 2, 1) := by decide +kernel
theorem dX6_countOf_66 : decode cX6_countOf 66 = .ok (.iinc 3 1, 3) := by decide +kernel
theorem dX6_countOf_69 : decode cX6_countOf 69 = .ok (.goto (-28), 3) := by decide +kernel
theorem dX6_countOf_72 : decode cX6_countOf 72 = .ok (.iload_n 1, 1) := by decide +kernel
theorem dX6_countOf_73 : decode cX6_countOf 73 = .ok (.iconst 2, 1) := by decide +kernel
theorem dX6_countOf_74 : decode cX6_countOf 74 = .ok (.if_icmp .ge 12, 3) := by decide +kernel
theorem dX6_countOf_77 : decode cX6_countOf 77 = .ok (.aload_n 0, 1) := by decide +kernel
theorem dX6_countOf_78 : decode cX6_countOf 78 = .ok (.getfield 13, 3) := by decide +kernel
theorem dX6_countOf_81 : decode cX6_countOf 81 = .ok (.iload_n 1, 1) := by decide +kernel
theorem dX6_countOf_82 : decode cX6_countOf 82 = .ok (.iaload, 1) := by decide +kernel
theorem dX6_countOf_83 : decode cX6_countOf 83 = .ok (.goto 51, 3) := by decide +kernel
theorem dX6_countOf_86 : decode cX6_countOf 86 = .ok (.iload_n 1, 1) := by decide +kernel
theorem dX6_countOf_87 : decode cX6_countOf 87 = .ok (.iconst 2, 1) := by decide +kernel
theorem dX6_countOf_88 : decode cX6_countOf 88 = .ok (.if_icmp .ne 13, 3) := by decide +kernel
theorem dX6_countOf_91 : decode cX6_countOf 91 = .ok (.aload_n 0, 1) := by decide +kernel
theorem dX6_countOf_92 : decode cX6_countOf 92 = .ok (.invokevirtual 123, 3) := by decide +kernel
theorem dX6_countOf_95 : decode cX6_countOf 95 = .ok (.bipush 100, 2) := by decide +kernel
theorem dX6_countOf_97 : decode cX6_countOf 97 = .ok (.iadd, 1) := by decide +kernel
theorem dX6_countOf_98 : decode cX6_countOf 98 = .ok (.goto 36, 3) := by decide +kernel
theorem dX6_countOf_101 : decode cX6_countOf 101 = .ok (.iload_n 1, 1) := by decide +kernel
theorem dX6_countOf_102 : decode cX6_countOf 102 = .ok (.iconst 3, 1) := by decide +kernel
theorem dX6_countOf_103 : decode cX6_countOf 103 = .ok (.if_icmp .ne 18, 3) := by decide +kernel
theorem dX6_countOf_106 : decode cX6_countOf 106 = .ok (.aload_n 0, 1) := by decide +kernel
theorem dX6_countOf_107 : decode cX6_countOf 107 = .ok (.invokevirtual 176, 3) := by decide +kernel
theorem dX6_countOf_110 : decode cX6_countOf 110 = .ok (.ifCond .eq 7, 3) := by decide +kernel
theorem dX6_countOf_113 : decode cX6_countOf 113 = .ok (.iconst 1, 1) := by decide +kernel
theorem dX6_countOf_114 : decode cX6_countOf 114 = .ok (.goto 20, 3) := by decide +kernel
theorem dX6_countOf_117 : decode cX6_countOf 117 = .ok (.iconst 0, 1) := by decide +kernel
theorem dX6_countOf_118 : decode cX6_countOf 118 = .ok (.goto 16, 3) := by decide +kernel
theorem dX6_countOf_121 : decode cX6_countOf 121 = .ok (.iload_n 1, 1) := by decide +kernel
theorem dX6_countOf_122 : decode cX6_countOf 122 = .ok (.iconst 4, 1) := by decide +kernel
theorem dX6_countOf_123 : decode cX6_countOf 123 = .ok (.if_icmp .ne 10, 3) := by decide +kernel
theorem dX6_countOf_126 : decode cX6_countOf 126 = .ok (.aload_n 0, 1) := by decide +kernel
theorem dX6_countOf_127 : decode cX6_countOf 127 = .ok (.invokevirtual 170, 3) := by decide +kernel
theorem dX6_countOf_130 : decode cX6_countOf 130 = .ok (.goto 4, 3) := by decide +kernel
theorem dX6_countOf_133 : decode cX6_countOf 133 = .ok (.iload_n 2, 1) := by decide +kernel
theorem dX6_countOf_134 : decode cX6_countOf 134 = .ok (.ireturn, 1) := by decide +kernel
theorem dX6_count_0 : decode cX6_count 0 = .ok (.iload_n 1, 1) := by decide +kernel
theorem dX6_count_1 : decode cX6_count 1 = .ok (.iconst 0, 1) := by decide +kernel
theorem dX6_count_2 : decode cX6_count 2 = .ok (.bipush 6, 2) := by decide +kernel
theorem dX6_count_4 : decode cX6_count 4 = .ok (.invokestatic 61, 3) := by decide +kernel
theorem dX6_count_7 : decode cX6_count 7 = .ok (.ifCond .eq 11, 3) := by decide +kernel
theorem dX6_count_10 : decode cX6_count 10 = .ok (.aload_n 0, 1) := by decide +kernel
theorem dX6_count_11 : decode cX6_count 11 = .ok (.iload_n 1, 1) := by decide +kernel
theorem dX6_count_12 : decode cX6_count 12 = .ok (.invokevirtual 188, 3) := by decide +kernel
theorem dX6_count_15 : decode cX6_count 15 = .ok (.goto 7, 3) := by decide +kernel
theorem dX6_count_18 : decode cX6_count 18 = .ok (.aload_n 0, 1) := by decide +kernel
theorem dX6_count_19 : decode cX6_count 19 = .ok (.invokevirtual 43, 3) := by decide +kernel
theorem dX6_count_22 : decode cX6_count 22 = .ok (.ireturn, 1) := by decide +kernel
theorem dX6_skewOf_0 : decode cX6_skewOf 0 = .ok (.iconst 0, 1) := by decide +kernel
theorem dX6_skewOf_1 : decode cX6_skewOf 1 = .ok (.istore_n 3, 1) := by decide +kernel
theorem dX6_skewOf_2 : decode cX6_skewOf 2 = .ok (.iconst 1, 1) := by decide +kernel
theorem dX6_skewOf_3 : decode cX6_skewOf 3 = .ok (.istore 4, 2) := by decide +kernel
theorem dX6_skewOf_5 : decode cX6_skewOf 5 = .ok (.iload 4, 2) := by decide +kernel
theorem dX6_skewOf_7 : decode cX6_skewOf 7 = .ok (.iload_n 2, 1) := by decide +kernel
theorem dX6_skewOf_8 : decode cX6_skewOf 8 = .ok (.if_icmp .gt 29, 3) := by decide +kernel
theorem dX6_skewOf_11 : decode cX6_skewOf 11 = .ok (.iload_n 3, 1) := by decide +kernel
theorem dX6_skewOf_12 : decode cX6_skewOf 12 = .ok (.aload_n 0, 1) := by decide +kernel
theorem dX6_skewOf_13 : decode cX6_skewOf 13 = .ok (.iload_n 1, 1) := by decide +kernel
theorem dX6_skewOf_14 : decode cX6_skewOf 14 = .ok (.iload 4, 2) := by decide +kernel
theorem dX6_skewOf_16 : decode cX6_skewOf 16 = .ok (.invokevirtual 132, 3) := by decide +kernel
theorem dX6_skewOf_19 : decode cX6_skewOf 19 = .ok (.iconst 1, 1) := by decide +kernel
theorem dX6_skewOf_20 : decode cX6_skewOf 20 = .ok (.if_icmp .ne 7, 3) := by decide +kernel
theorem dX6_skewOf_23 : decode cX6_skewOf 23 = .ok (.iconst 2, 1) := by decide +kernel
theorem dX6_skewOf_24 : decode cX6_skewOf 24 = .ok (.goto 5, 3) := by decide +kernel
theorem dX6_skewOf_27 : decode cX6_skewOf 27 = .ok (.bipush (-2), 2) := by decide +kernel
theorem dX6_skewOf_29 : decode cX6_skewOf 29 = .ok (.iadd, 1) := by decide +kernel
theorem dX6_skewOf_30 : decode cX6_skewOf 30 = .ok (.istore_n 3, 1) := by decide +kernel
theorem dX6_skewOf_31 : decode cX6_skewOf 31 = .ok (.iinc 4 1, 3) := by decide +kernel
theorem dX6_skewOf_34 : decode cX6_skewOf 34 = .ok (.goto (-29), 3) := by decide +kernel
theorem dX6_skewOf_37 : decode cX6_skewOf 37 = .ok (.iload_n 3, 1) := by decide +kernel
theorem dX6_skewOf_38 : decode cX6_skewOf 38 = .ok (.ireturn, 1) := by decide +kernel
theorem dX6_skew_0 : decode cX6_skew 0 = .ok (.aload_n 0, 1) := by decide +kernel
theorem dX6_skew_1 : decode cX6_skew 1 = .ok (.iload_n 1, 1) := by decide +kernel
theorem dX6_skew_2 : decode cX6_skew 2 = .ok (.iload_n 2, 1) := by decide +kernel
theorem dX6_skew_3 : decode cX6_skew 3 = .ok (.invokevirtual 147, 3) := by decide +kernel
theorem dX6_skew_6 : decode cX6_skew 6 = .ok (.ifCond .eq 15, 3) := by decide +kernel
theorem dX6_skew_9 : decode cX6_skew 9 = .ok (.aload_n 0, 1) := by decide +kernel
theorem dX6_skew_10 : decode cX6_skew 10 = .ok (.iload_n 1, 1) := by decide +kernel
theorem dX6_skew_11 : decode cX6_skew 11 = .ok (.iload_n 2, 1) := by decide +kernel
theorem dX6_skew_12 : decode cX6_skew 12 = .ok (.invokevirtual 191, 3) := by decide +kernel
theorem dX6_skew_15 : decode cX6_skew 15 = .ok (.bipush 100, 2) := by decide +kernel
theorem dX6_skew_17 : decode cX6_skew 17 = .ok (.iadd, 1) := by decide +kernel
theorem dX6_skew_18 : decode cX6_skew 18 = .ok (.goto 7, 3) := by decide +kernel
theorem dX6_skew_21 : decode cX6_skew 21 = .ok (.aload_n 0, 1) := by decide +kernel
theorem dX6_skew_22 : decode cX6_skew 22 = .ok (.invokevirtual 43, 3) := by decide +kernel
theorem dX6_skew_25 : decode cX6_skew 25 = .ok (.ireturn, 1) := by decide +kernel
theorem dX6_fewestBumps_0 : decode cX6_fewestBumps 0 = .ok (.iconst 0, 1) := by decide +kernel
theorem dX6_fewestBumps_1 : decode cX6_fewestBumps 1 = .ok (.istore_n 2, 1) := by decide +kernel
theorem dX6_fewestBumps_2 : decode cX6_fewestBumps 2 = .ok (.iload_n 2, 1) := by decide +kernel
theorem dX6_fewestBumps_3 : decode cX6_fewestBumps 3 = .ok (.bipush 17, 2) := by decide +kernel
theorem dX6_fewestBumps_5 : decode cX6_fewestBumps 5 = .ok (.if_icmp .ge 28, 3) := by decide +kernel
theorem dX6_fewestBumps_8 : decode cX6_fewestBumps 8 = .ok (.aload_n 0, 1) := by decide +kernel
theorem dX6_fewestBumps_9 : decode cX6_fewestBumps 9 = .ok (.getfield 31, 3) := by decide +kernel
theorem dX6_fewestBumps_12 : decode cX6_fewestBumps 12 = .ok (.iload_n 2, 1) := by decide +kernel
theorem dX6_fewestBumps_13 : decode cX6_fewestBumps 13 = .ok (.iload_n 2, 1) := by decide +kernel
theorem dX6_fewestBumps_14 : decode cX6_fewestBumps 14 = .ok (.bipush 8, 2) := by decide +kernel
theorem dX6_fewestBumps_16 : decode cX6_fewestBumps 16 = .ok (.if_icmp .ne 7, 3) := by decide +kernel
theorem dX6_fewestBumps_19 : decode cX6_fewestBumps 19 = .ok (.iconst 0, 1) := by decide +kernel
theorem dX6_fewestBumps_20 : decode cX6_fewestBumps 20 = .ok (.goto 6, 3) := by decide +kernel
theorem dX6_fewestBumps_23 : decode cX6_fewestBumps 23 = .ok (.sipush 1000, 3) := by decide +kernel
theorem dX6_fewestBumps_26 : decode cX6_fewestBumps 26 = .ok (.iastore, 1) := by decide +kernel
theorem dX6_fewestBumps_27 : decode cX6_fewestBumps 27 = .ok (.iinc 2 1, 3) := by decide +kernel
theorem dX6_fewestBumps_30 : decode cX6_fewestBumps 30 = .ok (.goto (-28), 3) := by decide +kernel
theorem dX6_fewestBumps_33 : decode cX6_fewestBumps 33 = .ok (.iconst 0, 1) := by decide +kernel
theorem dX6_fewestBumps_34 : decode cX6_fewestBumps 34 = .ok (.istore_n 2, 1) := by decide +kernel
theorem dX6_fewestBumps_35 : decode cX6_fewestBumps 35 = .ok (.iload_n 2, 1) := by decide +kernel
theorem dX6_fewestBumps_36 : decode cX6_fewestBumps 36 = .ok (.aload_n 0, 1) := by decide +kernel
theorem dX6_fewestBumps_37 : decode cX6_fewestBumps 37 = .ok (.iload_n 1, 1) := by decide +kernel
theorem dX6_fewestBumps_38 : decode cX6_fewestBumps 38 = .ok (.invokevirtual 69, 3) := by decide +kernel
theorem dX6_fewestBumps_41 : decode cX6_fewestBumps 41 = .ok (.if_icmp .ge 279, 3) := by decide +kernel
theorem dX6_fewestBumps_44 : decode cX6_fewestBumps 44 = .ok (.iload_n 2, 1) := by decide +kernel
theorem dX6_fewestBumps_45 : decode cX6_fewestBumps 45 = .ok (.ifCond .ne 7, 3) := by decide +kernel
theorem dX6_fewestBumps_48 : decode cX6_fewestBumps 48 = .ok (.iconst 0, 1) := by decide +kernel
theorem dX6_fewestBumps_49 : decode cX6_fewestBumps 49 = .ok (.goto 18, 3) := by decide +kernel
theorem dX6_fewestBumps_52 : decode cX6_fewestBumps 52 = .ok (.aload_n 0, 1) := by decide +kernel
theorem dX6_fewestBumps_53 : decode cX6_fewestBumps 53 = .ok (.iload_n 1, 1) := by decide +kernel
theorem dX6_fewestBumps_54 : decode cX6_fewestBumps 54 = .ok (.iload_n 2, 1) := by decide +kernel
theorem dX6_fewestBumps_55 : decode cX6_fewestBumps 55 = .ok (.invokevirtual 132, 3) := by decide +kernel
theorem dX6_fewestBumps_58 : decode cX6_fewestBumps 58 = .ok (.iconst 1, 1) := by decide +kernel
theorem dX6_fewestBumps_59 : decode cX6_fewestBumps 59 = .ok (.if_icmp .ne 7, 3) := by decide +kernel
theorem dX6_fewestBumps_62 : decode cX6_fewestBumps 62 = .ok (.iconst 1, 1) := by decide +kernel
theorem dX6_fewestBumps_63 : decode cX6_fewestBumps 63 = .ok (.goto 4, 3) := by decide +kernel
theorem dX6_fewestBumps_66 : decode cX6_fewestBumps 66 = .ok (.iconst (-1), 1) := by decide +kernel
theorem dX6_fewestBumps_67 : decode cX6_fewestBumps 67 = .ok (.istore_n 3, 1) := by decide +kernel
theorem dX6_fewestBumps_68 : decode cX6_fewestBumps 68 = .ok (.aload_n 0, 1) := by decide +kernel
theorem dX6_fewestBumps_69 : decode cX6_fewestBumps 69 = .ok (.iload_n 1, 1) := by decide +kernel
theorem dX6_fewestBumps_70 : decode cX6_fewestBumps 70 = .ok (.iload_n 2, 1) := by decide +kernel
theorem dX6_fewestBumps_71 : decode cX6_fewestBumps 71 = .ok (.iconst 2, 1) := by decide +kernel
theorem dX6_fewestBumps_72 : decode cX6_fewestBumps 72 = .ok (.invokevirtual 151, 3) := by decide +kernel
theorem dX6_fewestBumps_75 : decode cX6_fewestBumps 75 = .ok (.istore 4, 2) := by decide +kernel
theorem dX6_fewestBumps_77 : decode cX6_fewestBumps 77 = .ok (.iconst 0, 1) := by decide +kernel
theorem dX6_fewestBumps_78 : decode cX6_fewestBumps 78 = .ok (.istore 5, 2) := by decide +kernel
theorem dX6_fewestBumps_80 : decode cX6_fewestBumps 80 = .ok (.iload 5, 2) := by decide +kernel
theorem dX6_fewestBumps_82 : decode cX6_fewestBumps 82 = .ok (.bipush 17, 2) := by decide +kernel
theorem dX6_fewestBumps_84 : decode cX6_fewestBumps 84 = .ok (.if_icmp .ge 19, 3) := by decide +kernel
theorem dX6_fewestBumps_87 : decode cX6_fewestBumps 87 = .ok (.aload_n 0, 1) := by decide +kernel
theorem dX6_fewestBumps_88 : decode cX6_fewestBumps 88 = .ok (.getfield 34, 3) := by decide +kernel
theorem dX6_fewestBumps_91 : decode cX6_fewestBumps 91 = .ok (.iload 5, 2) := by decide +kernel
theorem dX6_fewestBumps_93 : decode cX6_fewestBumps 93 = .ok (.sipush 1000, 3) := by decide +kernel
theorem dX6_fewestBumps_96 : decode cX6_fewestBumps 96 = .ok (.iastore, 1) := by decide +kernel
theorem dX6_fewestBumps_97 : decode cX6_fewestBumps 97 = .ok (.iinc 5 1, 3) := by decide +kernel
theorem dX6_fewestBumps_100 : decode cX6_fewestBumps 100 = .ok (.goto (-20), 3) := by decide +kernel
theorem dX6_fewestBumps_103 : decode cX6_fewestBumps 103 = .ok (.iconst 0, 1) := by decide +kernel
theorem dX6_fewestBumps_104 : decode cX6_fewestBumps 104 = .ok (.istore 5, 2) := by decide +kernel
theorem dX6_fewestBumps_106 : decode cX6_fewestBumps 106 = .ok (.iload 5, 2) := by decide +kernel
theorem dX6_fewestBumps_108 : decode cX6_fewestBumps 108 = .ok (.bipush 17, 2) := by decide +kernel
theorem dX6_fewestBumps_110 : decode cX6_fewestBumps 110 = .ok (.if_icmp .ge 174, 3) := by decide +kernel
theorem dX6_fewestBumps_113 : decode cX6_fewestBumps 113 = .ok (.iload 5, 2) := by decide +kernel
theorem dX6_fewestBumps_115 : decode cX6_fewestBumps 115 = .ok (.bipush 8, 2) := by decide +kernel
theorem dX6_fewestBumps_117 : decode cX6_fewestBumps 117 = .ok (.isub, 1) := by decide +kernel
theorem dX6_fewestBumps_118 : decode cX6_fewestBumps 118 = .ok (.iload_n 3, 1) := by decide +kernel
theorem dX6_fewestBumps_119 : decode cX6_fewestBumps 119 = .ok (.iadd, 1) := by decide +kernel
theorem dX6_fewestBumps_120 : decode cX6_fewestBumps 120 = .ok (.istore 6, 2) := by decide +kernel
theorem dX6_fewestBumps_122 : decode cX6_fewestBumps 122 = .ok (.iconst 0, 1) := by decide +kernel
theorem dX6_fewestBumps_123 : decode cX6_fewestBumps 123 = .ok (.istore 7, 2) := by decide +kernel
theorem dX6_fewestBumps_125 : decode cX6_fewestBumps 125 = .ok (.iload 7, 2) := by decide +kernel
theorem dX6_fewestBumps_127 : decode cX6_fewestBumps 127 = .ok (.iload 4, 2) := by decide +kernel
theorem dX6_fewestBumps_129 : decode cX6_fewestBumps 129 = .ok (.if_icmp .gt 149, 3) := by decide +kernel
theorem dX6_fewestBumps_132 : decode cX6_fewestBumps 132 = .ok (.aload_n 0, 1) := by decide +kernel
theorem dX6_fewestBumps_133 : decode cX6_fewestBumps 133 = .ok (.getfield 31, 3) := by decide +kernel
theorem dX6_fewestBumps_136 : decode cX6_fewestBumps 136 = .ok (.iload 5, 2) := by decide +kernel
theorem dX6_fewestBumps_138 : decode cX6_fewestBumps 138 = .ok (.iaload, 1) := by decide +kernel
theorem dX6_fewestBumps_139 : decode cX6_fewestBumps 139 = .ok (.sipush 1000, 3) := by decide +kernel
theorem dX6_fewestBumps_142 : decode cX6_fewestBumps 142 = .ok (.if_icmp .ge 136, 3) := by decide +kernel
theorem dX6_fewestBumps_145 : decode cX6_fewestBumps 145 = .ok (.iload 6, 2) := by decide +kernel
theorem dX6_fewestBumps_147 : decode cX6_fewestBumps 147 = .ok (.ifCond .le 11, 3) := by decide +kernel
theorem dX6_fewestBumps_150 : decode cX6_fewestBumps 150 = .ok (.iload 6, 2) := by decide +kernel
theorem dX6_fewestBumps_152 : decode cX6_fewestBumps 152 = .ok (.iload 7, 2) := by decide +kernel
theorem dX6_fewestBumps_154 : decode cX6_fewestBumps 154 = .ok (.isub, 1) := by decide +kernel
theorem dX6_fewestBumps_155 : decode cX6_fewestBumps 155 = .ok (.goto 8, 3) := by decide +kernel
theorem dX6_fewestBumps_158 : decode cX6_fewestBumps 158 = .ok (.iload 6, 2) := by decide +kernel
theorem dX6_fewestBumps_160 : decode cX6_fewestBumps 160 = .ok (.iload 7, 2) := by decide +kernel
theorem dX6_fewestBumps_162 : decode cX6_fewestBumps 162 = .ok (.iadd, 1) := by decide +kernel
theorem dX6_fewestBumps_163 : decode cX6_fewestBumps 163 = .ok (.istore 8, 2) := by decide +kernel
theorem dX6_fewestBumps_165 : decode cX6_fewestBumps 165 = .ok (.iload 6, 2) := by decide +kernel
theorem dX6_fewestBumps_167 : decode cX6_fewestBumps 167 = .ok (.ifCond .le 16, 3) := by decide +kernel
theorem dX6_fewestBumps_170 : decode cX6_fewestBumps 170 = .ok (.iload 8, 2) := by decide +kernel
theorem dX6_fewestBumps_172 : decode cX6_fewestBumps 172 = .ok (.ifCond .ge 7, 3) := by decide +kernel
theorem dX6_fewestBumps_175 : decode cX6_fewestBumps 175 = .ok (.iconst 1, 1) := by decide +kernel
theorem dX6_fewestBumps_176 : decode cX6_fewestBumps 176 = .ok (.goto 17, 3) := by decide +kernel
theorem dX6_fewestBumps_179 : decode cX6_fewestBumps 179 = .ok (.iconst 0, 1) := by decide +kernel
theorem dX6_fewestBumps_180 : decode cX6_fewestBumps 180 = .ok (.goto 13, 3) := by decide +kernel
theorem dX6_fewestBumps_183 : decode cX6_fewestBumps 183 = .ok (.iload 8, 2) := by decide +kernel
theorem dX6_fewestBumps_185 : decode cX6_fewestBumps 185 = .ok (.ifCond .le 7, 3) := by decide +kernel
theorem dX6_fewestBumps_188 : decode cX6_fewestBumps 188 = .ok (.iconst 1, 1) := by decide +kernel
theorem dX6_fewestBumps_189 : decode cX6_fewestBumps 189 = .ok (.goto 4, 3) := by decide +kernel
theorem dX6_fewestBumps_192 : decode cX6_fewestBumps 192 = .ok (.iconst 0, 1) := by decide +kernel
theorem dX6_fewestBumps_193 : decode cX6_fewestBumps 193 = .ok (.istore 9, 2) := by decide +kernel
theorem dX6_fewestBumps_195 : decode cX6_fewestBumps 195 = .ok (.iload 8, 2) := by decide +kernel
theorem dX6_fewestBumps_197 : decode cX6_fewestBumps 197 = .ok (.ifCond .ge 9, 3) := by decide +kernel
theorem dX6_fewestBumps_200 : decode cX6_fewestBumps 200 = .ok (.iload 8, 2) := by decide +kernel
theorem dX6_fewestBumps_202 : decode cX6_fewestBumps 202 = .ok (.ineg, 1) := by decide +kernel
theorem dX6_fewestBumps_203 : decode cX6_fewestBumps 203 = .ok (.goto 5, 3) := by decide +kernel
theorem dX6_fewestBumps_206 : decode cX6_fewestBumps 206 = .ok (.iload 8, 2) := by decide +kernel
theorem dX6_fewestBumps_208 : decode cX6_fewestBumps 208 = .ok (.istore 10, 2) := by decide +kernel
theorem dX6_fewestBumps_210 : decode cX6_fewestBumps 210 = .ok (.iload 9, 2) := by decide +kernel
theorem dX6_fewestBumps_212 : decode cX6_fewestBumps 212 = .ok (.ifCond .ne 60, 3) := by decide +kernel
theorem dX6_fewestBumps_215 : decode cX6_fewestBumps 215 = .ok (.iconst 2, 1) := by decide +kernel
theorem dX6_fewestBumps_216 : decode cX6_fewestBumps 216 = .ok (.iload 10, 2) := by decide +kernel
theorem dX6_fewestBumps_218 : decode cX6_fewestBumps 218 = .ok (.imul, 1) := by decide +kernel
theorem dX6_fewestBumps_219 : decode cX6_fewestBumps 219 = .ok (.aload_n 0, 1) := by decide +kernel
theorem dX6_fewestBumps_220 : decode cX6_fewestBumps 220 = .ok (.getfield 13, 3) := by decide +kernel
theorem dX6_fewestBumps_223 : decode cX6_fewestBumps 223 = .ok (.bipush 7, 2) := by decide +kernel
theorem dX6_fewestBumps_225 : decode cX6_fewestBumps 225 = .ok (.iaload, 1) := by decide +kernel
theorem dX6_fewestBumps_226 : decode cX6_fewestBumps 226 = .ok (.if_icmp .gt 46, 3) := by decide +kernel
theorem dX6_fewestBumps_229 : decode cX6_fewestBumps 229 = .ok (.aload_n 0, 1) := by decide +kernel
theorem dX6_fewestBumps_230 : decode cX6_fewestBumps 230 = .ok (.getfield 31, 3) := by decide +kernel
theorem dX6_fewestBumps_233 : decode cX6_fewestBumps 233 = .ok (.iload 5, 2) := by decide +kernel
theorem dX6_fewestBumps_235 : decode cX6_fewestBumps 235 = .ok (.iaload, 1) := by decide +kernel
theorem dX6_fewestBumps_236 : decode cX6_fewestBumps 236 = .ok (.iload 7, 2) := by decide +kernel
theorem dX6_fewestBumps_238 : decode cX6_fewestBumps 238 = .ok (.iadd, 1) := by decide +kernel
theorem dX6_fewestBumps_239 : decode cX6_fewestBumps 239 = .ok (.aload_n 0, 1) := by decide +kernel
theorem dX6_fewestBumps_240 : decode cX6_fewestBumps 240 = .ok (.getfield 34, 3) := by decide +kernel
theorem dX6_fewestBumps_243 : decode cX6_fewestBumps 243 = .ok (.iload 8, 2) := by decide +kernel
theorem dX6_fewestBumps_245 : decode cX6_fewestBumps 245 = .ok (.bipush 8, 2) := by decide +kernel
theorem dX6_fewestBumps_247 : decode cX6_fewestBumps 247 = .ok (.iadd, 1) := by decide +kernel
theorem dX6_fewestBumps_248 : decode cX6_fewestBumps 248 = .ok (.iaload, 1) := by decide +kernel
theorem dX6_fewestBumps_249 : decode cX6_fewestBumps 249 = .ok (.if_icmp .ge 23, 3) := by decide +kernel
theorem dX6_fewestBumps_252 : decode cX6_fewestBumps 252 = .ok (.aload_n 0, 1) := by decide +kernel
theorem dX6_fewestBumps_253 : decode cX6_fewestBumps 253 = .ok (.getfield 34, 3) := by decide +kernel
theorem dX6_fewestBumps_256 : decode cX6_fewestBumps 256 = .ok (.iload 8, 2) := by decide +kernel
theorem dX6_fewestBumps_258 : decode cX6_fewestBumps 258 = .ok (.bipush 8, 2) := by decide +kernel
theorem dX6_fewestBumps_260 : decode cX6_fewestBumps 260 = .ok (.iadd, 1) := by decide +kernel
theorem dX6_fewestBumps_261 : decode cX6_fewestBumps 261 = .ok (.aload_n 0, 1) := by decide +kernel
theorem dX6_fewestBumps_262 : decode cX6_fewestBumps 262 = .ok (.getfield 31, 3) := by decide +kernel
theorem dX6_fewestBumps_265 : decode cX6_fewestBumps 265 = .ok (.iload 5, 2) := by decide +kernel
theorem dX6_fewestBumps_267 : decode cX6_fewestBumps 267 = .ok (.iaload, 1) := by decide +kernel
theorem dX6_fewestBumps_268 : decode cX6_fewestBumps 268 = .ok (.iload 7, 2) := by decide +kernel
theorem dX6_fewestBumps_270 : decode cX6_fewestBumps 270 = .ok (.iadd, 1) := by decide +kernel
theorem dX6_fewestBumps_271 : decode cX6_fewestBumps 271 = .ok (.iastore, 1) := by decide +kernel
theorem dX6_fewestBumps_272 : decode cX6_fewestBumps 272 = .ok (.iinc 7 1, 3) := by decide +kernel
theorem dX6_fewestBumps_275 : decode cX6_fewestBumps 275 = .ok (.goto (-150), 3) := by decide +kernel
theorem dX6_fewestBumps_278 : decode cX6_fewestBumps 278 = .ok (.iinc 5 1, 3) := by decide +kernel
theorem dX6_fewestBumps_281 : decode cX6_fewestBumps 281 = .ok (.goto (-175), 3) := by decide +kernel
theorem dX6_fewestBumps_284 : decode cX6_fewestBumps 284 = .ok (.iconst 0, 1) := by decide +kernel
theorem dX6_fewestBumps_285 : decode cX6_fewestBumps 285 = .ok (.istore 5, 2) := by decide +kernel
theorem dX6_fewestBumps_287 : decode cX6_fewestBumps 287 = .ok (.iload 5, 2) := by decide +kernel
theorem dX6_fewestBumps_289 : decode cX6_fewestBumps 289 = .ok (.bipush 17, 2) := by decide +kernel
theorem dX6_fewestBumps_291 : decode cX6_fewestBumps 291 = .ok (.if_icmp .ge 23, 3) := by decide +kernel
theorem dX6_fewestBumps_294 : decode cX6_fewestBumps 294 = .ok (.aload_n 0, 1) := by decide +kernel
theorem dX6_fewestBumps_295 : decode cX6_fewestBumps 295 = .ok (.getfield 31, 3) := by decide +kernel
theorem dX6_fewestBumps_298 : decode cX6_fewestBumps 298 = .ok (.iload 5, 2) := by decide +kernel
theorem dX6_fewestBumps_300 : decode cX6_fewestBumps 300 = .ok (.aload_n 0, 1) := by decide +kernel
theorem dX6_fewestBumps_301 : decode cX6_fewestBumps 301 = .ok (.getfield 34, 3) := by decide +kernel
theorem dX6_fewestBumps_304 : decode cX6_fewestBumps 304 = .ok (.iload 5, 2) := by decide +kernel
theorem dX6_fewestBumps_306 : decode cX6_fewestBumps 306 = .ok (.iaload, 1) := by decide +kernel
theorem dX6_fewestBumps_307 : decode cX6_fewestBumps 307 = .ok (.iastore, 1) := by decide +kernel
theorem dX6_fewestBumps_308 : decode cX6_fewestBumps 308 = .ok (.iinc 5 1, 3) := by decide +kernel
theorem dX6_fewestBumps_311 : decode cX6_fewestBumps 311 = .ok (.goto (-24), 3) := by decide +kernel
theorem dX6_fewestBumps_314 : decode cX6_fewestBumps 314 = .ok (.iinc 2 1, 3) := by decide +kernel
theorem dX6_fewestBumps_317 : decode cX6_fewestBumps 317 = .ok (.goto (-282), 3) := by decide +kernel
theorem dX6_fewestBumps_320 : decode cX6_fewestBumps 320 = .ok (.aload_n 0, 1) := by decide +kernel
theorem dX6_fewestBumps_321 : decode cX6_fewestBumps 321 = .ok (.getfield 31, 3) := by decide +kernel
theorem dX6_fewestBumps_324 : decode cX6_fewestBumps 324 = .ok (.bipush 8, 2) := by decide +kernel
theorem dX6_fewestBumps_326 : decode cX6_fewestBumps 326 = .ok (.iaload, 1) := by decide +kernel
theorem dX6_fewestBumps_327 : decode cX6_fewestBumps 327 = .ok (.sipush 1000, 3) := by decide +kernel
theorem dX6_fewestBumps_330 : decode cX6_fewestBumps 330 = .ok (.if_icmp .ge 13, 3) := by decide +kernel
theorem dX6_fewestBumps_333 : decode cX6_fewestBumps 333 = .ok (.aload_n 0, 1) := by decide +kernel
theorem dX6_fewestBumps_334 : decode cX6_fewestBumps 334 = .ok (.getfield 31, 3) := by decide +kernel
theorem dX6_fewestBumps_337 : decode cX6_fewestBumps 337 = .ok (.bipush 8, 2) := by decide +kernel
theorem dX6_fewestBumps_339 : decode cX6_fewestBumps 339 = .ok (.iaload, 1) := by decide +kernel
theorem dX6_fewestBumps_340 : decode cX6_fewestBumps 340 = .ok (.goto 4, 3) := by decide +kernel
theorem dX6_fewestBumps_343 : decode cX6_fewestBumps 343 = .ok (.iconst (-1), 1) := by decide +kernel
theorem dX6_fewestBumps_344 : decode cX6_fewestBumps 344 = .ok (.ireturn, 1) := by decide +kernel
theorem dX6_bumps_0 : decode cX6_bumps 0 = .ok (.aload_n 0, 1) := by decide +kernel
theorem dX6_bumps_1 : decode cX6_bumps 1 = .ok (.iload_n 1, 1) := by decide +kernel
theorem dX6_bumps_2 : decode cX6_bumps 2 = .ok (.invokevirtual 65, 3) := by decide +kernel
theorem dX6_bumps_5 : decode cX6_bumps 5 = .ok (.ifCond .eq 11, 3) := by decide +kernel
theorem dX6_bumps_8 : decode cX6_bumps 8 = .ok (.aload_n 0, 1) := by decide +kernel
theorem dX6_bumps_9 : decode cX6_bumps 9 = .ok (.iload_n 1, 1) := by decide +kernel
theorem dX6_bumps_10 : decode cX6_bumps 10 = .ok (.invokevirtual 194, 3) := by decide +kernel
theorem dX6_bumps_13 : decode cX6_bumps 13 = .ok (.goto 7, 3) := by decide +kernel
theorem dX6_bumps_16 : decode cX6_bumps 16 = .ok (.aload_n 0, 1) := by decide +kernel
theorem dX6_bumps_17 : decode cX6_bumps 17 = .ok (.invokevirtual 43, 3) := by decide +kernel
theorem dX6_bumps_20 : decode cX6_bumps 20 = .ok (.ireturn, 1) := by decide +kernel
theorem dX6_type_0 : decode cX6_type 0 = .ok (.iload_n 1, 1) := by decide +kernel
theorem dX6_type_1 : decode cX6_type 1 = .ok (.iconst 0, 1) := by decide +kernel
theorem dX6_type_2 : decode cX6_type 2 = .ok (.bipush 127, 2) := by decide +kernel
theorem dX6_type_4 : decode cX6_type 4 = .ok (.invokestatic 61, 3) := by decide +kernel
theorem dX6_type_7 : decode cX6_type 7 = .ok (.ifCond .ne 8, 3) := by decide +kernel
theorem dX6_type_10 : decode cX6_type 10 = .ok (.aload_n 0, 1) := by decide +kernel
theorem dX6_type_11 : decode cX6_type 11 = .ok (.invokevirtual 43, 3) := by decide +kernel
theorem dX6_type_14 : decode cX6_type 14 = .ok (.ireturn, 1) := by decide +kernel
theorem dX6_type_15 : decode cX6_type 15 = .ok (.aload_n 0, 1) := by decide +kernel
theorem dX6_type_16 : decode cX6_type 16 = .ok (.getfield 197, 3) := by decide +kernel
theorem dX6_type_19 : decode cX6_type 19 = .ok (.bipush 120, 2) := by decide +kernel
theorem dX6_type_21 : decode cX6_type 21 = .ok (.if_icmp .ne 8, 3) := by decide +kernel
theorem dX6_type_24 : decode cX6_type 24 = .ok (.aload_n 0, 1) := by decide +kernel
theorem dX6_type_25 : decode cX6_type 25 = .ok (.invokevirtual 50, 3) := by decide +kernel
theorem dX6_type_28 : decode cX6_type 28 = .ok (.ireturn, 1) := by decide +kernel
theorem dX6_type_29 : decode cX6_type 29 = .ok (.aload_n 0, 1) := by decide +kernel
theorem dX6_type_30 : decode cX6_type 30 = .ok (.getfield 37, 3) := by decide +kernel
theorem dX6_type_33 : decode cX6_type 33 = .ok (.aload_n 0, 1) := by decide +kernel
theorem dX6_type_34 : decode cX6_type 34 = .ok (.getfield 197, 3) := by decide +kernel
theorem dX6_type_37 : decode cX6_type 37 = .ok (.iload_n 1, 1) := by decide +kernel
theorem dX6_type_38 : decode cX6_type 38 = .ok (.iastore, 1) := by decide +kernel
theorem dX6_type_39 : decode cX6_type 39 = .ok (.aload_n 0, 1) := by decide +kernel
theorem dX6_type_40 : decode cX6_type 40 = .ok (.dup, 1) := by decide +kernel
theorem dX6_type_41 : decode cX6_type 41 = .ok (.getfield 197, 3) := by decide +kernel
theorem dX6_type_44 : decode cX6_type 44 = .ok (.iconst 1, 1) := by decide +kernel
theorem dX6_type_45 : decode cX6_type 45 = .ok (.iadd, 1) := by decide +kernel
theorem dX6_type_46 : decode cX6_type 46 = .ok (.putfield 197, 3) := by decide +kernel
theorem dX6_type_49 : decode cX6_type 49 = .ok (.aload_n 0, 1) := by decide +kernel
theorem dX6_type_50 : decode cX6_type 50 = .ok (.getfield 197, 3) := by decide +kernel
theorem dX6_type_53 : decode cX6_type 53 = .ok (.ireturn, 1) := by decide +kernel
theorem dX6_clear_0 : decode cX6_clear 0 = .ok (.aload_n 0, 1) := by decide +kernel
theorem dX6_clear_1 : decode cX6_clear 1 = .ok (.getfield 197, 3) := by decide +kernel
theorem dX6_clear_4 : decode cX6_clear 4 = .ok (.istore_n 1, 1) := by decide +kernel
theorem dX6_clear_5 : decode cX6_clear 5 = .ok (.aload_n 0, 1) := by decide +kernel
theorem dX6_clear_6 : decode cX6_clear 6 = .ok (.iconst 0, 1) := by decide +kernel
theorem dX6_clear_7 : decode cX6_clear 7 = .ok (.putfield 197, 3) := by decide +kernel
theorem dX6_clear_10 : decode cX6_clear 10 = .ok (.iload_n 1, 1) := by decide +kernel
theorem dX6_clear_11 : decode cX6_clear 11 = .ok (.ireturn, 1) := by decide +kernel
theorem dX6_byteAt_0 : decode cX6_byteAt 0 = .ok (.iload_n 1, 1) := by decide +kernel
theorem dX6_byteAt_1 : decode cX6_byteAt 1 = .ok (.aload_n 0, 1) := by decide +kernel
theorem dX6_byteAt_2 : decode cX6_byteAt 2 = .ok (.getfield 197, 3) := by decide +kernel
theorem dX6_byteAt_5 : decode cX6_byteAt 5 = .ok (.if_icmp .ge 12, 3) := by decide +kernel
theorem dX6_byteAt_8 : decode cX6_byteAt 8 = .ok (.aload_n 0, 1) := by decide +kernel
theorem dX6_byteAt_9 : decode cX6_byteAt 9 = .ok (.getfield 37, 3) := by decide +kernel
theorem dX6_byteAt_12 : decode cX6_byteAt 12 = .ok (.iload_n 1, 1) := by decide +kernel
theorem dX6_byteAt_13 : decode cX6_byteAt 13 = .ok (.iaload, 1) := by decide +kernel
theorem dX6_byteAt_14 : decode cX6_byteAt 14 = .ok (.goto 4, 3) := by decide +kernel
theorem dX6_byteAt_17 : decode cX6_byteAt 17 = .ok (.iconst (-1), 1) := by decide +kernel
theorem dX6_byteAt_18 : decode cX6_byteAt 18 = .ok (.ireturn, 1) := by decide +kernel
theorem dX6_isFigure_0 : decode cX6_isFigure 0 = .ok (.aload_n 0, 1) := by decide +kernel
theorem dX6_isFigure_1 : decode cX6_isFigure 1 = .ok (.iload_n 1, 1) := by decide +kernel
theorem dX6_isFigure_2 : decode cX6_isFigure 2 = .ok (.invokevirtual 200, 3) := by decide +kernel
theorem dX6_isFigure_5 : decode cX6_isFigure 5 = .ok (.bipush 48, 2) := by decide +kernel
theorem dX6_isFigure_7 : decode cX6_isFigure 7 = .ok (.bipush 57, 2) := by decide +kernel
theorem dX6_isFigure_9 : decode cX6_isFigure 9 = .ok (.invokestatic 61, 3) := by decide +kernel
theorem dX6_isFigure_12 : decode cX6_isFigure 12 = .ok (.ireturn, 1) := by decide +kernel
theorem dX6_blanks_0 : decode cX6_blanks 0 = .ok (.aload_n 0, 1) := by decide +kernel
theorem dX6_blanks_1 : decode cX6_blanks 1 = .ok (.aload_n 0, 1) := by decide +kernel
theorem dX6_blanks_2 : decode cX6_blanks 2 = .ok (.getfield 203, 3) := by decide +kernel
theorem dX6_blanks_5 : decode cX6_blanks 5 = .ok (.invokevirtual 200, 3) := by decide +kernel
theorem dX6_blanks_8 : decode cX6_blanks 8 = .ok (.bipush 32, 2) := by decide +kernel
theorem dX6_blanks_10 : decode cX6_blanks 10 = .ok (.if_icmp .ne 16, 3) := by decide +kernel
theorem dX6_blanks_13 : decode cX6_blanks 13 = .ok (.aload_n 0, 1) := by decide +kernel
theorem dX6_blanks_14 : decode cX6_blanks 14 = .ok (.dup, 1) := by decide +kernel
theorem dX6_blanks_15 : decode cX6_blanks 15 = .ok (.getfield 203, 3) := by decide +kernel
theorem dX6_blanks_18 : decode cX6_blanks 18 = .ok (.iconst 1, 1) := by decide +kernel
theorem dX6_blanks_19 : decode cX6_blanks 19 = .ok (.iadd, 1) := by decide +kernel
theorem dX6_blanks_20 : decode cX6_blanks 20 = .ok (.putfield 203, 3) := by decide +kernel
theorem dX6_blanks_23 : decode cX6_blanks 23 = .ok (.goto (-23), 3) := by decide +kernel
theorem dX6_blanks_26 : decode cX6_blanks 26 = .ok (.return_, 1) := by decide +kernel
theorem dX6_wants_0 : decode cX6_wants 0 = .ok (.iload_n 0, 1) := by decide +kernel
theorem dX6_wants_1 : decode cX6_wants 1 = .ok (.bipush 108, 2) := by decide +kernel
theorem dX6_wants_3 : decode cX6_wants 3 = .ok (.if_icmp .ne 7, 3) := by decide +kernel
theorem dX6_wants_6 : decode cX6_wants 6 = .ok (.iconst 1, 1) := by decide +kernel
theorem dX6_wants_7 : decode cX6_wants 7 = .ok (.goto 36, 3) := by decide +kernel
theorem dX6_wants_10 : decode cX6_wants 10 = .ok (.iload_n 0, 1) := by decide +kernel
theorem dX6_wants_11 : decode cX6_wants 11 = .ok (.bipush 103, 2) := by decide +kernel
theorem dX6_wants_13 : decode cX6_wants 13 = .ok (.if_icmp .ne 7, 3) := by decide +kernel
theorem dX6_wants_16 : decode cX6_wants 16 = .ok (.iconst 3, 1) := by decide +kernel
theorem dX6_wants_17 : decode cX6_wants 17 = .ok (.goto 26, 3) := by decide +kernel
theorem dX6_wants_20 : decode cX6_wants 20 = .ok (.iload_n 0, 1) := by decide +kernel
theorem dX6_wants_21 : decode cX6_wants 21 = .ok (.bipush 107, 2) := by decide +kernel
theorem dX6_wants_23 : decode cX6_wants 23 = .ok (.if_icmp .eq 15, 3) := by decide +kernel
theorem dX6_wants_26 : decode cX6_wants 26 = .ok (.iload_n 0, 1) := by decide +kernel
theorem dX6_wants_27 : decode cX6_wants 27 = .ok (.bipush 115, 2) := by decide +kernel
theorem dX6_wants_29 : decode cX6_wants 29 = .ok (.if_icmp .eq 9, 3) := by decide +kernel
theorem dX6_wants_32 : decode cX6_wants 32 = .ok (.iload_n 0, 1) := by decide +kernel
theorem dX6_wants_33 : decode cX6_wants 33 = .ok (.bipush 119, 2) := by decide +kernel
theorem dX6_wants_35 : decode cX6_wants 35 = .ok (.if_icmp .ne 7, 3) := by decide +kernel
theorem dX6_wants_38 : decode cX6_wants 38 = .ok (.iconst 2, 1) := by decide +kernel
theorem dX6_wants_39 : decode cX6_wants 39 = .ok (.goto 4, 3) := by decide +kernel
theorem dX6_wants_42 : decode cX6_wants 42 = .ok (.iconst (-1), 1) := by decide +kernel
theorem dX6_wants_43 : decode cX6_wants 43 = .ok (.ireturn, 1) := by decide +kernel
theorem dX6_number_0 : decode cX6_number 0 = .ok (.aload_n 0, 1) := by decide +kernel
theorem dX6_number_1 : decode cX6_number 1 = .ok (.aload_n 0, 1) := by decide +kernel
theorem dX6_number_2 : decode cX6_number 2 = .ok (.getfield 203, 3) := by decide +kernel
theorem dX6_number_5 : decode cX6_number 5 = .ok (.invokevirtual 206, 3) := by decide +kernel
theorem dX6_number_8 : decode cX6_number 8 = .ok (.ifCond .ne 5, 3) := by decide +kernel
theorem dX6_number_11 : decode cX6_number 11 = .ok (.iconst (-1), 1) := by decide +kernel
theorem dX6_number_12 : decode cX6_number 12 = .ok (.ireturn, 1) := by decide +kernel
theorem dX6_number_13 : decode cX6_number 13 = .ok (.iconst 0, 1) := by decide +kernel
theorem dX6_number_14 : decode cX6_number 14 = .ok (.istore_n 1, 1) := by decide +kernel
theorem dX6_number_15 : decode cX6_number 15 = .ok (.iconst 0, 1) := by decide +kernel
theorem dX6_number_16 : decode cX6_number 16 = .ok (.istore_n 2, 1) := by decide +kernel
theorem dX6_number_17 : decode cX6_number 17 = .ok (.aload_n 0, 1) := by decide +kernel
theorem dX6_number_18 : decode cX6_number 18 = .ok (.aload_n 0, 1) := by decide +kernel
theorem dX6_number_19 : decode cX6_number 19 = .ok (.getfield 203, 3) := by decide +kernel
theorem dX6_number_22 : decode cX6_number 22 = .ok (.invokevirtual 206, 3) := by decide +kernel
theorem dX6_number_25 : decode cX6_number 25 = .ok (.ifCond .eq 41, 3) := by decide +kernel
theorem dX6_number_28 : decode cX6_number 28 = .ok (.iload_n 2, 1) := by decide +kernel
theorem dX6_number_29 : decode cX6_number 29 = .ok (.iconst 3, 1) := by decide +kernel
theorem dX6_number_30 : decode cX6_number 30 = .ok (.if_icmp .ge 36, 3) := by decide +kernel
theorem dX6_number_33 : decode cX6_number 33 = .ok (.bipush 10, 2) := by decide +kernel
theorem dX6_number_35 : decode cX6_number 35 = .ok (.iload_n 1, 1) := by decide +kernel
theorem dX6_number_36 : decode cX6_number 36 = .ok (.imul, 1) := by decide +kernel
theorem dX6_number_37 : decode cX6_number 37 = .ok (.aload_n 0, 1) := by decide +kernel
theorem dX6_number_38 : decode cX6_number 38 = .ok (.aload_n 0, 1) := by decide +kernel
theorem dX6_number_39 : decode cX6_number 39 = .ok (.getfield 203, 3) := by decide +kernel
theorem dX6_number_42 : decode cX6_number 42 = .ok (.invokevirtual 200, 3) := by decide +kernel
theorem dX6_number_45 : decode cX6_number 45 = .ok (.iadd, 1) := by decide +kernel
theorem dX6_number_46 : decode cX6_number 46 = .ok (.bipush 48, 2) := by decide +kernel
theorem dX6_number_48 : decode cX6_number 48 = .ok (.isub, 1) := by decide +kernel
theorem dX6_number_49 : decode cX6_number 49 = .ok (.istore_n 1, 1) := by decide +kernel
theorem dX6_number_50 : decode cX6_number 50 = .ok (.aload_n 0, 1) := by decide +kernel
theorem dX6_number_51 : decode cX6_number 51 = .ok (.dup, 1) := by decide +kernel
theorem dX6_number_52 : decode cX6_number 52 = .ok (.getfield 203, 3) := by decide +kernel
theorem dX6_number_55 : decode cX6_number 55 = .ok (.iconst 1, 1) := by decide +kernel
theorem dX6_number_56 : decode cX6_number 56 = .ok (.iadd, 1) := by decide +kernel
theorem dX6_number_57 : decode cX6_number 57 = .ok (.putfield 203, 3) := by decide +kernel
theorem dX6_number_60 : decode cX6_number 60 = .ok (.iinc 2 1, 3) := by decide +kernel
theorem dX6_number_63 : decode cX6_number 63 = .ok (.goto (-46), 3) := by decide +kernel
theorem dX6_number_66 : decode cX6_number 66 = .ok (.aload_n 0, 1) := by decide +kernel
theorem dX6_number_67 : decode cX6_number 67 = .ok (.aload_n 0, 1) := by decide +kernel
theorem dX6_number_68 : decode cX6_number 68 = .ok (.getfield 203, 3) := by decide +kernel
theorem dX6_number_71 : decode cX6_number 71 = .ok (.invokevirtual 206, 3) := by decide +kernel
theorem dX6_number_74 : decode cX6_number 74 = .ok (.ifCond .eq 5, 3) := by decide +kernel
theorem dX6_number_77 : decode cX6_number 77 = .ok (.iconst (-1), 1) := by decide +kernel
theorem dX6_number_78 : decode cX6_number 78 = .ok (.ireturn, 1) := by decide +kernel
theorem dX6_number_79 : decode cX6_number 79 = .ok (.aload_n 0, 1) := by decide +kernel
theorem dX6_number_80 : decode cX6_number 80 = .ok (.invokevirtual 209, 3) := by decide +kernel
theorem dX6_number_83 : decode cX6_number 83 = .ok (.iload_n 1, 1) := by decide +kernel
theorem dX6_number_84 : decode cX6_number 84 = .ok (.ireturn, 1) := by decide +kernel
theorem dX6_reads_0 : decode cX6_reads 0 = .ok (.aload_n 0, 1) := by decide +kernel
theorem dX6_reads_1 : decode cX6_reads 1 = .ok (.aload_n 0, 1) := by decide +kernel
theorem dX6_reads_2 : decode cX6_reads 2 = .ok (.getfield 203, 3) := by decide +kernel
theorem dX6_reads_5 : decode cX6_reads 5 = .ok (.invokevirtual 200, 3) := by decide +kernel
theorem dX6_reads_8 : decode cX6_reads 8 = .ok (.istore_n 1, 1) := by decide +kernel
theorem dX6_reads_9 : decode cX6_reads 9 = .ok (.iload_n 1, 1) := by decide +kernel
theorem dX6_reads_10 : decode cX6_reads 10 = .ok (.invokestatic 212, 3) := by decide +kernel
theorem dX6_reads_13 : decode cX6_reads 13 = .ok (.istore_n 2, 1) := by decide +kernel
theorem dX6_reads_14 : decode cX6_reads 14 = .ok (.iload_n 2, 1) := by decide +kernel
theorem dX6_reads_15 : decode cX6_reads 15 = .ok (.iconst (-1), 1) := by decide +kernel
theorem dX6_reads_16 : decode cX6_reads 16 = .ok (.if_icmp .ne 5, 3) := by decide +kernel
theorem dX6_reads_19 : decode cX6_reads 19 = .ok (.iconst 0, 1) := by decide +kernel
theorem dX6_reads_20 : decode cX6_reads 20 = .ok (.ireturn, 1) := by decide +kernel
theorem dX6_reads_21 : decode cX6_reads 21 = .ok (.aload_n 0, 1) := by decide +kernel
theorem dX6_reads_22 : decode cX6_reads 22 = .ok (.dup, 1) := by decide +kernel
theorem dX6_reads_23 : decode cX6_reads 23 = .ok (.getfield 203, 3) := by decide +kernel
theorem dX6_reads_26 : decode cX6_reads 26 = .ok (.iconst 1, 1) := by decide +kernel
theorem dX6_reads_27 : decode cX6_reads 27 = .ok (.iadd, 1) := by decide +kernel
theorem dX6_reads_28 : decode cX6_reads 28 = .ok (.putfield 203, 3) := by decide +kernel
theorem dX6_reads_31 : decode cX6_reads 31 = .ok (.aload_n 0, 1) := by decide +kernel
theorem dX6_reads_32 : decode cX6_reads 32 = .ok (.invokevirtual 209, 3) := by decide +kernel
theorem dX6_reads_35 : decode cX6_reads 35 = .ok (.aload_n 0, 1) := by decide +kernel
theorem dX6_reads_36 : decode cX6_reads 36 = .ok (.getfield 40, 3) := by decide +kernel
theorem dX6_reads_39 : decode cX6_reads 39 = .ok (.iconst 4, 1) := by decide +kernel
theorem dX6_reads_40 : decode cX6_reads 40 = .ok (.aload_n 0, 1) := by decide +kernel
theorem dX6_reads_41 : decode cX6_reads 41 = .ok (.getfield 215, 3) := by decide +kernel
theorem dX6_reads_44 : decode cX6_reads 44 = .ok (.imul, 1) := by decide +kernel
theorem dX6_reads_45 : decode cX6_reads 45 = .ok (.iload_n 1, 1) := by decide +kernel
theorem dX6_reads_46 : decode cX6_reads 46 = .ok (.iastore, 1) := by decide +kernel
theorem dX6_reads_47 : decode cX6_reads 47 = .ok (.iconst 0, 1) := by decide +kernel
theorem dX6_reads_48 : decode cX6_reads 48 = .ok (.istore_n 3, 1) := by decide +kernel
theorem dX6_reads_49 : decode cX6_reads 49 = .ok (.iload_n 3, 1) := by decide +kernel
theorem dX6_reads_50 : decode cX6_reads 50 = .ok (.iload_n 2, 1) := by decide +kernel
theorem dX6_reads_51 : decode cX6_reads 51 = .ok (.if_icmp .ge 40, 3) := by decide +kernel
theorem dX6_reads_54 : decode cX6_reads 54 = .ok (.aload_n 0, 1) := by decide +kernel
theorem dX6_reads_55 : decode cX6_reads 55 = .ok (.invokevirtual 218, 3) := by decide +kernel
theorem dX6_reads_58 : decode cX6_reads 58 = .ok (.istore 4, 2) := by decide +kernel
theorem dX6_reads_60 : decode cX6_reads 60 = .ok (.iload 4, 2) := by decide +kernel
theorem dX6_reads_62 : decode cX6_reads 62 = .ok (.iconst (-1), 1) := by decide +kernel
theorem dX6_reads_63 : decode cX6_reads 63 = .ok (.if_icmp .ne 5, 3) := by decide +kernel
theorem dX6_reads_66 : decode cX6_reads 66 = .ok (.iconst 0, 1) := by decide +kernel
theorem dX6_reads_67 : decode cX6_reads 67 = .ok (.ireturn, 1) := by decide +kernel
theorem dX6_reads_68 : decode cX6_reads 68 = .ok (.aload_n 0, 1) := by decide +kernel
theorem dX6_reads_69 : decode cX6_reads 69 = .ok (.getfield 40, 3) := by decide +kernel
theorem dX6_reads_72 : decode cX6_reads 72 = .ok (.iconst 4, 1) := by decide +kernel
theorem dX6_reads_73 : decode cX6_reads 73 = .ok (.aload_n 0, 1) := by decide +kernel
theorem dX6_reads_74 : decode cX6_reads 74 = .ok (.getfield 215, 3) := by decide +kernel
theorem dX6_reads_77 : decode cX6_reads 77 = .ok (.imul, 1) := by decide +kernel
theorem dX6_reads_78 : decode cX6_reads 78 = .ok (.iconst 1, 1) := by decide +kernel
theorem dX6_reads_79 : decode cX6_reads 79 = .ok (.iadd, 1) := by decide +kernel
theorem dX6_reads_80 : decode cX6_reads 80 = .ok (.iload_n 3, 1) := by decide +kernel
theorem dX6_reads_81 : decode cX6_reads 81 = .ok (.iadd, 1) := by decide +kernel
theorem dX6_reads_82 : decode cX6_reads 82 = .ok (.iload 4, 2) := by decide +kernel
theorem dX6_reads_84 : decode cX6_reads 84 = .ok (.iastore, 1) := by decide +kernel
theorem dX6_reads_85 : decode cX6_reads 85 = .ok (.iinc 3 1, 3) := by decide +kernel
theorem dX6_reads_88 : decode cX6_reads 88 = .ok (.goto (-39), 3) := by decide +kernel
theorem dX6_reads_91 : decode cX6_reads 91 = .ok (.aload_n 0, 1) := by decide +kernel
theorem dX6_reads_92 : decode cX6_reads 92 = .ok (.aload_n 0, 1) := by decide +kernel
theorem dX6_reads_93 : decode cX6_reads 93 = .ok (.getfield 203, 3) := by decide +kernel
theorem dX6_reads_96 : decode cX6_reads 96 = .ok (.invokevirtual 200, 3) := by decide +kernel
theorem dX6_reads_99 : decode cX6_reads 99 = .ok (.bipush 59, 2) := by decide +kernel
theorem dX6_reads_101 : decode cX6_reads 101 = .ok (.if_icmp .eq 5, 3) := by decide +kernel
theorem dX6_reads_104 : decode cX6_reads 104 = .ok (.iconst 0, 1) := by decide +kernel
theorem dX6_reads_105 : decode cX6_reads 105 = .ok (.ireturn, 1) := by decide +kernel
theorem dX6_reads_106 : decode cX6_reads 106 = .ok (.aload_n 0, 1) := by decide +kernel
theorem dX6_reads_107 : decode cX6_reads 107 = .ok (.dup, 1) := by decide +kernel
theorem dX6_reads_108 : decode cX6_reads 108 = .ok (.getfield 203, 3) := by decide +kernel
theorem dX6_reads_111 : decode cX6_reads 111 = .ok (.iconst 1, 1) := by decide +kernel
theorem dX6_reads_112 : decode cX6_reads 112 = .ok (.iadd, 1) := by decide +kernel
theorem dX6_reads_113 : decode cX6_reads 113 = .ok (.putfield 203, 3) := by decide +kernel
theorem dX6_reads_116 : decode cX6_reads 116 = .ok (.aload_n 0, 1) := by decide +kernel
theorem dX6_reads_117 : decode cX6_reads 117 = .ok (.invokevirtual 209, 3) := by decide +kernel
theorem dX6_reads_120 : decode cX6_reads 120 = .ok (.aload_n 0, 1) := by decide +kernel
theorem dX6_reads_121 : decode cX6_reads 121 = .ok (.dup, 1) := by decide +kernel
theorem dX6_reads_122 : decode cX6_reads 122 = .ok (.getfield 215, 3) := by decide +kernel
theorem dX6_reads_125 : decode cX6_reads 125 = .ok (.iconst 1, 1) := by decide +kernel
theorem dX6_reads_126 : decode cX6_reads 126 = .ok (.iadd, 1) := by decide +kernel
theorem dX6_reads_127 : decode cX6_reads 127 = .ok (.putfield 215, 3) := by decide +kernel
theorem dX6_reads_130 : decode cX6_reads 130 = .ok (.iconst 1, 1) := by decide +kernel
theorem dX6_reads_131 : decode cX6_reads 131 = .ok (.ireturn, 1) := by decide +kernel
theorem dX6_acted_0 : decode cX6_acted 0 = .ok (.aload_n 0, 1) := by decide +kernel
theorem dX6_acted_1 : decode cX6_acted 1 = .ok (.getfield 40, 3) := by decide +kernel
theorem dX6_acted_4 : decode cX6_acted 4 = .ok (.iconst 4, 1) := by decide +kernel
theorem dX6_acted_5 : decode cX6_acted 5 = .ok (.iload_n 1, 1) := by decide +kernel
theorem dX6_acted_6 : decode cX6_acted 6 = .ok (.imul, 1) := by decide +kernel
theorem dX6_acted_7 : decode cX6_acted 7 = .ok (.iaload, 1) := by decide +kernel
theorem dX6_acted_8 : decode cX6_acted 8 = .ok (.istore_n 2, 1) := by decide +kernel
theorem dX6_acted_9 : decode cX6_acted 9 = .ok (.aload_n 0, 1) := by decide +kernel
theorem dX6_acted_10 : decode cX6_acted 10 = .ok (.getfield 40, 3) := by decide +kernel
theorem dX6_acted_13 : decode cX6_acted 13 = .ok (.iconst 4, 1) := by decide +kernel
theorem dX6_acted_14 : decode cX6_acted 14 = .ok (.iload_n 1, 1) := by decide +kernel
theorem dX6_acted_15 : decode cX6_acted 15 = .ok (.imul, 1) := by decide +kernel
theorem dX6_acted_16 : decode cX6_acted 16 = .ok (.iconst 1, 1) := by decide +kernel
theorem dX6_acted_17 : decode cX6_acted 17 = .ok (.iadd, 1) := by decide +kernel
theorem dX6_acted_18 : decode cX6_acted 18 = .ok (.iaload, 1) := by decide +kernel
theorem dX6_acted_19 : decode cX6_acted 19 = .ok (.istore_n 3, 1) := by decide +kernel
theorem dX6_acted_20 : decode cX6_acted 20 = .ok (.aload_n 0, 1) := by decide +kernel
theorem dX6_acted_21 : decode cX6_acted 21 = .ok (.getfield 40, 3) := by decide +kernel
theorem dX6_acted_24 : decode cX6_acted 24 = .ok (.iconst 4, 1) := by decide +kernel
theorem dX6_acted_25 : decode cX6_acted 25 = .ok (.iload_n 1, 1) := by decide +kernel
theorem dX6_acted_26 : decode cX6_acted 26 = .ok (.imul, 1) := by decide +kernel
theorem dX6_acted_27 : decode cX6_acted 27 = .ok (.iconst 2, 1) := by decide +kernel
theorem dX6_acted_28 : decode cX6_acted 28 = .ok (.iadd, 1) := by decide +kernel
theorem dX6_acted_29 : decode cX6_acted 29 = .ok (.iaload, 1) := by decide +kernel
theorem dX6_acted_30 : decode cX6_acted 30 = .ok (.istore 4, 2) := by decide +kernel
theorem dX6_acted_32 : decode cX6_acted 32 = .ok (.iload_n 2, 1) := by decide +kernel
theorem dX6_acted_33 : decode cX6_acted 33 = .ok (.bipush 108, 2) := by decide +kernel
theorem dX6_acted_35 : decode cX6_acted 35 = .ok (.if_icmp .ne 11, 3) := by decide +kernel
theorem dX6_acted_38 : decode cX6_acted 38 = .ok (.aload_n 0, 1) := by decide +kernel
theorem dX6_acted_39 : decode cX6_acted 39 = .ok (.iload_n 3, 1) := by decide +kernel
theorem dX6_acted_40 : decode cX6_acted 40 = .ok (.invokevirtual 95, 3) := by decide +kernel
theorem dX6_acted_43 : decode cX6_acted 43 = .ok (.goto 68, 3) := by decide +kernel
theorem dX6_acted_46 : decode cX6_acted 46 = .ok (.iload_n 2, 1) := by decide +kernel
theorem dX6_acted_47 : decode cX6_acted 47 = .ok (.bipush 103, 2) := by decide +kernel
theorem dX6_acted_49 : decode cX6_acted 49 = .ok (.if_icmp .ne 23, 3) := by decide +kernel
theorem dX6_acted_52 : decode cX6_acted 52 = .ok (.aload_n 0, 1) := by decide +kernel
theorem dX6_acted_53 : decode cX6_acted 53 = .ok (.iload_n 3, 1) := by decide +kernel
theorem dX6_acted_54 : decode cX6_acted 54 = .ok (.iload 4, 2) := by decide +kernel
theorem dX6_acted_56 : decode cX6_acted 56 = .ok (.aload_n 0, 1) := by decide +kernel
theorem dX6_acted_57 : decode cX6_acted 57 = .ok (.getfield 40, 3) := by decide +kernel
theorem dX6_acted_60 : decode cX6_acted 60 = .ok (.iconst 4, 1) := by decide +kernel
theorem dX6_acted_61 : decode cX6_acted 61 = .ok (.iload_n 1, 1) := by decide +kernel
theorem dX6_acted_62 : decode cX6_acted 62 = .ok (.imul, 1) := by decide +kernel
theorem dX6_acted_63 : decode cX6_acted 63 = .ok (.iconst 3, 1) := by decide +kernel
theorem dX6_acted_64 : decode cX6_acted 64 = .ok (.iadd, 1) := by decide +kernel
theorem dX6_acted_65 : decode cX6_acted 65 = .ok (.iaload, 1) := by decide +kernel
theorem dX6_acted_66 : decode cX6_acted 66 = .ok (.invokevirtual 101, 3) := by decide +kernel
theorem dX6_acted_69 : decode cX6_acted 69 = .ok (.goto 42, 3) := by decide +kernel
theorem dX6_acted_72 : decode cX6_acted 72 = .ok (.iload_n 2, 1) := by decide +kernel
theorem dX6_acted_73 : decode cX6_acted 73 = .ok (.bipush 107, 2) := by decide +kernel
theorem dX6_acted_75 : decode cX6_acted 75 = .ok (.if_icmp .ne 13, 3) := by decide +kernel
theorem dX6_acted_78 : decode cX6_acted 78 = .ok (.aload_n 0, 1) := by decide +kernel
theorem dX6_acted_79 : decode cX6_acted 79 = .ok (.iload_n 3, 1) := by decide +kernel
theorem dX6_acted_80 : decode cX6_acted 80 = .ok (.iload 4, 2) := by decide +kernel
theorem dX6_acted_82 : decode cX6_acted 82 = .ok (.invokevirtual 108, 3) := by decide +kernel
theorem dX6_acted_85 : decode cX6_acted 85 = .ok (.goto 26, 3) := by decide +kernel
theorem dX6_acted_88 : decode cX6_acted 88 = .ok (.iload_n 2, 1) := by decide +kernel
theorem dX6_acted_89 : decode cX6_acted 89 = .ok (.bipush 115, 2) := by decide +kernel
theorem dX6_acted_91 : decode cX6_acted 91 = .ok (.if_icmp .ne 13, 3) := by decide +kernel
theorem dX6_acted_94 : decode cX6_acted 94 = .ok (.aload_n 0, 1) := by decide +kernel
theorem dX6_acted_95 : decode cX6_acted 95 = .ok (.iload_n 3, 1) := by decide +kernel
theorem dX6_acted_96 : decode cX6_acted 96 = .ok (.iload 4, 2) := by decide +kernel
theorem dX6_acted_98 : decode cX6_acted 98 = .ok (.invokevirtual 117, 3) := by decide +kernel
theorem dX6_acted_101 : decode cX6_acted 101 = .ok (.goto 10, 3) := by decide +kernel
theorem dX6_acted_104 : decode cX6_acted 104 = .ok (.aload_n 0, 1) := by decide +kernel
theorem dX6_acted_105 : decode cX6_acted 105 = .ok (.iload_n 3, 1) := by decide +kernel
theorem dX6_acted_106 : decode cX6_acted 106 = .ok (.iload 4, 2) := by decide +kernel
theorem dX6_acted_108 : decode cX6_acted 108 = .ok (.invokevirtual 111, 3) := by decide +kernel
theorem dX6_acted_111 : decode cX6_acted 111 = .ok (.ireturn, 1) := by decide +kernel
theorem dX6_does_0 : decode cX6_does 0 = .ok (.aload_n 0, 1) := by decide +kernel
theorem dX6_does_1 : decode cX6_does 1 = .ok (.iconst 0, 1) := by decide +kernel
theorem dX6_does_2 : decode cX6_does 2 = .ok (.putfield 203, 3) := by decide +kernel
theorem dX6_does_5 : decode cX6_does 5 = .ok (.aload_n 0, 1) := by decide +kernel
theorem dX6_does_6 : decode cX6_does 6 = .ok (.iconst 0, 1) := by decide +kernel
theorem dX6_does_7 : decode cX6_does 7 = .ok (.putfield 215, 3) := by decide +kernel
theorem dX6_does_10 : decode cX6_does 10 = .ok (.aload_n 0, 1) := by decide +kernel
theorem dX6_does_11 : decode cX6_does 11 = .ok (.invokevirtual 209, 3) := by decide +kernel
theorem dX6_does_14 : decode cX6_does 14 = .ok (.iconst 1, 1) := by decide +kernel
theorem dX6_does_15 : decode cX6_does 15 = .ok (.istore_n 1, 1) := by decide +kernel
theorem dX6_does_16 : decode cX6_does 16 = .ok (.iconst 0, 1) := by decide +kernel
theorem dX6_does_17 : decode cX6_does 17 = .ok (.istore_n 2, 1) := by decide +kernel
theorem dX6_does_18 : decode cX6_does 18 = .ok (.iload_n 1, 1) := by decide +kernel
theorem dX6_does_19 : decode cX6_does 19 = .ok (.ifCond .eq 28, 3) := by decide +kernel
theorem dX6_does_22 : decode cX6_does 22 = .ok (.iload_n 2, 1) := by decide +kernel
theorem dX6_does_23 : decode cX6_does 23 = .ok (.ifCond .eq 14, 3) := by decide +kernel
theorem dX6_does_26 : decode cX6_does 26 = .ok (.aload_n 0, 1) := by decide +kernel
theorem dX6_does_27 : decode cX6_does 27 = .ok (.getfield 203, 3) := by decide +kernel
theorem dX6_does_30 : decode cX6_does 30 = .ok (.aload_n 0, 1) := by decide +kernel
theorem dX6_does_31 : decode cX6_does 31 = .ok (.getfield 197, 3) := by decide +kernel
theorem dX6_does_34 : decode cX6_does 34 = .ok (.if_icmp .ge 13, 3) := by decide +kernel
theorem dX6_does_37 : decode cX6_does 37 = .ok (.iconst 1, 1) := by decide +kernel
theorem dX6_does_38 : decode cX6_does 38 = .ok (.istore_n 2, 1) := by decide +kernel
theorem dX6_does_39 : decode cX6_does 39 = .ok (.aload_n 0, 1) := by decide +kernel
theorem dX6_does_40 : decode cX6_does 40 = .ok (.invokevirtual 221, 3) := by decide +kernel
theorem dX6_does_43 : decode cX6_does 43 = .ok (.istore_n 1, 1) := by decide +kernel
theorem dX6_does_44 : decode cX6_does 44 = .ok (.goto (-26), 3) := by decide +kernel
theorem dX6_does_47 : decode cX6_does 47 = .ok (.iload_n 1, 1) := by decide +kernel
theorem dX6_does_48 : decode cX6_does 48 = .ok (.ifCond .ne 11, 3) := by decide +kernel
theorem dX6_does_51 : decode cX6_does 51 = .ok (.bipush (-10), 2) := by decide +kernel
theorem dX6_does_53 : decode cX6_does 53 = .ok (.aload_n 0, 1) := by decide +kernel
theorem dX6_does_54 : decode cX6_does 54 = .ok (.getfield 203, 3) := by decide +kernel
theorem dX6_does_57 : decode cX6_does 57 = .ok (.isub, 1) := by decide +kernel
theorem dX6_does_58 : decode cX6_does 58 = .ok (.ireturn, 1) := by decide +kernel
theorem dX6_does_59 : decode cX6_does 59 = .ok (.aload_n 0, 1) := by decide +kernel
theorem dX6_does_60 : decode cX6_does 60 = .ok (.iconst 5, 1) := by decide +kernel
theorem dX6_does_61 : decode cX6_does 61 = .ok (.invokevirtual 92, 3) := by decide +kernel
theorem dX6_does_64 : decode cX6_does 64 = .ok (.iconst 0, 1) := by decide +kernel
theorem dX6_does_65 : decode cX6_does 65 = .ok (.istore_n 3, 1) := by decide +kernel
theorem dX6_does_66 : decode cX6_does 66 = .ok (.iload_n 3, 1) := by decide +kernel
theorem dX6_does_67 : decode cX6_does 67 = .ok (.aload_n 0, 1) := by decide +kernel
theorem dX6_does_68 : decode cX6_does 68 = .ok (.getfield 215, 3) := by decide +kernel
theorem dX6_does_71 : decode cX6_does 71 = .ok (.if_icmp .ge 28, 3) := by decide +kernel
theorem dX6_does_74 : decode cX6_does 74 = .ok (.aload_n 0, 1) := by decide +kernel
theorem dX6_does_75 : decode cX6_does 75 = .ok (.iload_n 3, 1) := by decide +kernel
theorem dX6_does_76 : decode cX6_does 76 = .ok (.invokevirtual 224, 3) := by decide +kernel
theorem dX6_does_79 : decode cX6_does 79 = .ok (.ifCond .ge 14, 3) := by decide +kernel
theorem dX6_does_82 : decode cX6_does 82 = .ok (.aload_n 0, 1) := by decide +kernel
theorem dX6_does_83 : decode cX6_does 83 = .ok (.iconst 5, 1) := by decide +kernel
theorem dX6_does_84 : decode cX6_does 84 = .ok (.invokevirtual 57, 3) := by decide +kernel
theorem dX6_does_87 : decode cX6_does 87 = .ok (.sipush (-1000), 3) := by decide +kernel
theorem dX6_does_90 : decode cX6_does 90 = .ok (.iload_n 3, 1) := by decide +kernel
theorem dX6_does_91 : decode cX6_does 91 = .ok (.isub, 1) := by decide +kernel
theorem dX6_does_92 : decode cX6_does 92 = .ok (.ireturn, 1) := by decide +kernel
theorem dX6_does_93 : decode cX6_does 93 = .ok (.iinc 3 1, 3) := by decide +kernel
theorem dX6_does_96 : decode cX6_does 96 = .ok (.goto (-30), 3) := by decide +kernel
theorem dX6_does_99 : decode cX6_does 99 = .ok (.aload_n 0, 1) := by decide +kernel
theorem dX6_does_100 : decode cX6_does 100 = .ok (.invokevirtual 89, 3) := by decide +kernel
theorem dX6_does_103 : decode cX6_does 103 = .ok (.aload_n 0, 1) := by decide +kernel
theorem dX6_does_104 : decode cX6_does 104 = .ok (.getfield 215, 3) := by decide +kernel
theorem dX6_does_107 : decode cX6_does 107 = .ok (.ireturn, 1) := by decide +kernel
theorem dX6_toldOf_0 : decode cX6_toldOf 0 = .ok (.iload_n 1, 1) := by decide +kernel
theorem dX6_toldOf_1 : decode cX6_toldOf 1 = .ok (.iconst 3, 1) := by decide +kernel
theorem dX6_toldOf_2 : decode cX6_toldOf 2 = .ok (.if_icmp .ge 12, 3) := by decide +kernel
theorem dX6_toldOf_5 : decode cX6_toldOf 5 = .ok (.aload_n 0, 1) := by decide +kernel
theorem dX6_toldOf_6 : decode cX6_toldOf 6 = .ok (.getfield 7, 3) := by decide +kernel
theorem dX6_toldOf_9 : decode cX6_toldOf 9 = .ok (.iload_n 1, 1) := by decide +kernel
theorem dX6_toldOf_10 : decode cX6_toldOf 10 = .ok (.iaload, 1) := by decide +kernel
theorem dX6_toldOf_11 : decode cX6_toldOf 11 = .ok (.goto 19, 3) := by decide +kernel
theorem dX6_toldOf_14 : decode cX6_toldOf 14 = .ok (.iload_n 1, 1) := by decide +kernel
theorem dX6_toldOf_15 : decode cX6_toldOf 15 = .ok (.iconst 3, 1) := by decide +kernel
theorem dX6_toldOf_16 : decode cX6_toldOf 16 = .ok (.if_icmp .ne 10, 3) := by decide +kernel
theorem dX6_toldOf_19 : decode cX6_toldOf 19 = .ok (.aload_n 0, 1) := by decide +kernel
theorem dX6_toldOf_20 : decode cX6_toldOf 20 = .ok (.getfield 197, 3) := by decide +kernel
theorem dX6_toldOf_23 : decode cX6_toldOf 23 = .ok (.goto 7, 3) := by decide +kernel
theorem dX6_toldOf_26 : decode cX6_toldOf 26 = .ok (.aload_n 0, 1) := by decide +kernel
theorem dX6_toldOf_27 : decode cX6_toldOf 27 = .ok (.getfield 53, 3) := by decide +kernel
theorem dX6_toldOf_30 : decode cX6_toldOf 30 = .ok (.ireturn, 1) := by decide +kernel
theorem dX6_told_0 : decode cX6_told 0 = .ok (.iload_n 1, 1) := by decide +kernel
theorem dX6_told_1 : decode cX6_told 1 = .ok (.iconst 0, 1) := by decide +kernel
theorem dX6_told_2 : decode cX6_told 2 = .ok (.iconst 4, 1) := by decide +kernel
theorem dX6_told_3 : decode cX6_told 3 = .ok (.invokestatic 61, 3) := by decide +kernel
theorem dX6_told_6 : decode cX6_told 6 = .ok (.ifCond .eq 11, 3) := by decide +kernel
theorem dX6_told_9 : decode cX6_told 9 = .ok (.aload_n 0, 1) := by decide +kernel
theorem dX6_told_10 : decode cX6_told 10 = .ok (.iload_n 1, 1) := by decide +kernel
theorem dX6_told_11 : decode cX6_told 11 = .ok (.invokevirtual 227, 3) := by decide +kernel
theorem dX6_told_14 : decode cX6_told 14 = .ok (.goto 7, 3) := by decide +kernel
theorem dX6_told_17 : decode cX6_told 17 = .ok (.aload_n 0, 1) := by decide +kernel
theorem dX6_told_18 : decode cX6_told 18 = .ok (.invokevirtual 43, 3) := by decide +kernel
theorem dX6_told_21 : decode cX6_told 21 = .ok (.ireturn, 1) := by decide +kernel
theorem dX6_digest_0 : decode cX6_digest 0 = .ok (.ldc2_w 230, 3) := by decide +kernel
theorem dX6_digest_3 : decode cX6_digest 3 = .ok (.lstore_n 1, 1) := by decide +kernel
theorem dX6_digest_4 : decode cX6_digest 4 = .ok (.iconst 0, 1) := by decide +kernel
theorem dX6_digest_5 : decode cX6_digest 5 = .ok (.istore_n 3, 1) := by decide +kernel
theorem dX6_digest_6 : decode cX6_digest 6 = .ok (.iload_n 3, 1) := by decide +kernel
theorem dX6_digest_7 : decode cX6_digest 7 = .ok (.iconst 5, 1) := by decide +kernel
theorem dX6_digest_8 : decode cX6_digest 8 = .ok (.if_icmp .ge 22, 3) := by decide +kernel
theorem dX6_digest_11 : decode cX6_digest 11 = .ok (.ldc2_w 232, 3) := by decide +kernel
theorem dX6_digest_14 : decode cX6_digest 14 = .ok (.lload_n 1, 1) := by decide +kernel
theorem dX6_digest_15 : decode cX6_digest 15 = .ok (.lmul, 1) := by decide +kernel
theorem dX6_digest_16 : decode cX6_digest 16 = .ok (.aload_n 0, 1) := by decide +kernel
theorem dX6_digest_17 : decode cX6_digest 17 = .ok (.iload_n 3, 1) := by decide +kernel
theorem dX6_digest_18 : decode cX6_digest 18 = .ok (.invokevirtual 227, 3) := by decide +kernel
theorem dX6_digest_21 : decode cX6_digest 21 = .ok (.i2l, 1) := by decide +kernel
theorem dX6_digest_22 : decode cX6_digest 22 = .ok (.ladd, 1) := by decide +kernel
theorem dX6_digest_23 : decode cX6_digest 23 = .ok (.lstore_n 1, 1) := by decide +kernel
theorem dX6_digest_24 : decode cX6_digest 24 = .ok (.iinc 3 1, 3) := by decide +kernel
theorem dX6_digest_27 : decode cX6_digest 27 = .ok (.goto (-21), 3) := by decide +kernel
theorem dX6_digest_30 : decode cX6_digest 30 = .ok (.iconst 0, 1) := by decide +kernel
theorem dX6_digest_31 : decode cX6_digest 31 = .ok (.istore_n 3, 1) := by decide +kernel
theorem dX6_digest_32 : decode cX6_digest 32 = .ok (.iload_n 3, 1) := by decide +kernel
theorem dX6_digest_33 : decode cX6_digest 33 = .ok (.bipush 7, 2) := by decide +kernel
theorem dX6_digest_35 : decode cX6_digest 35 = .ok (.if_icmp .ge 22, 3) := by decide +kernel
theorem dX6_digest_38 : decode cX6_digest 38 = .ok (.ldc2_w 232, 3) := by decide +kernel
theorem dX6_digest_41 : decode cX6_digest 41 = .ok (.lload_n 1, 1) := by decide +kernel
theorem dX6_digest_42 : decode cX6_digest 42 = .ok (.lmul, 1) := by decide +kernel
theorem dX6_digest_43 : decode cX6_digest 43 = .ok (.aload_n 0, 1) := by decide +kernel
theorem dX6_digest_44 : decode cX6_digest 44 = .ok (.iload_n 3, 1) := by decide +kernel
theorem dX6_digest_45 : decode cX6_digest 45 = .ok (.invokevirtual 188, 3) := by decide +kernel
theorem dX6_digest_48 : decode cX6_digest 48 = .ok (.i2l, 1) := by decide +kernel
theorem dX6_digest_49 : decode cX6_digest 49 = .ok (.ladd, 1) := by decide +kernel
theorem dX6_digest_50 : decode cX6_digest 50 = .ok (.lstore_n 1, 1) := by decide +kernel
theorem dX6_digest_51 : decode cX6_digest 51 = .ok (.iinc 3 1, 3) := by decide +kernel
theorem dX6_digest_54 : decode cX6_digest 54 = .ok (.goto (-22), 3) := by decide +kernel
theorem dX6_digest_57 : decode cX6_digest 57 = .ok (.iconst 0, 1) := by decide +kernel
theorem dX6_digest_58 : decode cX6_digest 58 = .ok (.istore_n 3, 1) := by decide +kernel
theorem dX6_digest_59 : decode cX6_digest 59 = .ok (.iload_n 3, 1) := by decide +kernel
theorem dX6_digest_60 : decode cX6_digest 60 = .ok (.bipush 7, 2) := by decide +kernel
theorem dX6_digest_62 : decode cX6_digest 62 = .ok (.if_icmp .ge 25, 3) := by decide +kernel
theorem dX6_digest_65 : decode cX6_digest 65 = .ok (.ldc2_w 232, 3) := by decide +kernel
theorem dX6_digest_68 : decode cX6_digest 68 = .ok (.lload_n 1, 1) := by decide +kernel
theorem dX6_digest_69 : decode cX6_digest 69 = .ok (.lmul, 1) := by decide +kernel
theorem dX6_digest_70 : decode cX6_digest 70 = .ok (.aload_n 0, 1) := by decide +kernel
theorem dX6_digest_71 : decode cX6_digest 71 = .ok (.getfield 13, 3) := by decide +kernel
theorem dX6_digest_74 : decode cX6_digest 74 = .ok (.iconst 2, 1) := by decide +kernel
theorem dX6_digest_75 : decode cX6_digest 75 = .ok (.iload_n 3, 1) := by decide +kernel
theorem dX6_digest_76 : decode cX6_digest 76 = .ok (.iadd, 1) := by decide +kernel
theorem dX6_digest_77 : decode cX6_digest 77 = .ok (.iaload, 1) := by decide +kernel
theorem dX6_digest_78 : decode cX6_digest 78 = .ok (.i2l, 1) := by decide +kernel
theorem dX6_digest_79 : decode cX6_digest 79 = .ok (.ladd, 1) := by decide +kernel
theorem dX6_digest_80 : decode cX6_digest 80 = .ok (.lstore_n 1, 1) := by decide +kernel
theorem dX6_digest_81 : decode cX6_digest 81 = .ok (.iinc 3 1, 3) := by decide +kernel
theorem dX6_digest_84 : decode cX6_digest 84 = .ok (.goto (-25), 3) := by decide +kernel
theorem dX6_digest_87 : decode cX6_digest 87 = .ok (.iconst 0, 1) := by decide +kernel
theorem dX6_digest_88 : decode cX6_digest 88 = .ok (.istore_n 3, 1) := by decide +kernel
theorem dX6_digest_89 : decode cX6_digest 89 = .ok (.iload_n 3, 1) := by decide +kernel
theorem dX6_digest_90 : decode cX6_digest 90 = .ok (.aload_n 0, 1) := by decide +kernel
theorem dX6_digest_91 : decode cX6_digest 91 = .ok (.getfield 13, 3) := by decide +kernel
theorem dX6_digest_94 : decode cX6_digest 94 = .ok (.iconst 0, 1) := by decide +kernel
theorem dX6_digest_95 : decode cX6_digest 95 = .ok (.iaload, 1) := by decide +kernel
theorem dX6_digest_96 : decode cX6_digest 96 = .ok (.if_icmp .ge 104, 3) := by decide +kernel
theorem dX6_digest_99 : decode cX6_digest 99 = .ok (.iconst 0, 1) := by decide +kernel
theorem dX6_digest_100 : decode cX6_digest 100 = .ok (.istore 4, 2) := by decide +kernel
theorem dX6_digest_102 : decode cX6_digest 102 = .ok (.iload 4, 2) := by decide +kernel
theorem dX6_digest_104 : decode cX6_digest 104 = .ok (.bipush 7, 2) := by decide +kernel
theorem dX6_digest_106 : decode cX6_digest 106 = .ok (.if_icmp .ge 24, 3) := by decide +kernel
theorem dX6_digest_109 : decode cX6_digest 109 = .ok (.ldc2_w 232, 3) := by decide +kernel
theorem dX6_digest_112 : decode cX6_digest 112 = .ok (.lload_n 1, 1) := by decide +kernel
theorem dX6_digest_113 : decode cX6_digest 113 = .ok (.lmul, 1) := by decide +kernel
theorem dX6_digest_114 : decode cX6_digest 114 = .ok (.aload_n 0, 1) := by decide +kernel
theorem dX6_digest_115 : decode cX6_digest 115 = .ok (.iload_n 3, 1) := by decide +kernel
theorem dX6_digest_116 : decode cX6_digest 116 = .ok (.iload 4, 2) := by decide +kernel
theorem dX6_digest_118 : decode cX6_digest 118 = .ok (.invokevirtual 144, 3) := by decide +kernel
theorem dX6_digest_121 : decode cX6_digest 121 = .ok (.i2l, 1) := by decide +kernel
theorem dX6_digest_122 : decode cX6_digest 122 = .ok (.ladd, 1) := by decide +kernel
theorem dX6_digest_123 : decode cX6_digest 123 = .ok (.lstore_n 1, 1) := by decide +kernel
theorem dX6_digest_124 : decode cX6_digest 124 = .ok (.iinc 4 1, 3) := by decide +kernel
theorem dX6_digest_127 : decode cX6_digest 127 = .ok (.goto (-25), 3) := by decide +kernel
theorem dX6_digest_130 : decode cX6_digest 130 = .ok (.iconst 0, 1) := by decide +kernel
theorem dX6_digest_131 : decode cX6_digest 131 = .ok (.istore 4, 2) := by decide +kernel
theorem dX6_digest_133 : decode cX6_digest 133 = .ok (.iload 4, 2) := by decide +kernel
theorem dX6_digest_135 : decode cX6_digest 135 = .ok (.aload_n 0, 1) := by decide +kernel
theorem dX6_digest_136 : decode cX6_digest 136 = .ok (.iload_n 3, 1) := by decide +kernel
theorem dX6_digest_137 : decode cX6_digest 137 = .ok (.invokevirtual 69, 3) := by decide +kernel
theorem dX6_digest_140 : decode cX6_digest 140 = .ok (.if_icmp .ge 41, 3) := by decide +kernel
theorem dX6_digest_143 : decode cX6_digest 143 = .ok (.iconst 0, 1) := by decide +kernel
theorem dX6_digest_144 : decode cX6_digest 144 = .ok (.istore 5, 2) := by decide +kernel
theorem dX6_digest_146 : decode cX6_digest 146 = .ok (.iload 5, 2) := by decide +kernel
theorem dX6_digest_148 : decode cX6_digest 148 = .ok (.iconst 3, 1) := by decide +kernel
theorem dX6_digest_149 : decode cX6_digest 149 = .ok (.if_icmp .ge 26, 3) := by decide +kernel
theorem dX6_digest_152 : decode cX6_digest 152 = .ok (.ldc2_w 232, 3) := by decide +kernel
theorem dX6_digest_155 : decode cX6_digest 155 = .ok (.lload_n 1, 1) := by decide +kernel
theorem dX6_digest_156 : decode cX6_digest 156 = .ok (.lmul, 1) := by decide +kernel
theorem dX6_digest_157 : decode cX6_digest 157 = .ok (.aload_n 0, 1) := by decide +kernel
theorem dX6_digest_158 : decode cX6_digest 158 = .ok (.iload_n 3, 1) := by decide +kernel
theorem dX6_digest_159 : decode cX6_digest 159 = .ok (.iload 4, 2) := by decide +kernel
theorem dX6_digest_161 : decode cX6_digest 161 = .ok (.iload 5, 2) := by decide +kernel
theorem dX6_digest_163 : decode cX6_digest 163 = .ok (.invokevirtual 151, 3) := by decide +kernel
theorem dX6_digest_166 : decode cX6_digest 166 = .ok (.i2l, 1) := by decide +kernel
theorem dX6_digest_167 : decode cX6_digest 167 = .ok (.ladd, 1) := by decide +kernel
theorem dX6_digest_168 : decode cX6_digest 168 = .ok (.lstore_n 1, 1) := by decide +kernel
theorem dX6_digest_169 : decode cX6_digest 169 = .ok (.iinc 5 1, 3) := by decide +kernel
theorem dX6_digest_172 : decode cX6_digest 172 = .ok (.goto (-26), 3) := by decide +kernel
theorem dX6_digest_175 : decode cX6_digest 175 = .ok (.iinc 4 1, 3) := by decide +kernel
theorem dX6_digest_178 : decode cX6_digest 178 = .ok (.goto (-45), 3) := by decide +kernel
theorem dX6_digest_181 : decode cX6_digest 181 = .ok (.ldc2_w 232, 3) := by decide +kernel
theorem dX6_digest_184 : decode cX6_digest 184 = .ok (.lload_n 1, 1) := by decide +kernel
theorem dX6_digest_185 : decode cX6_digest 185 = .ok (.lmul, 1) := by decide +kernel
theorem dX6_digest_186 : decode cX6_digest 186 = .ok (.aload_n 0, 1) := by decide +kernel
theorem dX6_digest_187 : decode cX6_digest 187 = .ok (.iload_n 3, 1) := by decide +kernel
theorem dX6_digest_188 : decode cX6_digest 188 = .ok (.invokevirtual 194, 3) := by decide +kernel
theorem dX6_digest_191 : decode cX6_digest 191 = .ok (.i2l, 1) := by decide +kernel
theorem dX6_digest_192 : decode cX6_digest 192 = .ok (.ladd, 1) := by decide +kernel
theorem dX6_digest_193 : decode cX6_digest 193 = .ok (.lstore_n 1, 1) := by decide +kernel
theorem dX6_digest_194 : decode cX6_digest 194 = .ok (.iinc 3 1, 3) := by decide +kernel
theorem dX6_digest_197 : decode cX6_digest 197 = .ok (.goto (-108), 3) := by decide +kernel
theorem dX6_digest_200 : decode cX6_digest 200 = .ok (.iconst 0, 1) := by decide +kernel
theorem dX6_digest_201 : decode cX6_digest 201 = .ok (.istore_n 3, 1) := by decide +kernel
theorem dX6_digest_202 : decode cX6_digest 202 = .ok (.iload_n 3, 1) := by decide +kernel
theorem dX6_digest_203 : decode cX6_digest 203 = .ok (.aload_n 0, 1) := by decide +kernel
theorem dX6_digest_204 : decode cX6_digest 204 = .ok (.getfield 13, 3) := by decide +kernel
theorem dX6_digest_207 : decode cX6_digest 207 = .ok (.iconst 1, 1) := by decide +kernel
theorem dX6_digest_208 : decode cX6_digest 208 = .ok (.iaload, 1) := by decide +kernel
theorem dX6_digest_209 : decode cX6_digest 209 = .ok (.if_icmp .ge 39, 3) := by decide +kernel
theorem dX6_digest_212 : decode cX6_digest 212 = .ok (.iconst 0, 1) := by decide +kernel
theorem dX6_digest_213 : decode cX6_digest 213 = .ok (.istore 4, 2) := by decide +kernel
theorem dX6_digest_215 : decode cX6_digest 215 = .ok (.iload 4, 2) := by decide +kernel
theorem dX6_digest_217 : decode cX6_digest 217 = .ok (.iconst 4, 1) := by decide +kernel
theorem dX6_digest_218 : decode cX6_digest 218 = .ok (.if_icmp .ge 24, 3) := by decide +kernel
theorem dX6_digest_221 : decode cX6_digest 221 = .ok (.ldc2_w 232, 3) := by decide +kernel
theorem dX6_digest_224 : decode cX6_digest 224 = .ok (.lload_n 1, 1) := by decide +kernel
theorem dX6_digest_225 : decode cX6_digest 225 = .ok (.lmul, 1) := by decide +kernel
theorem dX6_digest_226 : decode cX6_digest 226 = .ok (.aload_n 0, 1) := by decide +kernel
theorem dX6_digest_227 : decode cX6_digest 227 = .ok (.iload_n 3, 1) := by decide +kernel
theorem dX6_digest_228 : decode cX6_digest 228 = .ok (.iload 4, 2) := by decide +kernel
theorem dX6_digest_230 : decode cX6_digest 230 = .ok (.invokevirtual 185, 3) := by decide +kernel
theorem dX6_digest_233 : decode cX6_digest 233 = .ok (.i2l, 1) := by decide +kernel
theorem dX6_digest_234 : decode cX6_digest 234 = .ok (.ladd, 1) := by decide +kernel
theorem dX6_digest_235 : decode cX6_digest 235 = .ok (.lstore_n 1, 1) := by decide +kernel
theorem dX6_digest_236 : decode cX6_digest 236 = .ok (.iinc 4 1, 3) := by decide +kernel
theorem dX6_digest_239 : decode cX6_digest 239 = .ok (.goto (-24), 3) := by decide +kernel
theorem dX6_digest_242 : decode cX6_digest 242 = .ok (.iinc 3 1, 3) := by decide +kernel
theorem dX6_digest_245 : decode cX6_digest 245 = .ok (.goto (-43), 3) := by decide +kernel
theorem dX6_digest_248 : decode cX6_digest 248 = .ok (.ldc2_w 232, 3) := by decide +kernel
theorem dX6_digest_251 : decode cX6_digest 251 = .ok (.lload_n 1, 1) := by decide +kernel
theorem dX6_digest_252 : decode cX6_digest 252 = .ok (.lmul, 1) := by decide +kernel
theorem dX6_digest_253 : decode cX6_digest 253 = .ok (.aload_n 0, 1) := by decide +kernel
theorem dX6_digest_254 : decode cX6_digest 254 = .ok (.invokevirtual 234, 3) := by decide +kernel
theorem dX6_digest_257 : decode cX6_digest 257 = .ok (.i2l, 1) := by decide +kernel
theorem dX6_digest_258 : decode cX6_digest 258 = .ok (.ladd, 1) := by decide +kernel
theorem dX6_digest_259 : decode cX6_digest 259 = .ok (.lstore_n 1, 1) := by decide +kernel
theorem dX6_digest_260 : decode cX6_digest 260 = .ok (.ldc2_w 232, 3) := by decide +kernel
theorem dX6_digest_263 : decode cX6_digest 263 = .ok (.lload_n 1, 1) := by decide +kernel
theorem dX6_digest_264 : decode cX6_digest 264 = .ok (.lmul, 1) := by decide +kernel
theorem dX6_digest_265 : decode cX6_digest 265 = .ok (.aload_n 0, 1) := by decide +kernel
theorem dX6_digest_266 : decode cX6_digest 266 = .ok (.invokevirtual 237, 3) := by decide +kernel
theorem dX6_digest_269 : decode cX6_digest 269 = .ok (.i2l, 1) := by decide +kernel
theorem dX6_digest_270 : decode cX6_digest 270 = .ok (.ladd, 1) := by decide +kernel
theorem dX6_digest_271 : decode cX6_digest 271 = .ok (.lstore_n 1, 1) := by decide +kernel
theorem dX6_digest_272 : decode cX6_digest 272 = .ok (.ldc2_w 232, 3) := by decide +kernel
theorem dX6_digest_275 : decode cX6_digest 275 = .ok (.lload_n 1, 1) := by decide +kernel
theorem dX6_digest_276 : decode cX6_digest 276 = .ok (.lmul, 1) := by decide +kernel
theorem dX6_digest_277 : decode cX6_digest 277 = .ok (.aload_n 0, 1) := by decide +kernel
theorem dX6_digest_278 : decode cX6_digest 278 = .ok (.invokevirtual 240, 3) := by decide +kernel
theorem dX6_digest_281 : decode cX6_digest 281 = .ok (.i2l, 1) := by decide +kernel
theorem dX6_digest_282 : decode cX6_digest 282 = .ok (.ladd, 1) := by decide +kernel
theorem dX6_digest_283 : decode cX6_digest 283 = .ok (.lstore_n 1, 1) := by decide +kernel
theorem dX6_digest_284 : decode cX6_digest 284 = .ok (.aload_n 0, 1) := by decide +kernel
theorem dX6_digest_285 : decode cX6_digest 285 = .ok (.invokevirtual 179, 3) := by decide +kernel
theorem dX6_digest_288 : decode cX6_digest 288 = .ok (.istore_n 3, 1) := by decide +kernel
theorem dX6_digest_289 : decode cX6_digest 289 = .ok (.iconst 0, 1) := by decide +kernel
theorem dX6_digest_290 : decode cX6_digest 290 = .ok (.istore 4, 2) := by decide +kernel
theorem dX6_digest_292 : decode cX6_digest 292 = .ok (.iload 4, 2) := by decide +kernel
theorem dX6_digest_294 : decode cX6_digest 294 = .ok (.aload_n 0, 1) := by decide +kernel
theorem dX6_digest_295 : decode cX6_digest 295 = .ok (.getfield 13, 3) := by decide +kernel
theorem dX6_digest_298 : decode cX6_digest 298 = .ok (.iconst 0, 1) := by decide +kernel
theorem dX6_digest_299 : decode cX6_digest 299 = .ok (.iaload, 1) := by decide +kernel
theorem dX6_digest_300 : decode cX6_digest 300 = .ok (.if_icmp .ge 54, 3) := by decide +kernel
theorem dX6_digest_303 : decode cX6_digest 303 = .ok (.iload_n 3, 1) := by decide +kernel
theorem dX6_digest_304 : decode cX6_digest 304 = .ok (.ifCond .eq 50, 3) := by decide +kernel
theorem dX6_digest_307 : decode cX6_digest 307 = .ok (.iconst 0, 1) := by decide +kernel
theorem dX6_digest_308 : decode cX6_digest 308 = .ok (.istore 5, 2) := by decide +kernel
theorem dX6_digest_310 : decode cX6_digest 310 = .ok (.iload 5, 2) := by decide +kernel
theorem dX6_digest_312 : decode cX6_digest 312 = .ok (.aload_n 0, 1) := by decide +kernel
theorem dX6_digest_313 : decode cX6_digest 313 = .ok (.getfield 13, 3) := by decide +kernel
theorem dX6_digest_316 : decode cX6_digest 316 = .ok (.iconst 1, 1) := by decide +kernel
theorem dX6_digest_317 : decode cX6_digest 317 = .ok (.iaload, 1) := by decide +kernel
theorem dX6_digest_318 : decode cX6_digest 318 = .ok (.if_icmp .ge 30, 3) := by decide +kernel
theorem dX6_digest_321 : decode cX6_digest 321 = .ok (.ldc2_w 232, 3) := by decide +kernel
theorem dX6_digest_324 : decode cX6_digest 324 = .ok (.lload_n 1, 1) := by decide +kernel
theorem dX6_digest_325 : decode cX6_digest 325 = .ok (.lmul, 1) := by decide +kernel
theorem dX6_digest_326 : decode cX6_digest 326 = .ok (.aload_n 0, 1) := by decide +kernel
theorem dX6_digest_327 : decode cX6_digest 327 = .ok (.getfield 28, 3) := by decide +kernel
theorem dX6_digest_330 : decode cX6_digest 330 = .ok (.bipush 6, 2) := by decide +kernel
theorem dX6_digest_332 : decode cX6_digest 332 = .ok (.iload 4, 2) := by decide +kernel
theorem dX6_digest_334 : decode cX6_digest 334 = .ok (.imul, 1) := by decide +kernel
theorem dX6_digest_335 : decode cX6_digest 335 = .ok (.iload 5, 2) := by decide +kernel
theorem dX6_digest_337 : decode cX6_digest 337 = .ok (.iadd, 1) := by decide +kernel
theorem dX6_digest_338 : decode cX6_digest 338 = .ok (.iaload, 1) := by decide +kernel
theorem dX6_digest_339 : decode cX6_digest 339 = .ok (.i2l, 1) := by decide +kernel
theorem dX6_digest_340 : decode cX6_digest 340 = .ok (.ladd, 1) := by decide +kernel
theorem dX6_digest_341 : decode cX6_digest 341 = .ok (.lstore_n 1, 1) := by decide +kernel
theorem dX6_digest_342 : decode cX6_digest 342 = .ok (.iinc 5 1, 3) := by decide +kernel
theorem dX6_digest_345 : decode cX6_digest 345 = .ok (.goto (-35), 3) := by decide +kernel
theorem dX6_digest_348 : decode cX6_digest 348 = .ok (.iinc 4 1, 3) := by decide +kernel
theorem dX6_digest_351 : decode cX6_digest 351 = .ok (.goto (-59), 3) := by decide +kernel
theorem dX6_digest_354 : decode cX6_digest 354 = .ok (.lload_n 1, 1) := by decide +kernel
theorem dX6_digest_355 : decode cX6_digest 355 = .ok (.lreturn, 1) := by decide +kernel
end
section
/-! the memory of the whole system as numbers by cell and place; the goal form G; its rules -/
abbrev Mem : Type := Nat → Nat → Int32
/-- the launch, the classes' numbers and slots, the classes of int rows and of rows of Bus, the cells' addresses, the two static rows' addresses -/
abbrev Zt : Type := Launch × va_G × (ClassId × ClassId) × (Nat → Nat) × (Nat × Nat)
def zad (Z : Zt) (i : Nat) : Nat := Z.2.2.2.1 i
def zcI (Z : Zt) : ClassId := Z.2.2.1.1
def zcB (Z : Zt) : ClassId := Z.2.2.1.2
def ztL (Z : Zt) : Nat := Z.2.2.2.2.1
def ztH (Z : Zt) : Nat := Z.2.2.2.2.2
/-- the program, the environment, the room, the start, the method, its arguments, the frames below, its table rows, cells and slots made, the end -/
abbrev Xt : Type := Program × Env × Room × State × MethodId × Array Value × List Frame × Method × Code × (Nat × Nat) × (State → Prop)
def TB : List Cond := lw_tbl.filter goodWord
theorem tb_of {i : Nat} {w : Cond} (h : lw_tbl[i]? = some w) (g : goodWord w = true) : w ∈ TB := List.mem_filter.mpr ⟨List.mem_of_getElem? h, g⟩
theorem tb_good : GoodIn TB TB := fun _ hw => ⟨hw, good_of_word (List.mem_filter.mp hw).2⟩
theorem tb_code {w : Cond} (h : w ∈ TB) : GoodIn TB (w :: TB) := fun u hu => by
  rcases List.mem_cons.mp hu with rfl | hu
  · exact tb_good _ h
  · exact tb_good _ hu
def NC : Nat := 81
def obs (ci : Nat) (fs : List Value) : va_E := .inr (ci, fs)
def ars (Z : Zt) (n : Nat) (f : Nat → Int32) : va_E := .inl (zcI Z, (n, .inl f))
def shBus (Z : Zt) (o : Nat) (f : Nat → Int32) : va_E := .inr (0, [.ref (zad Z (o + 1)), .ref (zad Z (o + 2)), .ref (zad Z (o + 3)), .ref (zad Z (o + 4)), .ref (zad Z (o + 5)), .ref (zad Z (o + 6)), .int (f 6), .int (f 7)])
def shShr (Z : Zt) (o : Nat) (f : Nat → Int32) : va_E := .inr (3, [.ref (zad Z (o + 1)), .ref (zad Z (o + 2)), .ref (zad Z (o + 3)), .ref (zad Z (o + 4)), .int (f 4), .int (f 5), .int (f 6), .int (f 7)])
def shl7 (Z : Zt) (o : Nat) : List ((Nat → Int32) → va_E) := [shBus Z o, ars Z 6, ars Z 48, ars Z 48, ars Z 6, ars Z 6, ars Z 7]
def shl5 (Z : Zt) (o : Nat) : List ((Nat → Int32) → va_E) := [shShr Z o, ars Z 64, ars Z 64, ars Z 6, ars Z 36]
def shl (Z : Zt) : List ((Nat → Int32) → va_E) :=
  [fun f => .inr (5, [.ref (zad Z 1), .ref (zad Z 8), .ref (zad Z 50), .ref (zad Z 52), .ref (zad Z 56), .ref (zad Z 61), .ref (zad Z 66), .int (f 7), .int (f 8), .int (f 9), .int (f 10)])]
  ++ (shl7 Z 1 ++ (shl7 Z 8 ++ (shl7 Z 15 ++ (shl7 Z 22 ++ (shl7 Z 29 ++ (shl7 Z 36 ++ (shl7 Z 43 ++
  ([fun f => .inr (1, [.ref (zad Z 51), .int (f 1), .int (f 2)]), fun _ => .inl (zcB Z, (5, .inr (.inr (.inr (.inr (fun j => some (zad Z (15 + 7 * j))))))))]
  ++ ([fun f => .inr (4, [.ref (zad Z 53), .ref (zad Z 54), .ref (zad Z 55), .int (f 3), .int (f 4), .int (f 5), .int (f 6), .int (f 7)]), ars Z 120, ars Z 40, ars Z 120]
  ++ (shl5 Z 56 ++ (shl5 Z 61 ++ ([fun _ => .inr (2, [.ref (zad Z 67), .ref (zad Z 68)]), ars Z 15, ars Z 15]
  ++ [fun f => .inr (6, [.ref (zad Z 70), .ref (zad Z 71), .ref (zad Z 72), .int (f 3), .ref (zad Z 73), .ref (zad Z 74), .ref (zad Z 75), .ref (zad Z 76), .ref (zad Z 77), .ref (zad Z 78), .ref (zad Z 79), .int (f 11), .ref (zad Z 80), .int (f 13), .int (f 14)]),
      ars Z 3, ars Z 123, ars Z 738, ars Z 6, ars Z 6, ars Z 6, ars Z 36, ars Z 17, ars Z 17, ars Z 120, ars Z 200]))))))))))))
def sh (Z : Zt) (i : Nat) (f : Nat → Int32) : va_E := ((shl Z).getD i (fun _ => .inr (0, []))) f
def ww (Z : Zt) (b : Mem) : va_W := (List.range NC).map (fun i => (zad Z i, sh Z i (b i)))
def up1 (b : Mem) (i : Nat) (f : Nat → Int32) : Mem := fun j => if j = i then f else b j
def up2 (b : Mem) (i k : Nat) (x : Int32) : Mem := up1 b i (upd (b i) k x)
theorem up1_s (b : Mem) (i : Nat) (f : Nat → Int32) : up1 b i f i = f := if_pos rfl
theorem up1_n (b : Mem) {i j : Nat} (f : Nat → Int32) (h : j ≠ i) : up1 b i f j = b j := if_neg h
theorem ww_get (Z : Zt) (b : Mem) {i : Nat} (h : i < NC) : (ww Z b)[i]? = some (zad Z i, sh Z i (b i)) := by
  simp [ww, h]
theorem ww_set (Z : Zt) (b : Mem) {i : Nat} (f : Nat → Int32) {e : va_E} (h : i < NC) (he : sh Z i f = e) : (ww Z b).set i (zad Z i, e) = ww Z (up1 b i f) := by
  subst he
  apply List.ext_getElem?
  intro j
  by_cases hj : j = i
  · subst hj
    rw [ww_get Z _ h, up1_s, List.getElem?_set_self (by simp [ww, h])]
  · rw [List.getElem?_set_ne (fun q => hj q.symm)]
    by_cases hn : j < NC
    · rw [ww_get Z _ hn, ww_get Z _ hn, up1_n _ _ hj]
    · rw [List.getElem?_eq_none (by simp [ww]; omega), List.getElem?_eq_none (by simp [ww]; omega)]
def AA (Z : Zt) : Nat → Prop := fun q => ∃ i, i < NC ∧ zad Z i = q
def nestM : List (String × Nat × MethodName) := [("SnakedBus$Text", 67, yX5_cell), ("SnakedBus$Text", 56, yX5_within), ("SnakedBus$Text", 41, yX5_at), ("SnakedBus$Text", 37, yX5_put), ("SnakedBus$Sharing", 90, yX5_cell), ("SnakedBus$Sharing", 78, yX5_hasBit), ("SnakedBus$Sharing", 67, yX5_at), ("SnakedBus$Sharing", 54, yX5_put), ("SnakedBus$Phasing", 56, yX5_at), ("SnakedBus$Phasing", 52, yX5_copy), ("SnakedBus$Phasing", 25, yX5_put), ("SnakedBus$Bus", 70, yX5_at), ("SnakedBus$Bus", 52, yX5_cell), ("SnakedBus$Bus", 48, yX5_put), ("SnakedBus$Bus", 44, yX5_within), ("SnakedBus$Bus", 40, yX5_copy), ("SnakedBus$Bus", 105, yX5_hasBit)]
def nestF : List (Nat × String) := [(74, "LOWEST"), (77, "HIGHEST")]
def lowF : Nat → Int32 := fun j => ([2, 1, 0, 0, 0, 0, 1] : List Int32).getD j 0
def higF : Nat → Int32 := fun j => ([12, 4, 2, 20, 999, 6, 9] : List Int32).getD j 0
/-- what the tables and the static rows are, at a state -/
def KX (Z : Zt) (U : State) : Prop :=
  va_K Z.2.1 vwCl [(zcI Z, .int), (zcB Z, .object "SnakedBus$Bus")] U ∧ (∀ q ∈ nestM, va_Nw (.methodLinkNest q.1 q.2.1 q.2.2 "SnakedBus") U) ∧ (∀ q ∈ nestF, va_Nw (.fieldLinkNest "SnakedBus$Bus" q.1 "SnakedBus" q.2 "[I" "SnakedBus") U) ∧
  (∀ i j, i < NC → j < NC → zad Z i = zad Z j → i = j) ∧
  (va_Z "SnakedBus" "LOWEST" "[I" (.ref (ztL Z)) (AA Z) U U.heap ∧ va_T .int (ztL Z) 7 (fun j => .int (lowF j)) (AA Z) U U.heap) ∧ (va_Z "SnakedBus" "HIGHEST" "[I" (.ref (ztH Z)) (AA Z) U U.heap ∧ va_T .int (ztH Z) 7 (fun j => .int (higF j)) (AA Z) U U.heap)
theorem KX.to {Z : Zt} {s U : State} {H : Heap} {locs : List Loc} (h : KX Z s) (hS : va_S (AA Z) s.heap H locs) (hU : U.heap = H) (hW : s.WarmedH U.vm) : KX Z U := by
  obtain ⟨h1, h2, h3, h4, ⟨h5, h6⟩, h7, h8⟩ := h
  subst hU
  exact ⟨h1.moved hW.alike, fun q hq => (h2 q hq).warmM hW, fun q hq => (h3 q hq).warmF hW, h4, ⟨(h5.moved hW.alike).kept hS.2.1, (h6.moved hW.alike).kept hS.2.1⟩, (h7.moved hW.alike).kept hS.2.1, (h8.moved hW.alike).kept hS.2.1⟩
theorem KX.calling {Z : Zt} {U : State} (h : KX Z U) (g : JFrame) (mk : MethodId) (a : Array Value) : KX Z (U.calling g mk a) := by
  obtain ⟨h1, h2, h3, h4, ⟨h5, h6⟩, h7, h8⟩ := h
  exact ⟨h1.moved (u := U) (U := U.calling g mk a) (Vm.Alike.refl U.vm), fun q hq => (h2 q hq).same rfl rfl, fun q hq => (h3 q hq).same rfl rfl, h4, ⟨h5.moved (u := U) (U := U.calling g mk a) (Vm.Alike.refl U.vm), h6.moved (u := U) (U := U.calling g mk a) (Vm.Alike.refl U.vm)⟩, h7.moved (u := U) (U := U.calling g mk a) (Vm.Alike.refl U.vm), h8.moved (u := U) (U := U.calling g mk a) (Vm.Alike.refl U.vm)⟩
theorem KX.D {Z : Zt} {U : State} (h : KX Z U) (b : Mem) : va_D (AA Z) (ww Z b) := by
  have hg : ∀ (i : Nat) (q : Nat × va_E), (ww Z b)[i]? = some q → i < NC ∧ q.1 = zad Z i := by
    intro i q hq
    have hi : i < NC := by
      have := (List.getElem?_eq_some_iff.mp hq).1
      simpa [ww] using this
    rw [ww_get Z b hi] at hq
    exact ⟨hi, by rw [← Option.some.inj hq]⟩
  refine ⟨fun i j p q hp hq e => ?_, fun k q hq => ?_⟩
  · obtain ⟨a1, a2⟩ := hg i p hp
    obtain ⟨b1, b2⟩ := hg j q hq
    exact h.2.2.2.1 i j a1 b1 (by rw [← a2, ← b2]; exact e)
  · obtain ⟨a1, a2⟩ := hg k q hq
    exact ⟨k, a1, a2.symm⟩
/-- the locals, by place -/
def lvk (ls : Array Slot) (L : List (Option Value)) : Prop := ls.size = L.length ∧ lv_wf ls ∧ ∀ (i : Nat) (v : Value), L[i]? = some (some v) → ls[i]? = some (.val v)
def lval (L : List (Option Value)) : List (Nat × Value) := (List.range L.length).filterMap (fun j => (L.getD j none).map (fun v => (j, v)))
theorem lval_mem {L : List (Option Value)} {j : Nat} {v : Value} : (j, v) ∈ lval L ↔ L[j]? = some (some v) := by
  unfold lval
  rw [List.mem_filterMap]
  constructor
  · rintro ⟨k, hk, h⟩
    rw [List.mem_range] at hk
    rw [Option.map_eq_some_iff] at h
    obtain ⟨w, hw, e⟩ := h
    cases e
    rw [List.getD_eq_getElem?_getD, List.getElem?_eq_getElem hk] at hw
    rw [List.getElem?_eq_getElem hk]
    exact congrArg some hw
  · intro h
    have hk : j < L.length := (List.getElem?_eq_some_iff.mp h).1
    exact ⟨j, List.mem_range.mpr hk, by rw [List.getD_eq_getElem?_getD, h]; rfl⟩
theorem lvk.has {ls : Array Slot} {L : List (Option Value)} (h : lvk ls L) : lv_has ls L.length (lval L) := ⟨h.1, h.2.1, fun q hq => h.2.2 q.1 q.2 (lval_mem.mp hq)⟩
theorem lvk.set {ls' : Array Slot} {L : List (Option Value)} {i : Nat} {x : Value} (h : lv_has ls' L.length ((i, x) :: (lval L).filter (fun q => !(q.1 == i) && !(q.1 + 1 == i && q.2.category == 2)))) (hp : ∀ v, L[i - 1]? = some (some v) → i ≠ 0 → v.category = 1) : lvk ls' (L.set i (some x)) := by
  refine ⟨by rw [h.1, List.length_set], h.2.1, fun j v hj => ?_⟩
  by_cases e : j = i
  · subst e
    have hl : j < (L.set j (some x)).length := (List.getElem?_eq_some_iff.mp hj).1
    rw [List.getElem?_set_self (by simpa using hl)] at hj
    have : x = v := Option.some.inj (Option.some.inj hj)
    subst this
    exact h.2.2 (j, x) List.mem_cons_self
  · rw [List.getElem?_set_ne (fun q => e q.symm)] at hj
    refine h.2.2 (j, v) (List.mem_cons_of_mem _ (List.mem_filter.mpr ⟨lval_mem.mpr hj, ?_⟩))
    have h1 : (j == i) = false := by simpa using e
    by_cases c : j + 1 = i
    · have h2 : v.category = 1 := hp v (by rw [← c]; simpa using hj) (by omega)
      simp [h1, h2]
    · simp [h1, c]
theorem lvk.set2 {ls' : Array Slot} {L : List (Option Value)} {i : Nat} {x : Value} (h : lv_has ls' L.length ((i, x) :: (lval L).filter (fun q => !(q.1 == i) && (!(q.1 == i + 1) && !(q.1 + 1 == i && q.2.category == 2))))) (hp : ∀ v, L[i - 1]? = some (some v) → i ≠ 0 → v.category = 1) : lvk ls' ((L.set i (some x)).set (i + 1) none) := by
  refine ⟨by rw [h.1, List.length_set, List.length_set], h.2.1, fun j v hj => ?_⟩
  by_cases e2 : j = i + 1
  · subst e2
    have hl := (List.getElem?_eq_some_iff.mp hj).1
    rw [List.getElem?_set_self (by simpa using hl)] at hj
    cases hj
  · rw [List.getElem?_set_ne (fun q => e2 q.symm)] at hj
    by_cases e : j = i
    · subst e
      have hl : j < (L.set j (some x)).length := (List.getElem?_eq_some_iff.mp hj).1
      rw [List.getElem?_set_self (by simpa using hl)] at hj
      have : x = v := Option.some.inj (Option.some.inj hj)
      subst this
      exact h.2.2 (j, x) List.mem_cons_self
    · rw [List.getElem?_set_ne (fun q => e q.symm)] at hj
      refine h.2.2 (j, v) (List.mem_cons_of_mem _ (List.mem_filter.mpr ⟨lval_mem.mpr hj, ?_⟩))
      have h1 : (j == i) = false := by simpa using e
      have h3 : (j == i + 1) = false := by simpa using e2
      by_cases c : j + 1 = i
      · have h2 : v.category = 1 := hp v (by rw [← c]; simpa using hj) (by omega)
        simp [h1, h2, h3]
      · simp [h1, c, h3]
/-- a method begins with its arguments -/
def entL (av : List Value) (n : Nat) : List (Option Value) := (List.range n).map (fun i => ((lv_args 0 av).find? (fun q => q.1 == i)).map (fun q => q.2))
theorem lvk.entry (av : List Value) {n : Nat} (h : (lg_sl av).length ≤ n) : lvk ((lg_sl av ++ List.replicate (n - (lg_sl av).length) Slot.unset).toArray) (entL av n) := by
  have h0 := lv_entry av h
  refine ⟨by rw [h0.1]; simp [entL], h0.2.1, fun i v hv => ?_⟩
  unfold entL at hv
  rw [List.getElem?_map] at hv
  cases hr : (List.range n)[i]? with
  | none => rw [hr] at hv; cases hv
  | some k =>
    rw [hr] at hv
    have hk : k = i := by
      obtain ⟨q1, q2⟩ := List.getElem?_eq_some_iff.mp hr
      rw [← q2]; simp
    subst hk
    have hv2 : ((lv_args 0 av).find? (fun q => q.1 == k)).map (fun q => q.2) = some v := Option.some.inj hv
    rw [Option.map_eq_some_iff] at hv2
    obtain ⟨q, hq, rfl⟩ := hv2
    have hm := List.mem_of_find?_eq_some hq
    have he : q.1 = k := by simpa using List.find?_some hq
    have := h0.2.2 q hm
    rw [he] at this
    exact this
/-- the goal: from every heap that holds the memory b, at pc with locals L and stack st, the machine comes to its end -/
def G (Z : Zt) (X : Xt) (b : Mem) (pc : Nat) (L : List (Option Value)) (st : List Value) : Prop :=
  ∀ (H : Heap) (locs : List Loc) (ls : Array Slot), va_P Z.2.1 vwCl (ww Z b) H → va_S (AA Z) X.2.2.2.1.heap H locs → lvk ls L →
    W X.1 Z.1 X.2.1 X.2.2.1 X.2.2.2.1 X.2.2.2.2.1 X.2.2.2.2.2.1 X.2.2.2.2.2.2.1 X.2.2.2.2.2.2.2.1 X.2.2.2.2.2.2.2.2.1 H locs X.2.2.2.2.2.2.2.2.2.1.1 X.2.2.2.2.2.2.2.2.2.1.2 X.2.2.2.2.2.2.2.2.2.2 (F0 X.2.2.2.2.1 pc ls st)
/-- what a walk may use -/
def Ok (Z : Zt) (X : Xt) (cc : ByteArray) (nL : Nat) (own : String) (d : Nat) : Prop :=
  X.1.tables.exec = Jvm.exec ∧ X.2.2.2.2.2.2.2.2.1.code = cc ∧ X.2.2.2.2.2.2.2.2.1.maxLocals = nL ∧ X.2.2.2.1.vm.findClass own = some X.2.2.2.2.1.cls ∧ (∀ w ∈ TB, w.before X.2.2.2.2.2.1 X.2.2.2.1 = true) ∧ KX Z X.2.2.2.1 ∧
  d ≤ X.2.2.1.frames ∧ 38 * d ≤ X.2.2.1.locals ∧ X.2.2.2.2.2.2.2.2.2.1.1 ≤ X.2.2.1.cells ∧ X.2.2.2.2.2.2.2.2.2.1.2 ≤ X.2.2.1.slots
theorem g_cast {Z : Zt} {X : Xt} {b b' : Mem} {pc : Nat} {L L' : List (Option Value)} {st st' : List Value} (k : G Z X b' pc L' st') (hb : b = b') (hL : L = L') (hs : st = st') : G Z X b pc L st := by
  subst hb; subst hL; subst hs; exact k
end
section
section RULES
variable {Z : Zt} {X : Xt} {cc : ByteArray} {nL d : Nat} {own : String} {b : Mem} {pc : Nat} {L : List (Option Value)} {st : List Value}
theorem g_iconst (hX : Ok Z X cc nL own d) {n : Int} (v : Int32) (dg : decode cc pc = .ok (.iconst n, 1)) (hv : Int32.ofInt n = v) (k : G Z X b (pc + 1) L (.int v :: st)) : G Z X b pc L st := by
  obtain ⟨hx, hb, hml, hown, hts, hK, hrf, hrl, hcl, hsl⟩ := hX
  intro H locs ls hP hS hl
  exact lv_iconst hx hb dg hv (k H locs ls hP hS hl)
theorem g_bipush (hX : Ok Z X cc nL own d) {n : Int} (v : Int32) (dg : decode cc pc = .ok (.bipush n, 2)) (hv : (Int8.ofInt n).toInt32 = v) (k : G Z X b (pc + 2) L (.int v :: st)) : G Z X b pc L st := by
  obtain ⟨hx, hb, hml, hown, hts, hK, hrf, hrl, hcl, hsl⟩ := hX
  intro H locs ls hP hS hl
  exact lv_bipush hx hb dg hv (k H locs ls hP hS hl)
theorem g_sipush (hX : Ok Z X cc nL own d) {n : Int} (v : Int32) (dg : decode cc pc = .ok (.sipush n, 3)) (hv : (Int16.ofInt n).toInt32 = v) (k : G Z X b (pc + 3) L (.int v :: st)) : G Z X b pc L st := by
  obtain ⟨hx, hb, hml, hown, hts, hK, hrf, hrl, hcl, hsl⟩ := hX
  intro H locs ls hP hS hl
  exact lv_sipush hx hb dg hv (k H locs ls hP hS hl)
theorem g_ldc (hX : Ok Z X cc nL own d) {index : Nat} (v : Int32) (hw : Cond.constant own index v ∈ TB) (dg : decode cc pc = .ok (.ldc index, 2)) (k : G Z X b (pc + 2) L (.int v :: st)) : G Z X b pc L st := by
  obtain ⟨hx, hb, hml, hown, hts, hK, hrf, hrl, hcl, hsl⟩ := hX
  intro H locs ls hP hS hl
  exact lv_ldc hx hb hown (hts _ hw) dg (k H locs ls hP hS hl)
theorem g_ldcw (hX : Ok Z X cc nL own d) {index : Nat} (v : Int32) (hw : Cond.constant own index v ∈ TB) (dg : decode cc pc = .ok (.ldc_w index, 3)) (k : G Z X b (pc + 3) L (.int v :: st)) : G Z X b pc L st := by
  obtain ⟨hx, hb, hml, hown, hts, hK, hrf, hrl, hcl, hsl⟩ := hX
  intro H locs ls hP hS hl
  exact lv_ldcw hx hb hown (hts _ hw) dg (k H locs ls hP hS hl)
theorem g_ldc2 (hX : Ok Z X cc nL own d) {index : Nat} (v : Int64) (hw : Cond.constantLong own index v ∈ TB) (dg : decode cc pc = .ok (.ldc2_w index, 3)) (k : G Z X b (pc + 3) L (.long v :: st)) : G Z X b pc L st := by
  obtain ⟨hx, hb, hml, hown, hts, hK, hrf, hrl, hcl, hsl⟩ := hX
  intro H locs ls hP hS hl
  exact lv_ldc2 hx hb hown (hts _ hw) dg (k H locs ls hP hS hl)
def nl1 : Option Value → Bool
  | some v => v.category == 1
  | none => true
theorem g_iload_0 (hX : Ok Z X cc nL own d) {x : Int32} (dg : decode cc pc = .ok (.iload_n 0, 1)) (k : G Z X b (pc + 1) (some (.int x) :: L) (.int x :: st)) : G Z X b pc (some (.int x) :: L) st := by
  obtain ⟨hx, hb, hml, hown, hts, hK, hrf, hrl, hcl, hsl⟩ := hX
  intro H locs ls hP hS hl
  exact lv_iload_n hx hb dg rfl (hl.2.2 0 _ rfl) (k H locs ls hP hS hl)
theorem g_istore_0 (hX : Ok Z X cc nL own d) {a0 : Option Value} {x : Int32} (dg : decode cc pc = .ok (.istore_n 0, 1)) (k : G Z X b (pc + 1) (some (.int x) :: L) st) : G Z X b pc (a0 :: L) (.int x :: st) := by
  obtain ⟨hx, hb, hml, hown, hts, hK, hrf, hrl, hcl, hsl⟩ := hX
  intro H locs ls hP hS hl
  exact lv_istore_n hx hb dg rfl hl.has (show 0 < _ by simp only [List.length_cons]; omega) rfl (fun ls' h => k H locs ls' hP hS (lvk.set h (fun v hv h0 => absurd rfl h0)))
theorem g_aload_0 (hX : Ok Z X cc nL own d) {x : Nat} (dg : decode cc pc = .ok (.aload_n 0, 1)) (k : G Z X b (pc + 1) (some (.ref x) :: L) (.ref x :: st)) : G Z X b pc (some (.ref x) :: L) st := by
  obtain ⟨hx, hb, hml, hown, hts, hK, hrf, hrl, hcl, hsl⟩ := hX
  intro H locs ls hP hS hl
  exact lv_aload_n hx hb dg rfl (hl.2.2 0 _ rfl) (k H locs ls hP hS hl)
theorem g_astore_0 (hX : Ok Z X cc nL own d) {a0 : Option Value} {x : Nat} (dg : decode cc pc = .ok (.astore_n 0, 1)) (k : G Z X b (pc + 1) (some (.ref x) :: L) st) : G Z X b pc (a0 :: L) (.ref x :: st) := by
  obtain ⟨hx, hb, hml, hown, hts, hK, hrf, hrl, hcl, hsl⟩ := hX
  intro H locs ls hP hS hl
  exact lv_astore_n hx hb dg rfl hl.has (show 0 < _ by simp only [List.length_cons]; omega) rfl (fun ls' h => k H locs ls' hP hS (lvk.set h (fun v hv h0 => absurd rfl h0)))
theorem g_lload_0 (hX : Ok Z X cc nL own d) {x : Int64} (dg : decode cc pc = .ok (.lload_n 0, 1)) (k : G Z X b (pc + 1) (some (.long x) :: L) (.long x :: st)) : G Z X b pc (some (.long x) :: L) st := by
  obtain ⟨hx, hb, hml, hown, hts, hK, hrf, hrl, hcl, hsl⟩ := hX
  intro H locs ls hP hS hl
  exact lv_lload_n hx hb dg rfl (hl.2.2 0 _ rfl) (k H locs ls hP hS hl)
theorem g_lstore_0 (hX : Ok Z X cc nL own d) {a0 a1 : Option Value} {x : Int64} (dg : decode cc pc = .ok (.lstore_n 0, 1)) (k : G Z X b (pc + 1) (some (.long x) :: none :: L) st) : G Z X b pc (a0 :: a1 :: L) (.long x :: st) := by
  obtain ⟨hx, hb, hml, hown, hts, hK, hrf, hrl, hcl, hsl⟩ := hX
  intro H locs ls hP hS hl
  exact lv_lstore_n hx hb dg rfl hl.has (show 0 + 1 < _ by simp only [List.length_cons]; omega) rfl (fun ls' h => k H locs ls' hP hS (lvk.set2 h (fun v hv h0 => absurd rfl h0)))
theorem g_iinc_0 (hX : Ok Z X cc nL own d) {x : Int32} {n : Int} (c : Int32) (dg : decode cc pc = .ok (.iinc 0 n, 3)) (hc : Int32.ofInt n = c) (k : G Z X b (pc + 3) (some (.int (x + c)) :: L) st) : G Z X b pc (some (.int x) :: L) st := by
  obtain ⟨hx, hb, hml, hown, hts, hK, hrf, hrl, hcl, hsl⟩ := hX
  intro H locs ls hP hS hl
  have hm : (0, Value.int x) ∈ lval (some (.int x) :: L) := lval_mem.mpr rfl
  obtain ⟨kk, hkk⟩ := List.getElem?_of_mem hm
  exact lv_iinc (v := x + c) hx hb dg hl.has hkk (by rw [hc]) (by simp) rfl (fun ls' h => k H locs ls' hP hS (lvk.set h (fun v hv h0 => absurd rfl h0)))
theorem g_iload_1 (hX : Ok Z X cc nL own d) {a0 : Option Value} {x : Int32} (dg : decode cc pc = .ok (.iload_n 1, 1)) (k : G Z X b (pc + 1) (a0 :: some (.int x) :: L) (.int x :: st)) : G Z X b pc (a0 :: some (.int x) :: L) st := by
  obtain ⟨hx, hb, hml, hown, hts, hK, hrf, hrl, hcl, hsl⟩ := hX
  intro H locs ls hP hS hl
  exact lv_iload_n hx hb dg rfl (hl.2.2 1 _ rfl) (k H locs ls hP hS hl)
theorem g_istore_1 (hX : Ok Z X cc nL own d) {a0 a1 : Option Value} {x : Int32} (dg : decode cc pc = .ok (.istore_n 1, 1)) (hp : nl1 a0 = true) (k : G Z X b (pc + 1) (a0 :: some (.int x) :: L) st) : G Z X b pc (a0 :: a1 :: L) (.int x :: st) := by
  obtain ⟨hx, hb, hml, hown, hts, hK, hrf, hrl, hcl, hsl⟩ := hX
  intro H locs ls hP hS hl
  exact lv_istore_n hx hb dg rfl hl.has (show 1 < _ by simp only [List.length_cons]; omega) rfl (fun ls' h => k H locs ls' hP hS (lvk.set h (fun v hv _ => by
    have e : a0 = some v := Option.some.inj hv
    rw [e] at hp; simpa [nl1] using hp)))
theorem g_aload_1 (hX : Ok Z X cc nL own d) {a0 : Option Value} {x : Nat} (dg : decode cc pc = .ok (.aload_n 1, 1)) (k : G Z X b (pc + 1) (a0 :: some (.ref x) :: L) (.ref x :: st)) : G Z X b pc (a0 :: some (.ref x) :: L) st := by
  obtain ⟨hx, hb, hml, hown, hts, hK, hrf, hrl, hcl, hsl⟩ := hX
  intro H locs ls hP hS hl
  exact lv_aload_n hx hb dg rfl (hl.2.2 1 _ rfl) (k H locs ls hP hS hl)
theorem g_astore_1 (hX : Ok Z X cc nL own d) {a0 a1 : Option Value} {x : Nat} (dg : decode cc pc = .ok (.astore_n 1, 1)) (hp : nl1 a0 = true) (k : G Z X b (pc + 1) (a0 :: some (.ref x) :: L) st) : G Z X b pc (a0 :: a1 :: L) (.ref x :: st) := by
  obtain ⟨hx, hb, hml, hown, hts, hK, hrf, hrl, hcl, hsl⟩ := hX
  intro H locs ls hP hS hl
  exact lv_astore_n hx hb dg rfl hl.has (show 1 < _ by simp only [List.length_cons]; omega) rfl (fun ls' h => k H locs ls' hP hS (lvk.set h (fun v hv _ => by
    have e : a0 = some v := Option.some.inj hv
    rw [e] at hp; simpa [nl1] using hp)))
theorem g_lload_1 (hX : Ok Z X cc nL own d) {a0 : Option Value} {x : Int64} (dg : decode cc pc = .ok (.lload_n 1, 1)) (k : G Z X b (pc + 1) (a0 :: some (.long x) :: L) (.long x :: st)) : G Z X b pc (a0 :: some (.long x) :: L) st := by
  obtain ⟨hx, hb, hml, hown, hts, hK, hrf, hrl, hcl, hsl⟩ := hX
  intro H locs ls hP hS hl
  exact lv_lload_n hx hb dg rfl (hl.2.2 1 _ rfl) (k H locs ls hP hS hl)
theorem g_lstore_1 (hX : Ok Z X cc nL own d) {a0 a1 a2 : Option Value} {x : Int64} (dg : decode cc pc = .ok (.lstore_n 1, 1)) (hp : nl1 a0 = true) (k : G Z X b (pc + 1) (a0 :: some (.long x) :: none :: L) st) : G Z X b pc (a0 :: a1 :: a2 :: L) (.long x :: st) := by
  obtain ⟨hx, hb, hml, hown, hts, hK, hrf, hrl, hcl, hsl⟩ := hX
  intro H locs ls hP hS hl
  exact lv_lstore_n hx hb dg rfl hl.has (show 1 + 1 < _ by simp only [List.length_cons]; omega) rfl (fun ls' h => k H locs ls' hP hS (lvk.set2 h (fun v hv _ => by
    have e : a0 = some v := Option.some.inj hv
    rw [e] at hp; simpa [nl1] using hp)))
theorem g_iinc_1 (hX : Ok Z X cc nL own d) {a0 : Option Value} {x : Int32} {n : Int} (c : Int32) (dg : decode cc pc = .ok (.iinc 1 n, 3)) (hc : Int32.ofInt n = c) (hp : nl1 a0 = true) (k : G Z X b (pc + 3) (a0 :: some (.int (x + c)) :: L) st) : G Z X b pc (a0 :: some (.int x) :: L) st := by
  obtain ⟨hx, hb, hml, hown, hts, hK, hrf, hrl, hcl, hsl⟩ := hX
  intro H locs ls hP hS hl
  have hm : (1, Value.int x) ∈ lval (a0 :: some (.int x) :: L) := lval_mem.mpr rfl
  obtain ⟨kk, hkk⟩ := List.getElem?_of_mem hm
  exact lv_iinc (v := x + c) hx hb dg hl.has hkk (by rw [hc]) (by simp) rfl (fun ls' h => k H locs ls' hP hS (lvk.set h (fun v hv _ => by
    have e : a0 = some v := Option.some.inj hv
    rw [e] at hp; simpa [nl1] using hp)))
theorem g_iload_2 (hX : Ok Z X cc nL own d) {a0 a1 : Option Value} {x : Int32} (dg : decode cc pc = .ok (.iload_n 2, 1)) (k : G Z X b (pc + 1) (a0 :: a1 :: some (.int x) :: L) (.int x :: st)) : G Z X b pc (a0 :: a1 :: some (.int x) :: L) st := by
  obtain ⟨hx, hb, hml, hown, hts, hK, hrf, hrl, hcl, hsl⟩ := hX
  intro H locs ls hP hS hl
  exact lv_iload_n hx hb dg rfl (hl.2.2 2 _ rfl) (k H locs ls hP hS hl)
theorem g_istore_2 (hX : Ok Z X cc nL own d) {a0 a1 a2 : Option Value} {x : Int32} (dg : decode cc pc = .ok (.istore_n 2, 1)) (hp : nl1 a1 = true) (k : G Z X b (pc + 1) (a0 :: a1 :: some (.int x) :: L) st) : G Z X b pc (a0 :: a1 :: a2 :: L) (.int x :: st) := by
  obtain ⟨hx, hb, hml, hown, hts, hK, hrf, hrl, hcl, hsl⟩ := hX
  intro H locs ls hP hS hl
  exact lv_istore_n hx hb dg rfl hl.has (show 2 < _ by simp only [List.length_cons]; omega) rfl (fun ls' h => k H locs ls' hP hS (lvk.set h (fun v hv _ => by
    have e : a1 = some v := Option.some.inj hv
    rw [e] at hp; simpa [nl1] using hp)))
theorem g_aload_2 (hX : Ok Z X cc nL own d) {a0 a1 : Option Value} {x : Nat} (dg : decode cc pc = .ok (.aload_n 2, 1)) (k : G Z X b (pc + 1) (a0 :: a1 :: some (.ref x) :: L) (.ref x :: st)) : G Z X b pc (a0 :: a1 :: some (.ref x) :: L) st := by
  obtain ⟨hx, hb, hml, hown, hts, hK, hrf, hrl, hcl, hsl⟩ := hX
  intro H locs ls hP hS hl
  exact lv_aload_n hx hb dg rfl (hl.2.2 2 _ rfl) (k H locs ls hP hS hl)
theorem g_astore_2 (hX : Ok Z X cc nL own d) {a0 a1 a2 : Option Value} {x : Nat} (dg : decode cc pc = .ok (.astore_n 2, 1)) (hp : nl1 a1 = true) (k : G Z X b (pc + 1) (a0 :: a1 :: some (.ref x) :: L) st) : G Z X b pc (a0 :: a1 :: a2 :: L) (.ref x :: st) := by
  obtain ⟨hx, hb, hml, hown, hts, hK, hrf, hrl, hcl, hsl⟩ := hX
  intro H locs ls hP hS hl
  exact lv_astore_n hx hb dg rfl hl.has (show 2 < _ by simp only [List.length_cons]; omega) rfl (fun ls' h => k H locs ls' hP hS (lvk.set h (fun v hv _ => by
    have e : a1 = some v := Option.some.inj hv
    rw [e] at hp; simpa [nl1] using hp)))
theorem g_lload_2 (hX : Ok Z X cc nL own d) {a0 a1 : Option Value} {x : Int64} (dg : decode cc pc = .ok (.lload_n 2, 1)) (k : G Z X b (pc + 1) (a0 :: a1 :: some (.long x) :: L) (.long x :: st)) : G Z X b pc (a0 :: a1 :: some (.long x) :: L) st := by
  obtain ⟨hx, hb, hml, hown, hts, hK, hrf, hrl, hcl, hsl⟩ := hX
  intro H locs ls hP hS hl
  exact lv_lload_n hx hb dg rfl (hl.2.2 2 _ rfl) (k H locs ls hP hS hl)
theorem g_lstore_2 (hX : Ok Z X cc nL own d) {a0 a1 a2 a3 : Option Value} {x : Int64} (dg : decode cc pc = .ok (.lstore_n 2, 1)) (hp : nl1 a1 = true) (k : G Z X b (pc + 1) (a0 :: a1 :: some (.long x) :: none :: L) st) : G Z X b pc (a0 :: a1 :: a2 :: a3 :: L) (.long x :: st) := by
  obtain ⟨hx, hb, hml, hown, hts, hK, hrf, hrl, hcl, hsl⟩ := hX
  intro H locs ls hP hS hl
  exact lv_lstore_n hx hb dg rfl hl.has (show 2 + 1 < _ by simp only [List.length_cons]; omega) rfl (fun ls' h => k H locs ls' hP hS (lvk.set2 h (fun v hv _ => by
    have e : a1 = some v := Option.some.inj hv
    rw [e] at hp; simpa [nl1] using hp)))
theorem g_iinc_2 (hX : Ok Z X cc nL own d) {a0 a1 : Option Value} {x : Int32} {n : Int} (c : Int32) (dg : decode cc pc = .ok (.iinc 2 n, 3)) (hc : Int32.ofInt n = c) (hp : nl1 a1 = true) (k : G Z X b (pc + 3) (a0 :: a1 :: some (.int (x + c)) :: L) st) : G Z X b pc (a0 :: a1 :: some (.int x) :: L) st := by
  obtain ⟨hx, hb, hml, hown, hts, hK, hrf, hrl, hcl, hsl⟩ := hX
  intro H locs ls hP hS hl
  have hm : (2, Value.int x) ∈ lval (a0 :: a1 :: some (.int x) :: L) := lval_mem.mpr rfl
  obtain ⟨kk, hkk⟩ := List.getElem?_of_mem hm
  exact lv_iinc (v := x + c) hx hb dg hl.has hkk (by rw [hc]) (by simp) rfl (fun ls' h => k H locs ls' hP hS (lvk.set h (fun v hv _ => by
    have e : a1 = some v := Option.some.inj hv
    rw [e] at hp; simpa [nl1] using hp)))
theorem g_iload_3 (hX : Ok Z X cc nL own d) {a0 a1 a2 : Option Value} {x : Int32} (dg : decode cc pc = .ok (.iload_n 3, 1)) (k : G Z X b (pc + 1) (a0 :: a1 :: a2 :: some (.int x) :: L) (.int x :: st)) : G Z X b pc (a0 :: a1 :: a2 :: some (.int x) :: L) st := by
  obtain ⟨hx, hb, hml, hown, hts, hK, hrf, hrl, hcl, hsl⟩ := hX
  intro H locs ls hP hS hl
  exact lv_iload_n hx hb dg rfl (hl.2.2 3 _ rfl) (k H locs ls hP hS hl)
theorem g_istore_3 (hX : Ok Z X cc nL own d) {a0 a1 a2 a3 : Option Value} {x : Int32} (dg : decode cc pc = .ok (.istore_n 3, 1)) (hp : nl1 a2 = true) (k : G Z X b (pc + 1) (a0 :: a1 :: a2 :: some (.int x) :: L) st) : G Z X b pc (a0 :: a1 :: a2 :: a3 :: L) (.int x :: st) := by
  obtain ⟨hx, hb, hml, hown, hts, hK, hrf, hrl, hcl, hsl⟩ := hX
  intro H locs ls hP hS hl
  exact lv_istore_n hx hb dg rfl hl.has (show 3 < _ by simp only [List.length_cons]; omega) rfl (fun ls' h => k H locs ls' hP hS (lvk.set h (fun v hv _ => by
    have e : a2 = some v := Option.some.inj hv
    rw [e] at hp; simpa [nl1] using hp)))
theorem g_aload_3 (hX : Ok Z X cc nL own d) {a0 a1 a2 : Option Value} {x : Nat} (dg : decode cc pc = .ok (.aload_n 3, 1)) (k : G Z X b (pc + 1) (a0 :: a1 :: a2 :: some (.ref x) :: L) (.ref x :: st)) : G Z X b pc (a0 :: a1 :: a2 :: some (.ref x) :: L) st := by
  obtain ⟨hx, hb, hml, hown, hts, hK, hrf, hrl, hcl, hsl⟩ := hX
  intro H locs ls hP hS hl
  exact lv_aload_n hx hb dg rfl (hl.2.2 3 _ rfl) (k H locs ls hP hS hl)
theorem g_astore_3 (hX : Ok Z X cc nL own d) {a0 a1 a2 a3 : Option Value} {x : Nat} (dg : decode cc pc = .ok (.astore_n 3, 1)) (hp : nl1 a2 = true) (k : G Z X b (pc + 1) (a0 :: a1 :: a2 :: some (.ref x) :: L) st) : G Z X b pc (a0 :: a1 :: a2 :: a3 :: L) (.ref x :: st) := by
  obtain ⟨hx, hb, hml, hown, hts, hK, hrf, hrl, hcl, hsl⟩ := hX
  intro H locs ls hP hS hl
  exact lv_astore_n hx hb dg rfl hl.has (show 3 < _ by simp only [List.length_cons]; omega) rfl (fun ls' h => k H locs ls' hP hS (lvk.set h (fun v hv _ => by
    have e : a2 = some v := Option.some.inj hv
    rw [e] at hp; simpa [nl1] using hp)))
theorem g_lload_3 (hX : Ok Z X cc nL own d) {a0 a1 a2 : Option Value} {x : Int64} (dg : decode cc pc = .ok (.lload_n 3, 1)) (k : G Z X b (pc + 1) (a0 :: a1 :: a2 :: some (.long x) :: L) (.long x :: st)) : G Z X b pc (a0 :: a1 :: a2 :: some (.long x) :: L) st := by
  obtain ⟨hx, hb, hml, hown, hts, hK, hrf, hrl, hcl, hsl⟩ := hX
  intro H locs ls hP hS hl
  exact lv_lload_n hx hb dg rfl (hl.2.2 3 _ rfl) (k H locs ls hP hS hl)
theorem g_lstore_3 (hX : Ok Z X cc nL own d) {a0 a1 a2 a3 a4 : Option Value} {x : Int64} (dg : decode cc pc = .ok (.lstore_n 3, 1)) (hp : nl1 a2 = true) (k : G Z X b (pc + 1) (a0 :: a1 :: a2 :: some (.long x) :: none :: L) st) : G Z X b pc (a0 :: a1 :: a2 :: a3 :: a4 :: L) (.long x :: st) := by
  obtain ⟨hx, hb, hml, hown, hts, hK, hrf, hrl, hcl, hsl⟩ := hX
  intro H locs ls hP hS hl
  exact lv_lstore_n hx hb dg rfl hl.has (show 3 + 1 < _ by simp only [List.length_cons]; omega) rfl (fun ls' h => k H locs ls' hP hS (lvk.set2 h (fun v hv _ => by
    have e : a2 = some v := Option.some.inj hv
    rw [e] at hp; simpa [nl1] using hp)))
theorem g_iinc_3 (hX : Ok Z X cc nL own d) {a0 a1 a2 : Option Value} {x : Int32} {n : Int} (c : Int32) (dg : decode cc pc = .ok (.iinc 3 n, 3)) (hc : Int32.ofInt n = c) (hp : nl1 a2 = true) (k : G Z X b (pc + 3) (a0 :: a1 :: a2 :: some (.int (x + c)) :: L) st) : G Z X b pc (a0 :: a1 :: a2 :: some (.int x) :: L) st := by
  obtain ⟨hx, hb, hml, hown, hts, hK, hrf, hrl, hcl, hsl⟩ := hX
  intro H locs ls hP hS hl
  have hm : (3, Value.int x) ∈ lval (a0 :: a1 :: a2 :: some (.int x) :: L) := lval_mem.mpr rfl
  obtain ⟨kk, hkk⟩ := List.getElem?_of_mem hm
  exact lv_iinc (v := x + c) hx hb dg hl.has hkk (by rw [hc]) (by simp) rfl (fun ls' h => k H locs ls' hP hS (lvk.set h (fun v hv _ => by
    have e : a2 = some v := Option.some.inj hv
    rw [e] at hp; simpa [nl1] using hp)))
theorem g_iload_4 (hX : Ok Z X cc nL own d) {a0 a1 a2 a3 : Option Value} {x : Int32} (dg : decode cc pc = .ok (.iload 4, 2)) (k : G Z X b (pc + 2) (a0 :: a1 :: a2 :: a3 :: some (.int x) :: L) (.int x :: st)) : G Z X b pc (a0 :: a1 :: a2 :: a3 :: some (.int x) :: L) st := by
  obtain ⟨hx, hb, hml, hown, hts, hK, hrf, hrl, hcl, hsl⟩ := hX
  intro H locs ls hP hS hl
  exact lv_iload hx hb dg (hl.2.2 4 _ rfl) (k H locs ls hP hS hl)
theorem g_istore_4 (hX : Ok Z X cc nL own d) {a0 a1 a2 a3 a4 : Option Value} {x : Int32} (dg : decode cc pc = .ok (.istore 4, 2)) (hp : nl1 a3 = true) (k : G Z X b (pc + 2) (a0 :: a1 :: a2 :: a3 :: some (.int x) :: L) st) : G Z X b pc (a0 :: a1 :: a2 :: a3 :: a4 :: L) (.int x :: st) := by
  obtain ⟨hx, hb, hml, hown, hts, hK, hrf, hrl, hcl, hsl⟩ := hX
  intro H locs ls hP hS hl
  exact lv_istore hx hb dg hl.has (show 4 < _ by simp only [List.length_cons]; omega) rfl (fun ls' h => k H locs ls' hP hS (lvk.set h (fun v hv _ => by
    have e : a3 = some v := Option.some.inj hv
    rw [e] at hp; simpa [nl1] using hp)))
theorem g_lload_4 (hX : Ok Z X cc nL own d) {a0 a1 a2 a3 : Option Value} {x : Int64} (dg : decode cc pc = .ok (.lload 4, 2)) (k : G Z X b (pc + 2) (a0 :: a1 :: a2 :: a3 :: some (.long x) :: L) (.long x :: st)) : G Z X b pc (a0 :: a1 :: a2 :: a3 :: some (.long x) :: L) st := by
  obtain ⟨hx, hb, hml, hown, hts, hK, hrf, hrl, hcl, hsl⟩ := hX
  intro H locs ls hP hS hl
  exact lv_lload hx hb dg (hl.2.2 4 _ rfl) (k H locs ls hP hS hl)
theorem g_lstore_4 (hX : Ok Z X cc nL own d) {a0 a1 a2 a3 a4 a5 : Option Value} {x : Int64} (dg : decode cc pc = .ok (.lstore 4, 2)) (hp : nl1 a3 = true) (k : G Z X b (pc + 2) (a0 :: a1 :: a2 :: a3 :: some (.long x) :: none :: L) st) : G Z X b pc (a0 :: a1 :: a2 :: a3 :: a4 :: a5 :: L) (.long x :: st) := by
  obtain ⟨hx, hb, hml, hown, hts, hK, hrf, hrl, hcl, hsl⟩ := hX
  intro H locs ls hP hS hl
  exact lv_lstore hx hb dg hl.has (show 4 + 1 < _ by simp only [List.length_cons]; omega) rfl (fun ls' h => k H locs ls' hP hS (lvk.set2 h (fun v hv _ => by
    have e : a3 = some v := Option.some.inj hv
    rw [e] at hp; simpa [nl1] using hp)))
theorem g_iinc_4 (hX : Ok Z X cc nL own d) {a0 a1 a2 a3 : Option Value} {x : Int32} {n : Int} (c : Int32) (dg : decode cc pc = .ok (.iinc 4 n, 3)) (hc : Int32.ofInt n = c) (hp : nl1 a3 = true) (k : G Z X b (pc + 3) (a0 :: a1 :: a2 :: a3 :: some (.int (x + c)) :: L) st) : G Z X b pc (a0 :: a1 :: a2 :: a3 :: some (.int x) :: L) st := by
  obtain ⟨hx, hb, hml, hown, hts, hK, hrf, hrl, hcl, hsl⟩ := hX
  intro H locs ls hP hS hl
  have hm : (4, Value.int x) ∈ lval (a0 :: a1 :: a2 :: a3 :: some (.int x) :: L) := lval_mem.mpr rfl
  obtain ⟨kk, hkk⟩ := List.getElem?_of_mem hm
  exact lv_iinc (v := x + c) hx hb dg hl.has hkk (by rw [hc]) (by simp) rfl (fun ls' h => k H locs ls' hP hS (lvk.set h (fun v hv _ => by
    have e : a3 = some v := Option.some.inj hv
    rw [e] at hp; simpa [nl1] using hp)))
theorem g_iload_5 (hX : Ok Z X cc nL own d) {a0 a1 a2 a3 a4 : Option Value} {x : Int32} (dg : decode cc pc = .ok (.iload 5, 2)) (k : G Z X b (pc + 2) (a0 :: a1 :: a2 :: a3 :: a4 :: some (.int x) :: L) (.int x :: st)) : G Z X b pc (a0 :: a1 :: a2 :: a3 :: a4 :: some (.int x) :: L) st := by
  obtain ⟨hx, hb, hml, hown, hts, hK, hrf, hrl, hcl, hsl⟩ := hX
  intro H locs ls hP hS hl
  exact lv_iload hx hb dg (hl.2.2 5 _ rfl) (k H locs ls hP hS hl)
theorem g_istore_5 (hX : Ok Z X cc nL own d) {a0 a1 a2 a3 a4 a5 : Option Value} {x : Int32} (dg : decode cc pc = .ok (.istore 5, 2)) (hp : nl1 a4 = true) (k : G Z X b (pc + 2) (a0 :: a1 :: a2 :: a3 :: a4 :: some (.int x) :: L) st) : G Z X b pc (a0 :: a1 :: a2 :: a3 :: a4 :: a5 :: L) (.int x :: st) := by
  obtain ⟨hx, hb, hml, hown, hts, hK, hrf, hrl, hcl, hsl⟩ := hX
  intro H locs ls hP hS hl
  exact lv_istore hx hb dg hl.has (show 5 < _ by simp only [List.length_cons]; omega) rfl (fun ls' h => k H locs ls' hP hS (lvk.set h (fun v hv _ => by
    have e : a4 = some v := Option.some.inj hv
    rw [e] at hp; simpa [nl1] using hp)))
theorem g_lload_5 (hX : Ok Z X cc nL own d) {a0 a1 a2 a3 a4 : Option Value} {x : Int64} (dg : decode cc pc = .ok (.lload 5, 2)) (k : G Z X b (pc + 2) (a0 :: a1 :: a2 :: a3 :: a4 :: some (.long x) :: L) (.long x :: st)) : G Z X b pc (a0 :: a1 :: a2 :: a3 :: a4 :: some (.long x) :: L) st := by
  obtain ⟨hx, hb, hml, hown, hts, hK, hrf, hrl, hcl, hsl⟩ := hX
  intro H locs ls hP hS hl
  exact lv_lload hx hb dg (hl.2.2 5 _ rfl) (k H locs ls hP hS hl)
theorem g_lstore_5 (hX : Ok Z X cc nL own d) {a0 a1 a2 a3 a4 a5 a6 : Option Value} {x : Int64} (dg : decode cc pc = .ok (.lstore 5, 2)) (hp : nl1 a4 = true) (k : G Z X b (pc + 2) (a0 :: a1 :: a2 :: a3 :: a4 :: some (.long x) :: none :: L) st) : G Z X b pc (a0 :: a1 :: a2 :: a3 :: a4 :: a5 :: a6 :: L) (.long x :: st) := by
  obtain ⟨hx, hb, hml, hown, hts, hK, hrf, hrl, hcl, hsl⟩ := hX
  intro H locs ls hP hS hl
  exact lv_lstore hx hb dg hl.has (show 5 + 1 < _ by simp only [List.length_cons]; omega) rfl (fun ls' h => k H locs ls' hP hS (lvk.set2 h (fun v hv _ => by
    have e : a4 = some v := Option.some.inj hv
    rw [e] at hp; simpa [nl1] using hp)))
theorem g_iinc_5 (hX : Ok Z X cc nL own d) {a0 a1 a2 a3 a4 : Option Value} {x : Int32} {n : Int} (c : Int32) (dg : decode cc pc = .ok (.iinc 5 n, 3)) (hc : Int32.ofInt n = c) (hp : nl1 a4 = true) (k : G Z X b (pc + 3) (a0 :: a1 :: a2 :: a3 :: a4 :: some (.int (x + c)) :: L) st) : G Z X b pc (a0 :: a1 :: a2 :: a3 :: a4 :: some (.int x) :: L) st := by
  obtain ⟨hx, hb, hml, hown, hts, hK, hrf, hrl, hcl, hsl⟩ := hX
  intro H locs ls hP hS hl
  have hm : (5, Value.int x) ∈ lval (a0 :: a1 :: a2 :: a3 :: a4 :: some (.int x) :: L) := lval_mem.mpr rfl
  obtain ⟨kk, hkk⟩ := List.getElem?_of_mem hm
  exact lv_iinc (v := x + c) hx hb dg hl.has hkk (by rw [hc]) (by simp) rfl (fun ls' h => k H locs ls' hP hS (lvk.set h (fun v hv _ => by
    have e : a4 = some v := Option.some.inj hv
    rw [e] at hp; simpa [nl1] using hp)))
theorem g_iload_6 (hX : Ok Z X cc nL own d) {a0 a1 a2 a3 a4 a5 : Option Value} {x : Int32} (dg : decode cc pc = .ok (.iload 6, 2)) (k : G Z X b (pc + 2) (a0 :: a1 :: a2 :: a3 :: a4 :: a5 :: some (.int x) :: L) (.int x :: st)) : G Z X b pc (a0 :: a1 :: a2 :: a3 :: a4 :: a5 :: some (.int x) :: L) st := by
  obtain ⟨hx, hb, hml, hown, hts, hK, hrf, hrl, hcl, hsl⟩ := hX
  intro H locs ls hP hS hl
  exact lv_iload hx hb dg (hl.2.2 6 _ rfl) (k H locs ls hP hS hl)
theorem g_istore_6 (hX : Ok Z X cc nL own d) {a0 a1 a2 a3 a4 a5 a6 : Option Value} {x : Int32} (dg : decode cc pc = .ok (.istore 6, 2)) (hp : nl1 a5 = true) (k : G Z X b (pc + 2) (a0 :: a1 :: a2 :: a3 :: a4 :: a5 :: some (.int x) :: L) st) : G Z X b pc (a0 :: a1 :: a2 :: a3 :: a4 :: a5 :: a6 :: L) (.int x :: st) := by
  obtain ⟨hx, hb, hml, hown, hts, hK, hrf, hrl, hcl, hsl⟩ := hX
  intro H locs ls hP hS hl
  exact lv_istore hx hb dg hl.has (show 6 < _ by simp only [List.length_cons]; omega) rfl (fun ls' h => k H locs ls' hP hS (lvk.set h (fun v hv _ => by
    have e : a5 = some v := Option.some.inj hv
    rw [e] at hp; simpa [nl1] using hp)))
theorem g_lload_6 (hX : Ok Z X cc nL own d) {a0 a1 a2 a3 a4 a5 : Option Value} {x : Int64} (dg : decode cc pc = .ok (.lload 6, 2)) (k : G Z X b (pc + 2) (a0 :: a1 :: a2 :: a3 :: a4 :: a5 :: some (.long x) :: L) (.long x :: st)) : G Z X b pc (a0 :: a1 :: a2 :: a3 :: a4 :: a5 :: some (.long x) :: L) st := by
  obtain ⟨hx, hb, hml, hown, hts, hK, hrf, hrl, hcl, hsl⟩ := hX
  intro H locs ls hP hS hl
  exact lv_lload hx hb dg (hl.2.2 6 _ rfl) (k H locs ls hP hS hl)
theorem g_lstore_6 (hX : Ok Z X cc nL own d) {a0 a1 a2 a3 a4 a5 a6 a7 : Option Value} {x : Int64} (dg : decode cc pc = .ok (.lstore 6, 2)) (hp : nl1 a5 = true) (k : G Z X b (pc + 2) (a0 :: a1 :: a2 :: a3 :: a4 :: a5 :: some (.long x) :: none :: L) st) : G Z X b pc (a0 :: a1 :: a2 :: a3 :: a4 :: a5 :: a6 :: a7 :: L) (.long x :: st) := by
  obtain ⟨hx, hb, hml, hown, hts, hK, hrf, hrl, hcl, hsl⟩ := hX
  intro H locs ls hP hS hl
  exact lv_lstore hx hb dg hl.has (show 6 + 1 < _ by simp only [List.length_cons]; omega) rfl (fun ls' h => k H locs ls' hP hS (lvk.set2 h (fun v hv _ => by
    have e : a5 = some v := Option.some.inj hv
    rw [e] at hp; simpa [nl1] using hp)))
theorem g_iinc_6 (hX : Ok Z X cc nL own d) {a0 a1 a2 a3 a4 a5 : Option Value} {x : Int32} {n : Int} (c : Int32) (dg : decode cc pc = .ok (.iinc 6 n, 3)) (hc : Int32.ofInt n = c) (hp : nl1 a5 = true) (k : G Z X b (pc + 3) (a0 :: a1 :: a2 :: a3 :: a4 :: a5 :: some (.int (x + c)) :: L) st) : G Z X b pc (a0 :: a1 :: a2 :: a3 :: a4 :: a5 :: some (.int x) :: L) st := by
  obtain ⟨hx, hb, hml, hown, hts, hK, hrf, hrl, hcl, hsl⟩ := hX
  intro H locs ls hP hS hl
  have hm : (6, Value.int x) ∈ lval (a0 :: a1 :: a2 :: a3 :: a4 :: a5 :: some (.int x) :: L) := lval_mem.mpr rfl
  obtain ⟨kk, hkk⟩ := List.getElem?_of_mem hm
  exact lv_iinc (v := x + c) hx hb dg hl.has hkk (by rw [hc]) (by simp) rfl (fun ls' h => k H locs ls' hP hS (lvk.set h (fun v hv _ => by
    have e : a5 = some v := Option.some.inj hv
    rw [e] at hp; simpa [nl1] using hp)))
theorem g_iload_7 (hX : Ok Z X cc nL own d) {a0 a1 a2 a3 a4 a5 a6 : Option Value} {x : Int32} (dg : decode cc pc = .ok (.iload 7, 2)) (k : G Z X b (pc + 2) (a0 :: a1 :: a2 :: a3 :: a4 :: a5 :: a6 :: some (.int x) :: L) (.int x :: st)) : G Z X b pc (a0 :: a1 :: a2 :: a3 :: a4 :: a5 :: a6 :: some (.int x) :: L) st := by
  obtain ⟨hx, hb, hml, hown, hts, hK, hrf, hrl, hcl, hsl⟩ := hX
  intro H locs ls hP hS hl
  exact lv_iload hx hb dg (hl.2.2 7 _ rfl) (k H locs ls hP hS hl)
theorem g_istore_7 (hX : Ok Z X cc nL own d) {a0 a1 a2 a3 a4 a5 a6 a7 : Option Value} {x : Int32} (dg : decode cc pc = .ok (.istore 7, 2)) (hp : nl1 a6 = true) (k : G Z X b (pc + 2) (a0 :: a1 :: a2 :: a3 :: a4 :: a5 :: a6 :: some (.int x) :: L) st) : G Z X b pc (a0 :: a1 :: a2 :: a3 :: a4 :: a5 :: a6 :: a7 :: L) (.int x :: st) := by
  obtain ⟨hx, hb, hml, hown, hts, hK, hrf, hrl, hcl, hsl⟩ := hX
  intro H locs ls hP hS hl
  exact lv_istore hx hb dg hl.has (show 7 < _ by simp only [List.length_cons]; omega) rfl (fun ls' h => k H locs ls' hP hS (lvk.set h (fun v hv _ => by
    have e : a6 = some v := Option.some.inj hv
    rw [e] at hp; simpa [nl1] using hp)))
theorem g_lload_7 (hX : Ok Z X cc nL own d) {a0 a1 a2 a3 a4 a5 a6 : Option Value} {x : Int64} (dg : decode cc pc = .ok (.lload 7, 2)) (k : G Z X b (pc + 2) (a0 :: a1 :: a2 :: a3 :: a4 :: a5 :: a6 :: some (.long x) :: L) (.long x :: st)) : G Z X b pc (a0 :: a1 :: a2 :: a3 :: a4 :: a5 :: a6 :: some (.long x) :: L) st := by
  obtain ⟨hx, hb, hml, hown, hts, hK, hrf, hrl, hcl, hsl⟩ := hX
  intro H locs ls hP hS hl
  exact lv_lload hx hb dg (hl.2.2 7 _ rfl) (k H locs ls hP hS hl)
theorem g_lstore_7 (hX : Ok Z X cc nL own d) {a0 a1 a2 a3 a4 a5 a6 a7 a8 : Option Value} {x : Int64} (dg : decode cc pc = .ok (.lstore 7, 2)) (hp : nl1 a6 = true) (k : G Z X b (pc + 2) (a0 :: a1 :: a2 :: a3 :: a4 :: a5 :: a6 :: some (.long x) :: none :: L) st) : G Z X b pc (a0 :: a1 :: a2 :: a3 :: a4 :: a5 :: a6 :: a7 :: a8 :: L) (.long x :: st) := by
  obtain ⟨hx, hb, hml, hown, hts, hK, hrf, hrl, hcl, hsl⟩ := hX
  intro H locs ls hP hS hl
  exact lv_lstore hx hb dg hl.has (show 7 + 1 < _ by simp only [List.length_cons]; omega) rfl (fun ls' h => k H locs ls' hP hS (lvk.set2 h (fun v hv _ => by
    have e : a6 = some v := Option.some.inj hv
    rw [e] at hp; simpa [nl1] using hp)))
theorem g_iinc_7 (hX : Ok Z X cc nL own d) {a0 a1 a2 a3 a4 a5 a6 : Option Value} {x : Int32} {n : Int} (c : Int32) (dg : decode cc pc = .ok (.iinc 7 n, 3)) (hc : Int32.ofInt n = c) (hp : nl1 a6 = true) (k : G Z X b (pc + 3) (a0 :: a1 :: a2 :: a3 :: a4 :: a5 :: a6 :: some (.int (x + c)) :: L) st) : G Z X b pc (a0 :: a1 :: a2 :: a3 :: a4 :: a5 :: a6 :: some (.int x) :: L) st := by
  obtain ⟨hx, hb, hml, hown, hts, hK, hrf, hrl, hcl, hsl⟩ := hX
  intro H locs ls hP hS hl
  have hm : (7, Value.int x) ∈ lval (a0 :: a1 :: a2 :: a3 :: a4 :: a5 :: a6 :: some (.int x) :: L) := lval_mem.mpr rfl
  obtain ⟨kk, hkk⟩ := List.getElem?_of_mem hm
  exact lv_iinc (v := x + c) hx hb dg hl.has hkk (by rw [hc]) (by simp) rfl (fun ls' h => k H locs ls' hP hS (lvk.set h (fun v hv _ => by
    have e : a6 = some v := Option.some.inj hv
    rw [e] at hp; simpa [nl1] using hp)))
theorem g_iload_8 (hX : Ok Z X cc nL own d) {a0 a1 a2 a3 a4 a5 a6 a7 : Option Value} {x : Int32} (dg : decode cc pc = .ok (.iload 8, 2)) (k : G Z X b (pc + 2) (a0 :: a1 :: a2 :: a3 :: a4 :: a5 :: a6 :: a7 :: some (.int x) :: L) (.int x :: st)) : G Z X b pc (a0 :: a1 :: a2 :: a3 :: a4 :: a5 :: a6 :: a7 :: some (.int x) :: L) st := by
  obtain ⟨hx, hb, hml, hown, hts, hK, hrf, hrl, hcl, hsl⟩ := hX
  intro H locs ls hP hS hl
  exact lv_iload hx hb dg (hl.2.2 8 _ rfl) (k H locs ls hP hS hl)
theorem g_istore_8 (hX : Ok Z X cc nL own d) {a0 a1 a2 a3 a4 a5 a6 a7 a8 : Option Value} {x : Int32} (dg : decode cc pc = .ok (.istore 8, 2)) (hp : nl1 a7 = true) (k : G Z X b (pc + 2) (a0 :: a1 :: a2 :: a3 :: a4 :: a5 :: a6 :: a7 :: some (.int x) :: L) st) : G Z X b pc (a0 :: a1 :: a2 :: a3 :: a4 :: a5 :: a6 :: a7 :: a8 :: L) (.int x :: st) := by
  obtain ⟨hx, hb, hml, hown, hts, hK, hrf, hrl, hcl, hsl⟩ := hX
  intro H locs ls hP hS hl
  exact lv_istore hx hb dg hl.has (show 8 < _ by simp only [List.length_cons]; omega) rfl (fun ls' h => k H locs ls' hP hS (lvk.set h (fun v hv _ => by
    have e : a7 = some v := Option.some.inj hv
    rw [e] at hp; simpa [nl1] using hp)))
theorem g_lload_8 (hX : Ok Z X cc nL own d) {a0 a1 a2 a3 a4 a5 a6 a7 : Option Value} {x : Int64} (dg : decode cc pc = .ok (.lload 8, 2)) (k : G Z X b (pc + 2) (a0 :: a1 :: a2 :: a3 :: a4 :: a5 :: a6 :: a7 :: some (.long x) :: L) (.long x :: st)) : G Z X b pc (a0 :: a1 :: a2 :: a3 :: a4 :: a5 :: a6 :: a7 :: some (.long x) :: L) st := by
  obtain ⟨hx, hb, hml, hown, hts, hK, hrf, hrl, hcl, hsl⟩ := hX
  intro H locs ls hP hS hl
  exact lv_lload hx hb dg (hl.2.2 8 _ rfl) (k H locs ls hP hS hl)
theorem g_lstore_8 (hX : Ok Z X cc nL own d) {a0 a1 a2 a3 a4 a5 a6 a7 a8 a9 : Option Value} {x : Int64} (dg : decode cc pc = .ok (.lstore 8, 2)) (hp : nl1 a7 = true) (k : G Z X b (pc + 2) (a0 :: a1 :: a2 :: a3 :: a4 :: a5 :: a6 :: a7 :: some (.long x) :: none :: L) st) : G Z X b pc (a0 :: a1 :: a2 :: a3 :: a4 :: a5 :: a6 :: a7 :: a8 :: a9 :: L) (.long x :: st) := by
  obtain ⟨hx, hb, hml, hown, hts, hK, hrf, hrl, hcl, hsl⟩ := hX
  intro H locs ls hP hS hl
  exact lv_lstore hx hb dg hl.has (show 8 + 1 < _ by simp only [List.length_cons]; omega) rfl (fun ls' h => k H locs ls' hP hS (lvk.set2 h (fun v hv _ => by
    have e : a7 = some v := Option.some.inj hv
    rw [e] at hp; simpa [nl1] using hp)))
theorem g_iinc_8 (hX : Ok Z X cc nL own d) {a0 a1 a2 a3 a4 a5 a6 a7 : Option Value} {x : Int32} {n : Int} (c : Int32) (dg : decode cc pc = .ok (.iinc 8 n, 3)) (hc : Int32.ofInt n = c) (hp : nl1 a7 = true) (k : G Z X b (pc + 3) (a0 :: a1 :: a2 :: a3 :: a4 :: a5 :: a6 :: a7 :: some (.int (x + c)) :: L) st) : G Z X b pc (a0 :: a1 :: a2 :: a3 :: a4 :: a5 :: a6 :: a7 :: some (.int x) :: L) st := by
  obtain ⟨hx, hb, hml, hown, hts, hK, hrf, hrl, hcl, hsl⟩ := hX
  intro H locs ls hP hS hl
  have hm : (8, Value.int x) ∈ lval (a0 :: a1 :: a2 :: a3 :: a4 :: a5 :: a6 :: a7 :: some (.int x) :: L) := lval_mem.mpr rfl
  obtain ⟨kk, hkk⟩ := List.getElem?_of_mem hm
  exact lv_iinc (v := x + c) hx hb dg hl.has hkk (by rw [hc]) (by simp) rfl (fun ls' h => k H locs ls' hP hS (lvk.set h (fun v hv _ => by
    have e : a7 = some v := Option.some.inj hv
    rw [e] at hp; simpa [nl1] using hp)))
theorem g_iload_9 (hX : Ok Z X cc nL own d) {a0 a1 a2 a3 a4 a5 a6 a7 a8 : Option Value} {x : Int32} (dg : decode cc pc = .ok (.iload 9, 2)) (k : G Z X b (pc + 2) (a0 :: a1 :: a2 :: a3 :: a4 :: a5 :: a6 :: a7 :: a8 :: some (.int x) :: L) (.int x :: st)) : G Z X b pc (a0 :: a1 :: a2 :: a3 :: a4 :: a5 :: a6 :: a7 :: a8 :: some (.int x) :: L) st := by
  obtain ⟨hx, hb, hml, hown, hts, hK, hrf, hrl, hcl, hsl⟩ := hX
  intro H locs ls hP hS hl
  exact lv_iload hx hb dg (hl.2.2 9 _ rfl) (k H locs ls hP hS hl)
theorem g_istore_9 (hX : Ok Z X cc nL own d) {a0 a1 a2 a3 a4 a5 a6 a7 a8 a9 : Option Value} {x : Int32} (dg : decode cc pc = .ok (.istore 9, 2)) (hp : nl1 a8 = true) (k : G Z X b (pc + 2) (a0 :: a1 :: a2 :: a3 :: a4 :: a5 :: a6 :: a7 :: a8 :: some (.int x) :: L) st) : G Z X b pc (a0 :: a1 :: a2 :: a3 :: a4 :: a5 :: a6 :: a7 :: a8 :: a9 :: L) (.int x :: st) := by
  obtain ⟨hx, hb, hml, hown, hts, hK, hrf, hrl, hcl, hsl⟩ := hX
  intro H locs ls hP hS hl
  exact lv_istore hx hb dg hl.has (show 9 < _ by simp only [List.length_cons]; omega) rfl (fun ls' h => k H locs ls' hP hS (lvk.set h (fun v hv _ => by
    have e : a8 = some v := Option.some.inj hv
    rw [e] at hp; simpa [nl1] using hp)))
theorem g_lload_9 (hX : Ok Z X cc nL own d) {a0 a1 a2 a3 a4 a5 a6 a7 a8 : Option Value} {x : Int64} (dg : decode cc pc = .ok (.lload 9, 2)) (k : G Z X b (pc + 2) (a0 :: a1 :: a2 :: a3 :: a4 :: a5 :: a6 :: a7 :: a8 :: some (.long x) :: L) (.long x :: st)) : G Z X b pc (a0 :: a1 :: a2 :: a3 :: a4 :: a5 :: a6 :: a7 :: a8 :: some (.long x) :: L) st := by
  obtain ⟨hx, hb, hml, hown, hts, hK, hrf, hrl, hcl, hsl⟩ := hX
  intro H locs ls hP hS hl
  exact lv_lload hx hb dg (hl.2.2 9 _ rfl) (k H locs ls hP hS hl)
theorem g_lstore_9 (hX : Ok Z X cc nL own d) {a0 a1 a2 a3 a4 a5 a6 a7 a8 a9 a10 : Option Value} {x : Int64} (dg : decode cc pc = .ok (.lstore 9, 2)) (hp : nl1 a8 = true) (k : G Z X b (pc + 2) (a0 :: a1 :: a2 :: a3 :: a4 :: a5 :: a6 :: a7 :: a8 :: some (.long x) :: none :: L) st) : G Z X b pc (a0 :: a1 :: a2 :: a3 :: a4 :: a5 :: a6 :: a7 :: a8 :: a9 :: a10 :: L) (.long x :: st) := by
  obtain ⟨hx, hb, hml, hown, hts, hK, hrf, hrl, hcl, hsl⟩ := hX
  intro H locs ls hP hS hl
  exact lv_lstore hx hb dg hl.has (show 9 + 1 < _ by simp only [List.length_cons]; omega) rfl (fun ls' h => k H locs ls' hP hS (lvk.set2 h (fun v hv _ => by
    have e : a8 = some v := Option.some.inj hv
    rw [e] at hp; simpa [nl1] using hp)))
theorem g_iinc_9 (hX : Ok Z X cc nL own d) {a0 a1 a2 a3 a4 a5 a6 a7 a8 : Option Value} {x : Int32} {n : Int} (c : Int32) (dg : decode cc pc = .ok (.iinc 9 n, 3)) (hc : Int32.ofInt n = c) (hp : nl1 a8 = true) (k : G Z X b (pc + 3) (a0 :: a1 :: a2 :: a3 :: a4 :: a5 :: a6 :: a7 :: a8 :: some (.int (x + c)) :: L) st) : G Z X b pc (a0 :: a1 :: a2 :: a3 :: a4 :: a5 :: a6 :: a7 :: a8 :: some (.int x) :: L) st := by
  obtain ⟨hx, hb, hml, hown, hts, hK, hrf, hrl, hcl, hsl⟩ := hX
  intro H locs ls hP hS hl
  have hm : (9, Value.int x) ∈ lval (a0 :: a1 :: a2 :: a3 :: a4 :: a5 :: a6 :: a7 :: a8 :: some (.int x) :: L) := lval_mem.mpr rfl
  obtain ⟨kk, hkk⟩ := List.getElem?_of_mem hm
  exact lv_iinc (v := x + c) hx hb dg hl.has hkk (by rw [hc]) (by simp) rfl (fun ls' h => k H locs ls' hP hS (lvk.set h (fun v hv _ => by
    have e : a8 = some v := Option.some.inj hv
    rw [e] at hp; simpa [nl1] using hp)))
theorem g_iload_10 (hX : Ok Z X cc nL own d) {a0 a1 a2 a3 a4 a5 a6 a7 a8 a9 : Option Value} {x : Int32} (dg : decode cc pc = .ok (.iload 10, 2)) (k : G Z X b (pc + 2) (a0 :: a1 :: a2 :: a3 :: a4 :: a5 :: a6 :: a7 :: a8 :: a9 :: some (.int x) :: L) (.int x :: st)) : G Z X b pc (a0 :: a1 :: a2 :: a3 :: a4 :: a5 :: a6 :: a7 :: a8 :: a9 :: some (.int x) :: L) st := by
  obtain ⟨hx, hb, hml, hown, hts, hK, hrf, hrl, hcl, hsl⟩ := hX
  intro H locs ls hP hS hl
  exact lv_iload hx hb dg (hl.2.2 10 _ rfl) (k H locs ls hP hS hl)
theorem g_istore_10 (hX : Ok Z X cc nL own d) {a0 a1 a2 a3 a4 a5 a6 a7 a8 a9 a10 : Option Value} {x : Int32} (dg : decode cc pc = .ok (.istore 10, 2)) (hp : nl1 a9 = true) (k : G Z X b (pc + 2) (a0 :: a1 :: a2 :: a3 :: a4 :: a5 :: a6 :: a7 :: a8 :: a9 :: some (.int x) :: L) st) : G Z X b pc (a0 :: a1 :: a2 :: a3 :: a4 :: a5 :: a6 :: a7 :: a8 :: a9 :: a10 :: L) (.int x :: st) := by
  obtain ⟨hx, hb, hml, hown, hts, hK, hrf, hrl, hcl, hsl⟩ := hX
  intro H locs ls hP hS hl
  exact lv_istore hx hb dg hl.has (show 10 < _ by simp only [List.length_cons]; omega) rfl (fun ls' h => k H locs ls' hP hS (lvk.set h (fun v hv _ => by
    have e : a9 = some v := Option.some.inj hv
    rw [e] at hp; simpa [nl1] using hp)))
theorem g_lload_10 (hX : Ok Z X cc nL own d) {a0 a1 a2 a3 a4 a5 a6 a7 a8 a9 : Option Value} {x : Int64} (dg : decode cc pc = .ok (.lload 10, 2)) (k : G Z X b (pc + 2) (a0 :: a1 :: a2 :: a3 :: a4 :: a5 :: a6 :: a7 :: a8 :: a9 :: some (.long x) :: L) (.long x :: st)) : G Z X b pc (a0 :: a1 :: a2 :: a3 :: a4 :: a5 :: a6 :: a7 :: a8 :: a9 :: some (.long x) :: L) st := by
  obtain ⟨hx, hb, hml, hown, hts, hK, hrf, hrl, hcl, hsl⟩ := hX
  intro H locs ls hP hS hl
  exact lv_lload hx hb dg (hl.2.2 10 _ rfl) (k H locs ls hP hS hl)
theorem g_lstore_10 (hX : Ok Z X cc nL own d) {a0 a1 a2 a3 a4 a5 a6 a7 a8 a9 a10 a11 : Option Value} {x : Int64} (dg : decode cc pc = .ok (.lstore 10, 2)) (hp : nl1 a9 = true) (k : G Z X b (pc + 2) (a0 :: a1 :: a2 :: a3 :: a4 :: a5 :: a6 :: a7 :: a8 :: a9 :: some (.long x) :: none :: L) st) : G Z X b pc (a0 :: a1 :: a2 :: a3 :: a4 :: a5 :: a6 :: a7 :: a8 :: a9 :: a10 :: a11 :: L) (.long x :: st) := by
  obtain ⟨hx, hb, hml, hown, hts, hK, hrf, hrl, hcl, hsl⟩ := hX
  intro H locs ls hP hS hl
  exact lv_lstore hx hb dg hl.has (show 10 + 1 < _ by simp only [List.length_cons]; omega) rfl (fun ls' h => k H locs ls' hP hS (lvk.set2 h (fun v hv _ => by
    have e : a9 = some v := Option.some.inj hv
    rw [e] at hp; simpa [nl1] using hp)))
theorem g_iinc_10 (hX : Ok Z X cc nL own d) {a0 a1 a2 a3 a4 a5 a6 a7 a8 a9 : Option Value} {x : Int32} {n : Int} (c : Int32) (dg : decode cc pc = .ok (.iinc 10 n, 3)) (hc : Int32.ofInt n = c) (hp : nl1 a9 = true) (k : G Z X b (pc + 3) (a0 :: a1 :: a2 :: a3 :: a4 :: a5 :: a6 :: a7 :: a8 :: a9 :: some (.int (x + c)) :: L) st) : G Z X b pc (a0 :: a1 :: a2 :: a3 :: a4 :: a5 :: a6 :: a7 :: a8 :: a9 :: some (.int x) :: L) st := by
  obtain ⟨hx, hb, hml, hown, hts, hK, hrf, hrl, hcl, hsl⟩ := hX
  intro H locs ls hP hS hl
  have hm : (10, Value.int x) ∈ lval (a0 :: a1 :: a2 :: a3 :: a4 :: a5 :: a6 :: a7 :: a8 :: a9 :: some (.int x) :: L) := lval_mem.mpr rfl
  obtain ⟨kk, hkk⟩ := List.getElem?_of_mem hm
  exact lv_iinc (v := x + c) hx hb dg hl.has hkk (by rw [hc]) (by simp) rfl (fun ls' h => k H locs ls' hP hS (lvk.set h (fun v hv _ => by
    have e : a9 = some v := Option.some.inj hv
    rw [e] at hp; simpa [nl1] using hp)))
theorem g_iload_11 (hX : Ok Z X cc nL own d) {a0 a1 a2 a3 a4 a5 a6 a7 a8 a9 a10 : Option Value} {x : Int32} (dg : decode cc pc = .ok (.iload 11, 2)) (k : G Z X b (pc + 2) (a0 :: a1 :: a2 :: a3 :: a4 :: a5 :: a6 :: a7 :: a8 :: a9 :: a10 :: some (.int x) :: L) (.int x :: st)) : G Z X b pc (a0 :: a1 :: a2 :: a3 :: a4 :: a5 :: a6 :: a7 :: a8 :: a9 :: a10 :: some (.int x) :: L) st := by
  obtain ⟨hx, hb, hml, hown, hts, hK, hrf, hrl, hcl, hsl⟩ := hX
  intro H locs ls hP hS hl
  exact lv_iload hx hb dg (hl.2.2 11 _ rfl) (k H locs ls hP hS hl)
theorem g_istore_11 (hX : Ok Z X cc nL own d) {a0 a1 a2 a3 a4 a5 a6 a7 a8 a9 a10 a11 : Option Value} {x : Int32} (dg : decode cc pc = .ok (.istore 11, 2)) (hp : nl1 a10 = true) (k : G Z X b (pc + 2) (a0 :: a1 :: a2 :: a3 :: a4 :: a5 :: a6 :: a7 :: a8 :: a9 :: a10 :: some (.int x) :: L) st) : G Z X b pc (a0 :: a1 :: a2 :: a3 :: a4 :: a5 :: a6 :: a7 :: a8 :: a9 :: a10 :: a11 :: L) (.int x :: st) := by
  obtain ⟨hx, hb, hml, hown, hts, hK, hrf, hrl, hcl, hsl⟩ := hX
  intro H locs ls hP hS hl
  exact lv_istore hx hb dg hl.has (show 11 < _ by simp only [List.length_cons]; omega) rfl (fun ls' h => k H locs ls' hP hS (lvk.set h (fun v hv _ => by
    have e : a10 = some v := Option.some.inj hv
    rw [e] at hp; simpa [nl1] using hp)))
theorem g_lload_11 (hX : Ok Z X cc nL own d) {a0 a1 a2 a3 a4 a5 a6 a7 a8 a9 a10 : Option Value} {x : Int64} (dg : decode cc pc = .ok (.lload 11, 2)) (k : G Z X b (pc + 2) (a0 :: a1 :: a2 :: a3 :: a4 :: a5 :: a6 :: a7 :: a8 :: a9 :: a10 :: some (.long x) :: L) (.long x :: st)) : G Z X b pc (a0 :: a1 :: a2 :: a3 :: a4 :: a5 :: a6 :: a7 :: a8 :: a9 :: a10 :: some (.long x) :: L) st := by
  obtain ⟨hx, hb, hml, hown, hts, hK, hrf, hrl, hcl, hsl⟩ := hX
  intro H locs ls hP hS hl
  exact lv_lload hx hb dg (hl.2.2 11 _ rfl) (k H locs ls hP hS hl)
theorem g_lstore_11 (hX : Ok Z X cc nL own d) {a0 a1 a2 a3 a4 a5 a6 a7 a8 a9 a10 a11 a12 : Option Value} {x : Int64} (dg : decode cc pc = .ok (.lstore 11, 2)) (hp : nl1 a10 = true) (k : G Z X b (pc + 2) (a0 :: a1 :: a2 :: a3 :: a4 :: a5 :: a6 :: a7 :: a8 :: a9 :: a10 :: some (.long x) :: none :: L) st) : G Z X b pc (a0 :: a1 :: a2 :: a3 :: a4 :: a5 :: a6 :: a7 :: a8 :: a9 :: a10 :: a11 :: a12 :: L) (.long x :: st) := by
  obtain ⟨hx, hb, hml, hown, hts, hK, hrf, hrl, hcl, hsl⟩ := hX
  intro H locs ls hP hS hl
  exact lv_lstore hx hb dg hl.has (show 11 + 1 < _ by simp only [List.length_cons]; omega) rfl (fun ls' h => k H locs ls' hP hS (lvk.set2 h (fun v hv _ => by
    have e : a10 = some v := Option.some.inj hv
    rw [e] at hp; simpa [nl1] using hp)))
theorem g_iinc_11 (hX : Ok Z X cc nL own d) {a0 a1 a2 a3 a4 a5 a6 a7 a8 a9 a10 : Option Value} {x : Int32} {n : Int} (c : Int32) (dg : decode cc pc = .ok (.iinc 11 n, 3)) (hc : Int32.ofInt n = c) (hp : nl1 a10 = true) (k : G Z X b (pc + 3) (a0 :: a1 :: a2 :: a3 :: a4 :: a5 :: a6 :: a7 :: a8 :: a9 :: a10 :: some (.int (x + c)) :: L) st) : G Z X b pc (a0 :: a1 :: a2 :: a3 :: a4 :: a5 :: a6 :: a7 :: a8 :: a9 :: a10 :: some (.int x) :: L) st := by
  obtain ⟨hx, hb, hml, hown, hts, hK, hrf, hrl, hcl, hsl⟩ := hX
  intro H locs ls hP hS hl
  have hm : (11, Value.int x) ∈ lval (a0 :: a1 :: a2 :: a3 :: a4 :: a5 :: a6 :: a7 :: a8 :: a9 :: a10 :: some (.int x) :: L) := lval_mem.mpr rfl
  obtain ⟨kk, hkk⟩ := List.getElem?_of_mem hm
  exact lv_iinc (v := x + c) hx hb dg hl.has hkk (by rw [hc]) (by simp) rfl (fun ls' h => k H locs ls' hP hS (lvk.set h (fun v hv _ => by
    have e : a10 = some v := Option.some.inj hv
    rw [e] at hp; simpa [nl1] using hp)))
theorem g_iload_12 (hX : Ok Z X cc nL own d) {a0 a1 a2 a3 a4 a5 a6 a7 a8 a9 a10 a11 : Option Value} {x : Int32} (dg : decode cc pc = .ok (.iload 12, 2)) (k : G Z X b (pc + 2) (a0 :: a1 :: a2 :: a3 :: a4 :: a5 :: a6 :: a7 :: a8 :: a9 :: a10 :: a11 :: some (.int x) :: L) (.int x :: st)) : G Z X b pc (a0 :: a1 :: a2 :: a3 :: a4 :: a5 :: a6 :: a7 :: a8 :: a9 :: a10 :: a11 :: some (.int x) :: L) st := by
  obtain ⟨hx, hb, hml, hown, hts, hK, hrf, hrl, hcl, hsl⟩ := hX
  intro H locs ls hP hS hl
  exact lv_iload hx hb dg (hl.2.2 12 _ rfl) (k H locs ls hP hS hl)
theorem g_istore_12 (hX : Ok Z X cc nL own d) {a0 a1 a2 a3 a4 a5 a6 a7 a8 a9 a10 a11 a12 : Option Value} {x : Int32} (dg : decode cc pc = .ok (.istore 12, 2)) (hp : nl1 a11 = true) (k : G Z X b (pc + 2) (a0 :: a1 :: a2 :: a3 :: a4 :: a5 :: a6 :: a7 :: a8 :: a9 :: a10 :: a11 :: some (.int x) :: L) st) : G Z X b pc (a0 :: a1 :: a2 :: a3 :: a4 :: a5 :: a6 :: a7 :: a8 :: a9 :: a10 :: a11 :: a12 :: L) (.int x :: st) := by
  obtain ⟨hx, hb, hml, hown, hts, hK, hrf, hrl, hcl, hsl⟩ := hX
  intro H locs ls hP hS hl
  exact lv_istore hx hb dg hl.has (show 12 < _ by simp only [List.length_cons]; omega) rfl (fun ls' h => k H locs ls' hP hS (lvk.set h (fun v hv _ => by
    have e : a11 = some v := Option.some.inj hv
    rw [e] at hp; simpa [nl1] using hp)))
theorem g_lload_12 (hX : Ok Z X cc nL own d) {a0 a1 a2 a3 a4 a5 a6 a7 a8 a9 a10 a11 : Option Value} {x : Int64} (dg : decode cc pc = .ok (.lload 12, 2)) (k : G Z X b (pc + 2) (a0 :: a1 :: a2 :: a3 :: a4 :: a5 :: a6 :: a7 :: a8 :: a9 :: a10 :: a11 :: some (.long x) :: L) (.long x :: st)) : G Z X b pc (a0 :: a1 :: a2 :: a3 :: a4 :: a5 :: a6 :: a7 :: a8 :: a9 :: a10 :: a11 :: some (.long x) :: L) st := by
  obtain ⟨hx, hb, hml, hown, hts, hK, hrf, hrl, hcl, hsl⟩ := hX
  intro H locs ls hP hS hl
  exact lv_lload hx hb dg (hl.2.2 12 _ rfl) (k H locs ls hP hS hl)
theorem g_lstore_12 (hX : Ok Z X cc nL own d) {a0 a1 a2 a3 a4 a5 a6 a7 a8 a9 a10 a11 a12 a13 : Option Value} {x : Int64} (dg : decode cc pc = .ok (.lstore 12, 2)) (hp : nl1 a11 = true) (k : G Z X b (pc + 2) (a0 :: a1 :: a2 :: a3 :: a4 :: a5 :: a6 :: a7 :: a8 :: a9 :: a10 :: a11 :: some (.long x) :: none :: L) st) : G Z X b pc (a0 :: a1 :: a2 :: a3 :: a4 :: a5 :: a6 :: a7 :: a8 :: a9 :: a10 :: a11 :: a12 :: a13 :: L) (.long x :: st) := by
  obtain ⟨hx, hb, hml, hown, hts, hK, hrf, hrl, hcl, hsl⟩ := hX
  intro H locs ls hP hS hl
  exact lv_lstore hx hb dg hl.has (show 12 + 1 < _ by simp only [List.length_cons]; omega) rfl (fun ls' h => k H locs ls' hP hS (lvk.set2 h (fun v hv _ => by
    have e : a11 = some v := Option.some.inj hv
    rw [e] at hp; simpa [nl1] using hp)))
theorem g_iinc_12 (hX : Ok Z X cc nL own d) {a0 a1 a2 a3 a4 a5 a6 a7 a8 a9 a10 a11 : Option Value} {x : Int32} {n : Int} (c : Int32) (dg : decode cc pc = .ok (.iinc 12 n, 3)) (hc : Int32.ofInt n = c) (hp : nl1 a11 = true) (k : G Z X b (pc + 3) (a0 :: a1 :: a2 :: a3 :: a4 :: a5 :: a6 :: a7 :: a8 :: a9 :: a10 :: a11 :: some (.int (x + c)) :: L) st) : G Z X b pc (a0 :: a1 :: a2 :: a3 :: a4 :: a5 :: a6 :: a7 :: a8 :: a9 :: a10 :: a11 :: some (.int x) :: L) st := by
  obtain ⟨hx, hb, hml, hown, hts, hK, hrf, hrl, hcl, hsl⟩ := hX
  intro H locs ls hP hS hl
  have hm : (12, Value.int x) ∈ lval (a0 :: a1 :: a2 :: a3 :: a4 :: a5 :: a6 :: a7 :: a8 :: a9 :: a10 :: a11 :: some (.int x) :: L) := lval_mem.mpr rfl
  obtain ⟨kk, hkk⟩ := List.getElem?_of_mem hm
  exact lv_iinc (v := x + c) hx hb dg hl.has hkk (by rw [hc]) (by simp) rfl (fun ls' h => k H locs ls' hP hS (lvk.set h (fun v hv _ => by
    have e : a11 = some v := Option.some.inj hv
    rw [e] at hp; simpa [nl1] using hp)))
theorem g_iload_13 (hX : Ok Z X cc nL own d) {a0 a1 a2 a3 a4 a5 a6 a7 a8 a9 a10 a11 a12 : Option Value} {x : Int32} (dg : decode cc pc = .ok (.iload 13, 2)) (k : G Z X b (pc + 2) (a0 :: a1 :: a2 :: a3 :: a4 :: a5 :: a6 :: a7 :: a8 :: a9 :: a10 :: a11 :: a12 :: some (.int x) :: L) (.int x :: st)) : G Z X b pc (a0 :: a1 :: a2 :: a3 :: a4 :: a5 :: a6 :: a7 :: a8 :: a9 :: a10 :: a11 :: a12 :: some (.int x) :: L) st := by
  obtain ⟨hx, hb, hml, hown, hts, hK, hrf, hrl, hcl, hsl⟩ := hX
  intro H locs ls hP hS hl
  exact lv_iload hx hb dg (hl.2.2 13 _ rfl) (k H locs ls hP hS hl)
theorem g_istore_13 (hX : Ok Z X cc nL own d) {a0 a1 a2 a3 a4 a5 a6 a7 a8 a9 a10 a11 a12 a13 : Option Value} {x : Int32} (dg : decode cc pc = .ok (.istore 13, 2)) (hp : nl1 a12 = true) (k : G Z X b (pc + 2) (a0 :: a1 :: a2 :: a3 :: a4 :: a5 :: a6 :: a7 :: a8 :: a9 :: a10 :: a11 :: a12 :: some (.int x) :: L) st) : G Z X b pc (a0 :: a1 :: a2 :: a3 :: a4 :: a5 :: a6 :: a7 :: a8 :: a9 :: a10 :: a11 :: a12 :: a13 :: L) (.int x :: st) := by
  obtain ⟨hx, hb, hml, hown, hts, hK, hrf, hrl, hcl, hsl⟩ := hX
  intro H locs ls hP hS hl
  exact lv_istore hx hb dg hl.has (show 13 < _ by simp only [List.length_cons]; omega) rfl (fun ls' h => k H locs ls' hP hS (lvk.set h (fun v hv _ => by
    have e : a12 = some v := Option.some.inj hv
    rw [e] at hp; simpa [nl1] using hp)))
theorem g_lload_13 (hX : Ok Z X cc nL own d) {a0 a1 a2 a3 a4 a5 a6 a7 a8 a9 a10 a11 a12 : Option Value} {x : Int64} (dg : decode cc pc = .ok (.lload 13, 2)) (k : G Z X b (pc + 2) (a0 :: a1 :: a2 :: a3 :: a4 :: a5 :: a6 :: a7 :: a8 :: a9 :: a10 :: a11 :: a12 :: some (.long x) :: L) (.long x :: st)) : G Z X b pc (a0 :: a1 :: a2 :: a3 :: a4 :: a5 :: a6 :: a7 :: a8 :: a9 :: a10 :: a11 :: a12 :: some (.long x) :: L) st := by
  obtain ⟨hx, hb, hml, hown, hts, hK, hrf, hrl, hcl, hsl⟩ := hX
  intro H locs ls hP hS hl
  exact lv_lload hx hb dg (hl.2.2 13 _ rfl) (k H locs ls hP hS hl)
theorem g_lstore_13 (hX : Ok Z X cc nL own d) {a0 a1 a2 a3 a4 a5 a6 a7 a8 a9 a10 a11 a12 a13 a14 : Option Value} {x : Int64} (dg : decode cc pc = .ok (.lstore 13, 2)) (hp : nl1 a12 = true) (k : G Z X b (pc + 2) (a0 :: a1 :: a2 :: a3 :: a4 :: a5 :: a6 :: a7 :: a8 :: a9 :: a10 :: a11 :: a12 :: some (.long x) :: none :: L) st) : G Z X b pc (a0 :: a1 :: a2 :: a3 :: a4 :: a5 :: a6 :: a7 :: a8 :: a9 :: a10 :: a11 :: a12 :: a13 :: a14 :: L) (.long x :: st) := by
  obtain ⟨hx, hb, hml, hown, hts, hK, hrf, hrl, hcl, hsl⟩ := hX
  intro H locs ls hP hS hl
  exact lv_lstore hx hb dg hl.has (show 13 + 1 < _ by simp only [List.length_cons]; omega) rfl (fun ls' h => k H locs ls' hP hS (lvk.set2 h (fun v hv _ => by
    have e : a12 = some v := Option.some.inj hv
    rw [e] at hp; simpa [nl1] using hp)))
theorem g_iinc_13 (hX : Ok Z X cc nL own d) {a0 a1 a2 a3 a4 a5 a6 a7 a8 a9 a10 a11 a12 : Option Value} {x : Int32} {n : Int} (c : Int32) (dg : decode cc pc = .ok (.iinc 13 n, 3)) (hc : Int32.ofInt n = c) (hp : nl1 a12 = true) (k : G Z X b (pc + 3) (a0 :: a1 :: a2 :: a3 :: a4 :: a5 :: a6 :: a7 :: a8 :: a9 :: a10 :: a11 :: a12 :: some (.int (x + c)) :: L) st) : G Z X b pc (a0 :: a1 :: a2 :: a3 :: a4 :: a5 :: a6 :: a7 :: a8 :: a9 :: a10 :: a11 :: a12 :: some (.int x) :: L) st := by
  obtain ⟨hx, hb, hml, hown, hts, hK, hrf, hrl, hcl, hsl⟩ := hX
  intro H locs ls hP hS hl
  have hm : (13, Value.int x) ∈ lval (a0 :: a1 :: a2 :: a3 :: a4 :: a5 :: a6 :: a7 :: a8 :: a9 :: a10 :: a11 :: a12 :: some (.int x) :: L) := lval_mem.mpr rfl
  obtain ⟨kk, hkk⟩ := List.getElem?_of_mem hm
  exact lv_iinc (v := x + c) hx hb dg hl.has hkk (by rw [hc]) (by simp) rfl (fun ls' h => k H locs ls' hP hS (lvk.set h (fun v hv _ => by
    have e : a12 = some v := Option.some.inj hv
    rw [e] at hp; simpa [nl1] using hp)))
theorem g_iadd (hX : Ok Z X cc nL own d) {x y : Int32} (dg : decode cc pc = .ok (.iadd, 1)) (k : G Z X b (pc + 1) L (.int (x + y) :: st)) : G Z X b pc L (.int y :: .int x :: st) := by
  obtain ⟨hx, hb, hml, hown, hts, hK, hrf, hrl, hcl, hsl⟩ := hX
  intro H locs ls hP hS hl
  exact lv_iadd hx hb dg (k H locs ls hP hS hl)
theorem g_isub (hX : Ok Z X cc nL own d) {x y : Int32} (dg : decode cc pc = .ok (.isub, 1)) (k : G Z X b (pc + 1) L (.int (x - y) :: st)) : G Z X b pc L (.int y :: .int x :: st) := by
  obtain ⟨hx, hb, hml, hown, hts, hK, hrf, hrl, hcl, hsl⟩ := hX
  intro H locs ls hP hS hl
  exact lv_isub hx hb dg (k H locs ls hP hS hl)
theorem g_imul (hX : Ok Z X cc nL own d) {x y : Int32} (dg : decode cc pc = .ok (.imul, 1)) (k : G Z X b (pc + 1) L (.int (x * y) :: st)) : G Z X b pc L (.int y :: .int x :: st) := by
  obtain ⟨hx, hb, hml, hown, hts, hK, hrf, hrl, hcl, hsl⟩ := hX
  intro H locs ls hP hS hl
  exact lv_imul hx hb dg (k H locs ls hP hS hl)
theorem g_iand (hX : Ok Z X cc nL own d) {x y : Int32} (dg : decode cc pc = .ok (.iand, 1)) (k : G Z X b (pc + 1) L (.int (x &&& y) :: st)) : G Z X b pc L (.int y :: .int x :: st) := by
  obtain ⟨hx, hb, hml, hown, hts, hK, hrf, hrl, hcl, hsl⟩ := hX
  intro H locs ls hP hS hl
  exact lv_iand hx hb dg (k H locs ls hP hS hl)
theorem g_ior (hX : Ok Z X cc nL own d) {x y : Int32} (dg : decode cc pc = .ok (.ior, 1)) (k : G Z X b (pc + 1) L (.int (x ||| y) :: st)) : G Z X b pc L (.int y :: .int x :: st) := by
  obtain ⟨hx, hb, hml, hown, hts, hK, hrf, hrl, hcl, hsl⟩ := hX
  intro H locs ls hP hS hl
  exact lv_ior hx hb dg (k H locs ls hP hS hl)
theorem g_ixor (hX : Ok Z X cc nL own d) {x y : Int32} (dg : decode cc pc = .ok (.ixor, 1)) (k : G Z X b (pc + 1) L (.int (x ^^^ y) :: st)) : G Z X b pc L (.int y :: .int x :: st) := by
  obtain ⟨hx, hb, hml, hown, hts, hK, hrf, hrl, hcl, hsl⟩ := hX
  intro H locs ls hP hS hl
  exact lv_ixor hx hb dg (k H locs ls hP hS hl)
theorem g_ishl (hX : Ok Z X cc nL own d) {x y : Int32} (dg : decode cc pc = .ok (.ishl, 1)) (k : G Z X b (pc + 1) L (.int (x <<< (y &&& 31)) :: st)) : G Z X b pc L (.int y :: .int x :: st) := by
  obtain ⟨hx, hb, hml, hown, hts, hK, hrf, hrl, hcl, hsl⟩ := hX
  intro H locs ls hP hS hl
  exact lv_ishl hx hb dg (k H locs ls hP hS hl)
theorem g_ishr (hX : Ok Z X cc nL own d) {x y : Int32} (dg : decode cc pc = .ok (.ishr, 1)) (k : G Z X b (pc + 1) L (.int (x >>> (y &&& 31)) :: st)) : G Z X b pc L (.int y :: .int x :: st) := by
  obtain ⟨hx, hb, hml, hown, hts, hK, hrf, hrl, hcl, hsl⟩ := hX
  intro H locs ls hP hS hl
  exact lv_ishr hx hb dg (k H locs ls hP hS hl)
def jrem (x y : Int32) : Int32 := x - x / y * y
def jushr (x y : Int32) : Int32 := (x.toUInt32 >>> (y.toUInt32 &&& Int32.toUInt32 31)).toInt32
theorem g_idiv (hX : Ok Z X cc nL own d) {x y : Int32} (dg : decode cc pc = .ok (.idiv, 1)) (h0 : ¬ y = 0) (k : G Z X b (pc + 1) L (.int (x / y) :: st)) : G Z X b pc L (.int y :: .int x :: st) := by
  obtain ⟨hx, hb, hml, hown, hts, hK, hrf, hrl, hcl, hsl⟩ := hX
  intro H locs ls hP hS hl
  exact lv_idiv hx hb dg h0 (k H locs ls hP hS hl)
theorem g_irem (hX : Ok Z X cc nL own d) {x y : Int32} (dg : decode cc pc = .ok (.irem, 1)) (h0 : ¬ y = 0) (k : G Z X b (pc + 1) L (.int (jrem x y) :: st)) : G Z X b pc L (.int y :: .int x :: st) := by
  obtain ⟨hx, hb, hml, hown, hts, hK, hrf, hrl, hcl, hsl⟩ := hX
  intro H locs ls hP hS hl
  exact lv_irem hx hb dg h0 (k H locs ls hP hS hl)
theorem g_iushr (hX : Ok Z X cc nL own d) {x y : Int32} (dg : decode cc pc = .ok (.iushr, 1)) (k : G Z X b (pc + 1) L (.int (jushr x y) :: st)) : G Z X b pc L (.int y :: .int x :: st) := by
  obtain ⟨hx, hb, hml, hown, hts, hK, hrf, hrl, hcl, hsl⟩ := hX
  intro H locs ls hP hS hl
  exact lv_iushr hx hb dg rfl (k H locs ls hP hS hl)
theorem g_ineg (hX : Ok Z X cc nL own d) {x : Int32} (dg : decode cc pc = .ok (.ineg, 1)) (k : G Z X b (pc + 1) L (.int (-x) :: st)) : G Z X b pc L (.int x :: st) := by
  obtain ⟨hx, hb, hml, hown, hts, hK, hrf, hrl, hcl, hsl⟩ := hX
  intro H locs ls hP hS hl
  exact lv_ineg hx hb dg (k H locs ls hP hS hl)
theorem g_ladd (hX : Ok Z X cc nL own d) {x y : Int64} (dg : decode cc pc = .ok (.ladd, 1)) (k : G Z X b (pc + 1) L (.long (x + y) :: st)) : G Z X b pc L (.long y :: .long x :: st) := by
  obtain ⟨hx, hb, hml, hown, hts, hK, hrf, hrl, hcl, hsl⟩ := hX
  intro H locs ls hP hS hl
  exact lv_ladd hx hb dg (k H locs ls hP hS hl)
theorem g_lmul (hX : Ok Z X cc nL own d) {x y : Int64} (dg : decode cc pc = .ok (.lmul, 1)) (k : G Z X b (pc + 1) L (.long (x * y) :: st)) : G Z X b pc L (.long y :: .long x :: st) := by
  obtain ⟨hx, hb, hml, hown, hts, hK, hrf, hrl, hcl, hsl⟩ := hX
  intro H locs ls hP hS hl
  exact lv_lmul hx hb dg (k H locs ls hP hS hl)
theorem g_i2l (hX : Ok Z X cc nL own d) {x : Int32} (dg : decode cc pc = .ok (.i2l, 1)) (k : G Z X b (pc + 1) L (.long x.toInt64 :: st)) : G Z X b pc L (.int x :: st) := by
  obtain ⟨hx, hb, hml, hown, hts, hK, hrf, hrl, hcl, hsl⟩ := hX
  intro H locs ls hP hS hl
  exact lv_i2l hx hb dg rfl (k H locs ls hP hS hl)
theorem g_lcmp (hX : Ok Z X cc nL own d) {x y : Int64} (dg : decode cc pc = .ok (.lcmp, 1)) (k : G Z X b (pc + 1) L (.int (lg_cmp x y) :: st)) : G Z X b pc L (.long y :: .long x :: st) := by
  obtain ⟨hx, hb, hml, hown, hts, hK, hrf, hrl, hcl, hsl⟩ := hX
  intro H locs ls hP hS hl
  exact W.lcmp hx hb dg (k H locs ls hP hS hl)
theorem g_dup (hX : Ok Z X cc nL own d) {v : Value} (dg : decode cc pc = .ok (.dup, 1)) (hv : v.category = 1) (k : G Z X b (pc + 1) L (v :: v :: st)) : G Z X b pc L (v :: st) := by
  obtain ⟨hx, hb, hml, hown, hts, hK, hrf, hrl, hcl, hsl⟩ := hX
  intro H locs ls hP hS hl
  exact lv_dup hx hb dg hv (k H locs ls hP hS hl)
theorem g_pop (hX : Ok Z X cc nL own d) {v : Value} (dg : decode cc pc = .ok (.pop, 1)) (hv : v.category = 1) (k : G Z X b (pc + 1) L st) : G Z X b pc L (v :: st) := by
  obtain ⟨hx, hb, hml, hown, hts, hK, hrf, hrl, hcl, hsl⟩ := hX
  intro H locs ls hP hS hl
  exact lv_pop hx hb dg hv (k H locs ls hP hS hl)
theorem g_dup2 (hX : Ok Z X cc nL own d) {v w : Value} (dg : decode cc pc = .ok (.dup2, 1)) (hv : v.category = 1) (hw : w.category = 1) (k : G Z X b (pc + 1) L (v :: w :: v :: w :: st)) : G Z X b pc L (v :: w :: st) := by
  obtain ⟨hx, hb, hml, hown, hts, hK, hrf, hrl, hcl, hsl⟩ := hX
  intro H locs ls hP hS hl
  exact lv_dup2_11 hx hb dg hv hw (k H locs ls hP hS hl)
theorem g_icmp_eq (hX : Ok Z X cc nL own d) {x y : Int32} {off : Int} (tgt : Nat) (dg : decode cc pc = .ok (.if_icmp .eq off, 3)) (ht : (pc : Int) + off = (tgt : Int)) (kt : x = y → G Z X b tgt L st) (kf : ¬ x = y → G Z X b (pc + 3) L st) : G Z X b pc L (.int y :: .int x :: st) := by
  obtain ⟨hx, hb, hml, hown, hts, hK, hrf, hrl, hcl, hsl⟩ := hX
  intro H locs ls hP hS hl
  exact lv_icmp_eq hx hb dg ht (fun h => kt (h) H locs ls hP hS hl) (fun h => kf (h) H locs ls hP hS hl)
theorem g_icmp_ne (hX : Ok Z X cc nL own d) {x y : Int32} {off : Int} (tgt : Nat) (dg : decode cc pc = .ok (.if_icmp .ne off, 3)) (ht : (pc : Int) + off = (tgt : Int)) (kt : ¬ x = y → G Z X b tgt L st) (kf : x = y → G Z X b (pc + 3) L st) : G Z X b pc L (.int y :: .int x :: st) := by
  obtain ⟨hx, hb, hml, hown, hts, hK, hrf, hrl, hcl, hsl⟩ := hX
  intro H locs ls hP hS hl
  exact lv_icmp_ne hx hb dg ht (fun h => kt (h) H locs ls hP hS hl) (fun h => kf (h) H locs ls hP hS hl)
theorem g_icmp_lt (hX : Ok Z X cc nL own d) {x y : Int32} {off : Int} (tgt : Nat) (dg : decode cc pc = .ok (.if_icmp .lt off, 3)) (ht : (pc : Int) + off = (tgt : Int)) (kt : x < y → G Z X b tgt L st) (kf : ¬ x < y → G Z X b (pc + 3) L st) : G Z X b pc L (.int y :: .int x :: st) := by
  obtain ⟨hx, hb, hml, hown, hts, hK, hrf, hrl, hcl, hsl⟩ := hX
  intro H locs ls hP hS hl
  exact lv_icmp_lt hx hb dg ht (fun h => kt (h) H locs ls hP hS hl) (fun h => kf (h) H locs ls hP hS hl)
theorem g_icmp_ge (hX : Ok Z X cc nL own d) {x y : Int32} {off : Int} (tgt : Nat) (dg : decode cc pc = .ok (.if_icmp .ge off, 3)) (ht : (pc : Int) + off = (tgt : Int)) (kt : ¬ x < y → G Z X b tgt L st) (kf : x < y → G Z X b (pc + 3) L st) : G Z X b pc L (.int y :: .int x :: st) := by
  obtain ⟨hx, hb, hml, hown, hts, hK, hrf, hrl, hcl, hsl⟩ := hX
  intro H locs ls hP hS hl
  exact lv_icmp_ge hx hb dg ht (fun h => kt (Int32.not_lt.mpr h) H locs ls hP hS hl) (fun h => kf (Int32.not_le.mp h) H locs ls hP hS hl)
theorem g_icmp_gt (hX : Ok Z X cc nL own d) {x y : Int32} {off : Int} (tgt : Nat) (dg : decode cc pc = .ok (.if_icmp .gt off, 3)) (ht : (pc : Int) + off = (tgt : Int)) (kt : y < x → G Z X b tgt L st) (kf : ¬ y < x → G Z X b (pc + 3) L st) : G Z X b pc L (.int y :: .int x :: st) := by
  obtain ⟨hx, hb, hml, hown, hts, hK, hrf, hrl, hcl, hsl⟩ := hX
  intro H locs ls hP hS hl
  exact lv_icmp_gt hx hb dg ht (fun h => kt (h) H locs ls hP hS hl) (fun h => kf (h) H locs ls hP hS hl)
theorem g_icmp_le (hX : Ok Z X cc nL own d) {x y : Int32} {off : Int} (tgt : Nat) (dg : decode cc pc = .ok (.if_icmp .le off, 3)) (ht : (pc : Int) + off = (tgt : Int)) (kt : ¬ y < x → G Z X b tgt L st) (kf : y < x → G Z X b (pc + 3) L st) : G Z X b pc L (.int y :: .int x :: st) := by
  obtain ⟨hx, hb, hml, hown, hts, hK, hrf, hrl, hcl, hsl⟩ := hX
  intro H locs ls hP hS hl
  exact lv_icmp_le hx hb dg ht (fun h => kt (Int32.not_lt.mpr h) H locs ls hP hS hl) (fun h => kf (Int32.not_le.mp h) H locs ls hP hS hl)
theorem g_if_eq (hX : Ok Z X cc nL own d) {x : Int32} {off : Int} (tgt : Nat) (dg : decode cc pc = .ok (.ifCond .eq off, 3)) (ht : (pc : Int) + off = (tgt : Int)) (kt : x = 0 → G Z X b tgt L st) (kf : ¬ x = 0 → G Z X b (pc + 3) L st) : G Z X b pc L (.int x :: st) := by
  obtain ⟨hx, hb, hml, hown, hts, hK, hrf, hrl, hcl, hsl⟩ := hX
  intro H locs ls hP hS hl
  exact lv_if_eq hx hb dg ht (fun h => kt (h) H locs ls hP hS hl) (fun h => kf (h) H locs ls hP hS hl)
theorem g_if_ne (hX : Ok Z X cc nL own d) {x : Int32} {off : Int} (tgt : Nat) (dg : decode cc pc = .ok (.ifCond .ne off, 3)) (ht : (pc : Int) + off = (tgt : Int)) (kt : ¬ x = 0 → G Z X b tgt L st) (kf : x = 0 → G Z X b (pc + 3) L st) : G Z X b pc L (.int x :: st) := by
  obtain ⟨hx, hb, hml, hown, hts, hK, hrf, hrl, hcl, hsl⟩ := hX
  intro H locs ls hP hS hl
  exact lv_if_ne hx hb dg ht (fun h => kt (h) H locs ls hP hS hl) (fun h => kf (h) H locs ls hP hS hl)
theorem g_if_lt (hX : Ok Z X cc nL own d) {x : Int32} {off : Int} (tgt : Nat) (dg : decode cc pc = .ok (.ifCond .lt off, 3)) (ht : (pc : Int) + off = (tgt : Int)) (kt : x < 0 → G Z X b tgt L st) (kf : ¬ x < 0 → G Z X b (pc + 3) L st) : G Z X b pc L (.int x :: st) := by
  obtain ⟨hx, hb, hml, hown, hts, hK, hrf, hrl, hcl, hsl⟩ := hX
  intro H locs ls hP hS hl
  exact lv_if_lt hx hb dg ht (fun h => kt (h) H locs ls hP hS hl) (fun h => kf (h) H locs ls hP hS hl)
theorem g_if_ge (hX : Ok Z X cc nL own d) {x : Int32} {off : Int} (tgt : Nat) (dg : decode cc pc = .ok (.ifCond .ge off, 3)) (ht : (pc : Int) + off = (tgt : Int)) (kt : ¬ x < 0 → G Z X b tgt L st) (kf : x < 0 → G Z X b (pc + 3) L st) : G Z X b pc L (.int x :: st) := by
  obtain ⟨hx, hb, hml, hown, hts, hK, hrf, hrl, hcl, hsl⟩ := hX
  intro H locs ls hP hS hl
  exact lv_if_ge hx hb dg ht (fun h => kt (Int32.not_lt.mpr h) H locs ls hP hS hl) (fun h => kf (Int32.not_le.mp h) H locs ls hP hS hl)
theorem g_if_gt (hX : Ok Z X cc nL own d) {x : Int32} {off : Int} (tgt : Nat) (dg : decode cc pc = .ok (.ifCond .gt off, 3)) (ht : (pc : Int) + off = (tgt : Int)) (kt : 0 < x → G Z X b tgt L st) (kf : ¬ 0 < x → G Z X b (pc + 3) L st) : G Z X b pc L (.int x :: st) := by
  obtain ⟨hx, hb, hml, hown, hts, hK, hrf, hrl, hcl, hsl⟩ := hX
  intro H locs ls hP hS hl
  exact lv_if_gt hx hb dg ht (fun h => kt (h) H locs ls hP hS hl) (fun h => kf (h) H locs ls hP hS hl)
theorem g_if_le (hX : Ok Z X cc nL own d) {x : Int32} {off : Int} (tgt : Nat) (dg : decode cc pc = .ok (.ifCond .le off, 3)) (ht : (pc : Int) + off = (tgt : Int)) (kt : ¬ 0 < x → G Z X b tgt L st) (kf : 0 < x → G Z X b (pc + 3) L st) : G Z X b pc L (.int x :: st) := by
  obtain ⟨hx, hb, hml, hown, hts, hK, hrf, hrl, hcl, hsl⟩ := hX
  intro H locs ls hP hS hl
  exact lv_if_le hx hb dg ht (fun h => kt (Int32.not_lt.mpr h) H locs ls hP hS hl) (fun h => kf (Int32.not_le.mp h) H locs ls hP hS hl)
theorem g_goto (hX : Ok Z X cc nL own d) {off : Int} (tgt : Nat) (dg : decode cc pc = .ok (.goto off, 3)) (ht : (pc : Int) + off = (tgt : Int)) (k : G Z X b tgt L st) : G Z X b pc L st := by
  obtain ⟨hx, hb, hml, hown, hts, hK, hrf, hrl, hcl, hsl⟩ := hX
  intro H locs ls hP hS hl
  exact lv_goto hx hb dg ht (k H locs ls hP hS hl)
theorem g_tableOut (hX : Ok Z X cc nL own d) {dflt lo hi : Int} {offs : Array Int} {len : Nat} {x : Int32} (tgt : Nat) (dg : decode cc pc = .ok (.tableswitch dflt lo hi offs, len)) (h : x.toInt < lo ∨ hi < x.toInt) (ht : (pc : Int) + dflt = (tgt : Int)) (k : G Z X b tgt L st) : G Z X b pc L (.int x :: st) := by
  obtain ⟨hx, hb, hml, hown, hts, hK, hrf, hrl, hcl, hsl⟩ := hX
  intro H locs ls hP hS hl
  exact lv_tableOut hx hb dg h ht (k H locs ls hP hS hl)
theorem g_tableIn (hX : Ok Z X cc nL own d) {dflt lo hi : Int} {offs : Array Int} {len : Nat} {x : Int32} {off : Int} (tgt : Nat) (dg : decode cc pc = .ok (.tableswitch dflt lo hi offs, len)) (h1 : ¬ x.toInt < lo) (h2 : ¬ hi < x.toInt) (ho : offs[(x.toInt - lo).toNat]? = some off) (ht : (pc : Int) + off = (tgt : Int)) (k : G Z X b tgt L st) : G Z X b pc L (.int x :: st) := by
  obtain ⟨hx, hb, hml, hown, hts, hK, hrf, hrl, hcl, hsl⟩ := hX
  intro H locs ls hP hS hl
  exact lv_tableIn hx hb dg h1 h2 ho ht (k H locs ls hP hS hl)
theorem g_lookup (hX : Ok Z X cc nL own d) {dflt : Int} {ps : Array (Int × Int)} {len : Nat} {x : Int32} {off : Int} (tgt : Nat) (dg : decode cc pc = .ok (.lookupswitch dflt ps, len)) (hp : (ps.toList.zip (ps.toList.drop 1)).all (fun (a, next) => a.1 < next.1) = true) (ho : Op.lookupswitch.offset ps.toList dflt x.toInt = off) (ht : (pc : Int) + off = (tgt : Int)) (k : G Z X b tgt L st) : G Z X b pc L (.int x :: st) := by
  obtain ⟨hx, hb, hml, hown, hts, hK, hrf, hrl, hcl, hsl⟩ := hX
  intro H locs ls hP hS hl
  exact lv_lookup hx hb dg hp ho ht (k H locs ls hP hS hl)
theorem g_ifnonnull (hX : Ok Z X cc nL own d) {x : Nat} {off : Int} (tgt : Nat) (dg : decode cc pc = .ok (.ifnonnull off, 3)) (ht : (pc : Int) + off = (tgt : Int)) (k : G Z X b tgt L st) : G Z X b pc L (.ref x :: st) := by
  obtain ⟨hx, hb, hml, hown, hts, hK, hrf, hrl, hcl, hsl⟩ := hX
  intro H locs ls hP hS hl
  exact lv_ifnonnull hx hb dg ht (k H locs ls hP hS hl)
theorem g_ifnull (hX : Ok Z X cc nL own d) {x : Nat} {off : Int} (dg : decode cc pc = .ok (.ifnull off, 3)) (k : G Z X b (pc + 3) L st) : G Z X b pc L (.ref x :: st) := by
  obtain ⟨hx, hb, hml, hown, hts, hK, hrf, hrl, hcl, hsl⟩ := hX
  intro H locs ls hP hS hl
  exact lv_ifnull hx hb dg (k H locs ls hP hS hl)
theorem g_get (hX : Ok Z X cc nL own d) {C ref : String} {T : u_T} {N ci index i : Nat} {fs : List Value} {v : Value} (k0 : Nat) (hin : ∀ w ∈ u_ws C T N, w ∈ TB) (hi : i < NC) (he : sh Z i (b i) = .inr (ci, fs)) (hc : vwCl[ci]? = some (C, T, N)) (hk : k0 < N) (hw : Cond.fieldLink own index ref (T k0).2.1 (T k0).2.2.1 ∈ TB) (hrf0 : ref = (T k0).1) (hv : fs[k0]? = some v) (dg : decode cc pc = .ok (.getfield index, 3)) (k : G Z X b (pc + 3) L (v :: st)) : G Z X b pc L (.ref (zad Z i) :: st) := by
  obtain ⟨hx, hb, hml, hown, hts, hK, hrf, hrl, hcl, hsl⟩ := hX
  intro H locs ls hP hS hl
  exact va_get hx hb hts hin hown hK.1 hP i ((ww_get Z b hi).trans (by rw [he])) hc k0 hk (hts _ hw) (fun x9 h9 => by rw [hrf0]; exact h9) hv dg (k H locs ls hP hS hl)
theorem g_put (hX : Ok Z X cc nL own d) {C ref : String} {T : u_T} {N ci index i : Nat} {fs : List Value} {x : Int32} (ty0 : Nat → FieldType) (ty : FieldType) (k0 : Nat) (hin : ∀ w ∈ u_ws C T N, w ∈ TB) (hty : ∀ k, k < N → parseFieldDescriptor (T k).2.2.1 = some (ty0 k)) (hnm : ∀ a, a < N → ∀ b, b < N → a ≠ b → (T a).2.1 ≠ (T b).2.1) (hi : i < NC) (he : sh Z i (b i) = .inr (ci, fs)) (he2 : sh Z i (upd (b i) k0 x) = .inr (ci, fs.set k0 (.int x))) (hc : vwCl[ci]? = some (C, T, N)) (hk : k0 < N) (hw : Cond.fieldLink own index ref (T k0).2.1 (T k0).2.2.1 ∈ TB) (hrf0 : ref = (T k0).1) (hfin : (T k0).2.2.2 = false) (hd : parseFieldDescriptor (T k0).2.2.1 = some ty) (hn : narrow ty (.int x) = .int x) (hfit : fits ty (.int x) = true) (hfl : k0 < fs.length) (dg : decode cc pc = .ok (.putfield index, 3)) (k : G Z X (up2 b i k0 x) (pc + 3) L st) : G Z X b pc L (.int x :: .ref (zad Z i) :: st) := by
  obtain ⟨hx, hb, hml, hown, hts, hK, hrf, hrl, hcl, hsl⟩ := hX
  intro H locs ls hP hS hl
  refine va_put hx hb hts hin ty0 hty hnm hown hK.1 hP (hK.D b) hS i ((ww_get Z b hi).trans (by rw [he])) hc k0 hk (hts _ hw) (fun x9 h9 => by rw [hrf0]; exact h9) hfin hd hn hfit hfl dg (fun H1 locs1 hP1 _ hS1 => ?_)
  rw [ww_set Z b (upd (b i) k0 x) hi he2] at hP1
  exact k H1 locs1 ls hP1 hS1 hl
/-- cell i is a row of n ints -/
def isArr (Z : Zt) (i n : Nat) : Prop := i < NC ∧ ∀ f, sh Z i f = .inl (zcI Z, (n, .inl f))
theorem g_iald (hX : Ok Z X cc nL own d) {i n : Nat} {x : Int32} (hi : isArr Z i n) (hin : vp_in x n) (dg : decode cc pc = .ok (.iaload, 1)) (k : G Z X b (pc + 1) L (.int (b i x.toNatClampNeg) :: st)) : G Z X b pc L (.int x :: .ref (zad Z i) :: st) := by
  obtain ⟨hx, hb, hml, hown, hts, hK, hrf, hrl, hcl, hsl⟩ := hX
  intro H locs ls hP hS hl
  exact va_iald hx hb hK.1 hP i 0 ((ww_get Z b hi.1).trans (by rw [hi.2])) rfl hin dg (k H locs ls hP hS hl)
theorem g_iast (hX : Ok Z X cc nL own d) {i n : Nat} {x y : Int32} (hi : isArr Z i n) (hin : vp_in x n) (dg : decode cc pc = .ok (.iastore, 1)) (k : G Z X (up2 b i x.toNatClampNeg y) (pc + 1) L st) : G Z X b pc L (.int y :: .int x :: .ref (zad Z i) :: st) := by
  obtain ⟨hx, hb, hml, hown, hts, hK, hrf, hrl, hcl, hsl⟩ := hX
  intro H locs ls hP hS hl
  refine va_iast hx hb hK.1 hP (hK.D b) hS i 0 ((ww_get Z b hi.1).trans (by rw [hi.2])) rfl hin dg (fun H1 locs1 hP1 _ hS1 => ?_)
  rw [ww_set Z b (upd (b i) x.toNatClampNeg y) hi.1 (hi.2 _)] at hP1
  exact k H1 locs1 ls hP1 hS1 hl
theorem g_alen (hX : Ok Z X cc nL own d) {i n : Nat} (hi : isArr Z i n) (dg : decode cc pc = .ok (.arraylength, 1)) (k : G Z X b (pc + 1) L (.int (nI n) :: st)) : G Z X b pc L (.ref (zad Z i) :: st) := by
  obtain ⟨hx, hb, hml, hown, hts, hK, hrf, hrl, hcl, hsl⟩ := hX
  intro H locs ls hP hS hl
  exact va_alen (x := (n, .inl (b i))) hx hb hK.1 hP i 0 ((ww_get Z b hi.1).trans (by rw [hi.2])) rfl rfl dg (k H locs ls hP hS hl)
theorem g_aaload (hX : Ok Z X cc nL own d) {x : Int32} (hin : vp_in x 5) (dg : decode cc pc = .ok (.aaload, 1)) (k : G Z X b (pc + 1) L (.ref (zad Z (15 + 7 * x.toNatClampNeg)) :: st)) : G Z X b pc L (.int x :: .ref (zad Z 51) :: st) := by
  obtain ⟨hx, hb, hml, hown, hts, hK, hrf, hrl, hcl, hsl⟩ := hX
  intro H locs ls hP hS hl
  exact va_aldq hx hb hK.1 hP 51 1 (f := fun j => some (zad Z (15 + 7 * j))) ((ww_get Z b (by decide)).trans rfl) rfl hin dg (k H locs ls hP hS hl)
theorem g_alenB (hX : Ok Z X cc nL own d) (dg : decode cc pc = .ok (.arraylength, 1)) (k : G Z X b (pc + 1) L (.int 5 :: st)) : G Z X b pc L (.ref (zad Z 51) :: st) := by
  obtain ⟨hx, hb, hml, hown, hts, hK, hrf, hrl, hcl, hsl⟩ := hX
  intro H locs ls hP hS hl
  exact va_alen (ty := .object "SnakedBus$Bus") hx hb hK.1 hP 51 1 (x := (5, .inr (.inr (.inr (.inr (fun j => some (zad Z (15 + 7 * j)))))))) ((ww_get Z b (by decide)).trans rfl) rfl rfl dg (k H locs ls hP hS hl)
theorem g_sldL (hX : Ok Z X cc nL own d) {x : Int32} (hin : vp_in x 7) (dg : decode cc pc = .ok (.iaload, 1)) (k : G Z X b (pc + 1) L (.int (lowF x.toNatClampNeg) :: st)) : G Z X b pc L (.int x :: .ref (ztL Z) :: st) := by
  obtain ⟨hx, hb, hml, hown, hts, hK, hrf, hrl, hcl, hsl⟩ := hX
  intro H locs ls hP hS hl
  exact va_ti hx hb hK.2.2.2.2.1.2 hS hin rfl dg (k H locs ls hP hS hl)
theorem g_slenL (hX : Ok Z X cc nL own d) (dg : decode cc pc = .ok (.arraylength, 1)) (k : G Z X b (pc + 1) L (.int 7 :: st)) : G Z X b pc L (.ref (ztL Z) :: st) := by
  obtain ⟨hx, hb, hml, hown, hts, hK, hrf, hrl, hcl, hsl⟩ := hX
  intro H locs ls hP hS hl
  exact va_tlen hx hb hK.2.2.2.2.1.2 hS rfl dg (k H locs ls hP hS hl)
theorem g_getsL (hX : Ok Z X cc nL "SnakedBus$Bus" d) (dg : decode cc pc = .ok (.getstatic 74, 3)) (k : G Z X b (pc + 3) L (.ref (ztL Z) :: st)) : G Z X b pc L st := by
  obtain ⟨hx, hb, hml, hown, hts, hK, hrf, hrl, hcl, hsl⟩ := hX
  intro H locs ls hP hS hl
  exact va_getsN hx hb hK.2.2.2.2.1.1 hS hown (va_Nw.use rfl (hK.2.2.1 (74, "LOWEST") (by simp [nestF]))) (fun x9 h9 => h9) dg (k H locs ls hP hS hl)
theorem g_sldH (hX : Ok Z X cc nL own d) {x : Int32} (hin : vp_in x 7) (dg : decode cc pc = .ok (.iaload, 1)) (k : G Z X b (pc + 1) L (.int (higF x.toNatClampNeg) :: st)) : G Z X b pc L (.int x :: .ref (ztH Z) :: st) := by
  obtain ⟨hx, hb, hml, hown, hts, hK, hrf, hrl, hcl, hsl⟩ := hX
  intro H locs ls hP hS hl
  exact va_ti hx hb hK.2.2.2.2.2.2 hS hin rfl dg (k H locs ls hP hS hl)
theorem g_slenH (hX : Ok Z X cc nL own d) (dg : decode cc pc = .ok (.arraylength, 1)) (k : G Z X b (pc + 1) L (.int 7 :: st)) : G Z X b pc L (.ref (ztH Z) :: st) := by
  obtain ⟨hx, hb, hml, hown, hts, hK, hrf, hrl, hcl, hsl⟩ := hX
  intro H locs ls hP hS hl
  exact va_tlen hx hb hK.2.2.2.2.2.2 hS rfl dg (k H locs ls hP hS hl)
theorem g_getsH (hX : Ok Z X cc nL "SnakedBus$Bus" d) (dg : decode cc pc = .ok (.getstatic 77, 3)) (k : G Z X b (pc + 3) L (.ref (ztH Z) :: st)) : G Z X b pc L st := by
  obtain ⟨hx, hb, hml, hown, hts, hK, hrf, hrl, hcl, hsl⟩ := hX
  intro H locs ls hP hS hl
  exact va_getsN hx hb hK.2.2.2.2.2.1 hS hown (va_Nw.use rfl (hK.2.2.1 (77, "HIGHEST") (by simp [nestF]))) (fun x9 h9 => h9) dg (k H locs ls hP hS hl)
end RULES
end
section
/-! contracts: Con; from a walk to a contract; the calls -/
def bI (c : Prop) [Decidable c] : Int32 := if c then 1 else 0
theorem bI_t {c : Prop} [Decidable c] (h : c) : bI c = 1 := if_pos h
theorem bI_f {c : Prop} [Decidable c] (h : ¬ c) : bI c = 0 := if_neg h
theorem bI_n (c : Prop) [Decidable c] : narrow .boolean (.int (bI c)) = .int (bI c) := by
  unfold bI; split <;> rfl
theorem bI_fit (c : Prop) [Decidable c] : fits .boolean (.int (bI c)) = true := by
  unfold bI; split <;> rfl
def cQ (Z : Zt) (r : Option Value) (b' : Mem) : Array Value → State → Outcome → State → Prop := fun _ st o t => (o = .returned r ∧ va_P Z.2.1 vwCl (ww Z b') t.heap) ∧ va_F (AA Z) st t
def cP (Z : Zt) (b : Mem) : State → Prop := fun U => va_P Z.2.1 vwCl (ww Z b) U.heap ∧ KX Z U
/-- the method y, called with av over the memory b, answers r and leaves the memory b' -/
def Con (Z : Zt) (y : MethodName) (cc : ByteArray) (mL : Nat) (ret : Option FieldType) (d : Nat) (av : List Value) (b : Mem) (r : Option Value) (b' : Mem) : Prop :=
  Met Z.1 y (.code y cc mL ret :: TB) { frames := d, cells := 0, slots := 0, locals := 38 * d } (va_Pc av (cP Z b)) (cQ Z r b') 0 0 (AA Z)
theorem Con.eq {Z : Zt} {y : MethodName} {cc : ByteArray} {mL : Nat} {ret : Option FieldType} {d : Nat} {av : List Value} {b : Mem} {r r2 : Option Value} {b' b2 : Mem} (h : Con Z y cc mL ret d av b r b') (hr : r = r2) (hb : b' = b2) : Con Z y cc mL ret d av b r2 b2 := by
  subst hr; subst hb; exact h
section CON
variable {Z : Zt} {y : MethodName} {cc : ByteArray} {mL : Nat} {d : Nat} {av : List Value} {b : Mem} {b' : Mem} {L0 : List (Option Value)}
theorem con_i {v : Int32} (hy : plainName y.cls = true) (hn : (lg_sl av).length ≤ mL) (hL : entL av mL = L0) 
    (body : ∀ X : Xt, Ok Z X cc mL y.cls d → (∀ (pc : Nat) (L : List (Option Value)) (bb : Mem) (x : Int32), decode cc pc = .ok (.ireturn, 1) → bb = b' → x = v → G Z X bb pc L [.int x]) → G Z X b 0 L0 []) : Con Z y cc mL (some .int) d av b (some (.int v)) b' := by
  refine Met.ofW (cc := cc) (maxL := mL) (ret := (some .int)) hy rfl ?_
  intro p e s m args below meth c s₁ B hml hv
  obtain ⟨rfl, hP, hK⟩ := hv
  have hts := atoms_spec (ws := .code y cc mL (some .int) :: TB) B.pre
  rw [lg_entry_eq]
  have hlk := B.notSynchronized
  refine body (p, e, { frames := d, cells := 0, slots := 0, locals := 38 * d }, s, m, av.toArray, below, meth, c, (0, 0), MQ below (cQ Z (some (.int v)) b') av.toArray s 0 0 (AA Z)) ⟨B.exec, B.bytes, hml, findClass_of_methodNamed B.named, fun w hw => hts w (List.mem_cons_of_mem _ hw), hK, Nat.le_refl _, Nat.le_refl _, Nat.le_refl _, Nat.le_refl _⟩ ?_ s.heap [] _ hP va_S.rf (by rw [← hL]; exact lvk.entry av hn)
  intro pc L bb x dg hb hx
  subst hb; subst hx
  intro H locs ls hP hS hl
  exact W.iret B.exec B.bytes B.returns (fun t ht _ => ⟨⟨rfl, by rw [ht]; exact hP⟩, hS.F ht⟩) hS.2.2 dg
theorem con_z {v : Int32} (hy : plainName y.cls = true) (hn : (lg_sl av).length ≤ mL) (hL : entL av mL = L0) (hz : narrow .boolean (.int v) = .int v)
    (body : ∀ X : Xt, Ok Z X cc mL y.cls d → (∀ (pc : Nat) (L : List (Option Value)) (bb : Mem) (x : Int32), decode cc pc = .ok (.ireturn, 1) → bb = b' → x = v → G Z X bb pc L [.int x]) → G Z X b 0 L0 []) : Con Z y cc mL (some .boolean) d av b (some (.int v)) b' := by
  refine Met.ofW (cc := cc) (maxL := mL) (ret := (some .boolean)) hy rfl ?_
  intro p e s m args below meth c s₁ B hml hv
  obtain ⟨rfl, hP, hK⟩ := hv
  have hts := atoms_spec (ws := .code y cc mL (some .boolean) :: TB) B.pre
  rw [lg_entry_eq]
  have hlk := B.notSynchronized
  refine body (p, e, { frames := d, cells := 0, slots := 0, locals := 38 * d }, s, m, av.toArray, below, meth, c, (0, 0), MQ below (cQ Z (some (.int v)) b') av.toArray s 0 0 (AA Z)) ⟨B.exec, B.bytes, hml, findClass_of_methodNamed B.named, fun w hw => hts w (List.mem_cons_of_mem _ hw), hK, Nat.le_refl _, Nat.le_refl _, Nat.le_refl _, Nat.le_refl _⟩ ?_ s.heap [] _ hP va_S.rf (by rw [← hL]; exact lvk.entry av hn)
  intro pc L bb x dg hb hx
  subst hb; subst hx
  intro H locs ls hP hS hl
  exact W.zret B.exec B.bytes B.returns hz (fun t ht _ => ⟨⟨rfl, by rw [ht]; exact hP⟩, hS.F ht⟩) hS.2.2 dg
theorem con_l {v : Int64} (hy : plainName y.cls = true) (hn : (lg_sl av).length ≤ mL) (hL : entL av mL = L0) 
    (body : ∀ X : Xt, Ok Z X cc mL y.cls d → (∀ (pc : Nat) (L : List (Option Value)) (bb : Mem) (x : Int64), decode cc pc = .ok (.lreturn, 1) → bb = b' → x = v → G Z X bb pc L [.long x]) → G Z X b 0 L0 []) : Con Z y cc mL (some .long) d av b (some (.long v)) b' := by
  refine Met.ofW (cc := cc) (maxL := mL) (ret := (some .long)) hy rfl ?_
  intro p e s m args below meth c s₁ B hml hv
  obtain ⟨rfl, hP, hK⟩ := hv
  have hts := atoms_spec (ws := .code y cc mL (some .long) :: TB) B.pre
  rw [lg_entry_eq]
  have hlk := B.notSynchronized
  refine body (p, e, { frames := d, cells := 0, slots := 0, locals := 38 * d }, s, m, av.toArray, below, meth, c, (0, 0), MQ below (cQ Z (some (.long v)) b') av.toArray s 0 0 (AA Z)) ⟨B.exec, B.bytes, hml, findClass_of_methodNamed B.named, fun w hw => hts w (List.mem_cons_of_mem _ hw), hK, Nat.le_refl _, Nat.le_refl _, Nat.le_refl _, Nat.le_refl _⟩ ?_ s.heap [] _ hP va_S.rf (by rw [← hL]; exact lvk.entry av hn)
  intro pc L bb x dg hb hx
  subst hb; subst hx
  intro H locs ls hP hS hl
  exact W.lret B.exec B.bytes B.returns (fun t ht _ => ⟨⟨rfl, by rw [ht]; exact hP⟩, hS.F ht⟩) hS.2.2 dg
theorem con_v (hy : plainName y.cls = true) (hn : (lg_sl av).length ≤ mL) (hL : entL av mL = L0) 
    (body : ∀ X : Xt, Ok Z X cc mL y.cls d → (∀ (pc : Nat) (L : List (Option Value)) (bb : Mem), decode cc pc = .ok (.return_, 1) → bb = b' → G Z X bb pc L []) → G Z X b 0 L0 []) : Con Z y cc mL none d av b none b' := by
  refine Met.ofW (cc := cc) (maxL := mL) (ret := none) hy rfl ?_
  intro p e s m args below meth c s₁ B hml hv
  obtain ⟨rfl, hP, hK⟩ := hv
  have hts := atoms_spec (ws := .code y cc mL none :: TB) B.pre
  rw [lg_entry_eq]
  have hlk := B.notSynchronized
  refine body (p, e, { frames := d, cells := 0, slots := 0, locals := 38 * d }, s, m, av.toArray, below, meth, c, (0, 0), MQ below (cQ Z none b') av.toArray s 0 0 (AA Z)) ⟨B.exec, B.bytes, hml, findClass_of_methodNamed B.named, fun w hw => hts w (List.mem_cons_of_mem _ hw), hK, Nat.le_refl _, Nat.le_refl _, Nat.le_refl _, Nat.le_refl _⟩ ?_ s.heap [] _ hP va_S.rf (by rw [← hL]; exact lvk.entry av hn)
  intro pc L bb dg hb
  subst hb
  intro H locs ls hP hS hl
  exact W.vret B.exec B.bytes B.returns (fun t ht _ => ⟨⟨rfl, by rw [ht]; exact hP⟩, hS.F ht⟩) hS.2.2 dg
theorem con_a {v : Nat} {C : String} (hy : plainName y.cls = true) (hn : (lg_sl av).length ≤ mL) (hL : entL av mL = L0) 
    (body : ∀ X : Xt, Ok Z X cc mL y.cls d → (∀ (pc : Nat) (L : List (Option Value)) (bb : Mem) (x : Nat), decode cc pc = .ok (.areturn, 1) → bb = b' → x = v → G Z X bb pc L [.ref x]) → G Z X b 0 L0 []) : Con Z y cc mL (some (.object C)) d av b (some (.ref v)) b' := by
  refine Met.ofW (cc := cc) (maxL := mL) (ret := (some (.object C))) hy rfl ?_
  intro p e s m args below meth c s₁ B hml hv
  obtain ⟨rfl, hP, hK⟩ := hv
  have hts := atoms_spec (ws := .code y cc mL (some (.object C)) :: TB) B.pre
  rw [lg_entry_eq]
  have hlk := B.notSynchronized
  refine body (p, e, { frames := d, cells := 0, slots := 0, locals := 38 * d }, s, m, av.toArray, below, meth, c, (0, 0), MQ below (cQ Z (some (.ref v)) b') av.toArray s 0 0 (AA Z)) ⟨B.exec, B.bytes, hml, findClass_of_methodNamed B.named, fun w hw => hts w (List.mem_cons_of_mem _ hw), hK, Nat.le_refl _, Nat.le_refl _, Nat.le_refl _, Nat.le_refl _⟩ ?_ s.heap [] _ hP va_S.rf (by rw [← hL]; exact lvk.entry av hn)
  intro pc L bb x dg hb hx
  subst hb; subst hx
  intro H locs ls hP hS hl
  exact W.aret B.exec B.bytes B.returns (Or.inl ⟨_, rfl⟩) (Or.inr ⟨_, rfl⟩) (fun t ht _ => ⟨⟨rfl, by rw [ht]; exact hP⟩, hS.F ht⟩) hS.2.2 dg
end CON
/-- what a call needs of the tables for a method -/
def mokB (y : MethodName) (cc : ByteArray) (mL : Nat) (ret : Option FieldType) (n : Nat) : Prop := Cond.code y cc mL ret ∈ TB ∧ Cond.initialized y.cls ∈ TB ∧ (y.cls ≠ "java/lang/invoke/MethodHandle" ∧ y.cls ≠ "java/lang/invoke/VarHandle" ∧ (parseMethodDescriptor y.desc).map (fun d => d.parameters.length) = some n) ∧ mL ≤ 19
def mokI (y : MethodName) (cc : ByteArray) (mL : Nat) (ret : Option FieldType) (n : Nat) : Prop := mokB y cc mL ret n ∧ Cond.instanceMethod y ∈ TB ∧ Cond.selects y.cls y y ∈ TB
def mokS (y : MethodName) (cc : ByteArray) (mL : Nat) (ret : Option FieldType) (n : Nat) : Prop := mokB y cc mL ret n ∧ Cond.static y ∈ TB
/-- cell i is an object of class C -/
def isObj (Z : Zt) (b : Mem) (i : Nat) (C : String) : Prop := i < NC ∧ ∃ (ci : Nat) (fs : List Value) (T : u_T) (N : Nat), sh Z i (b i) = .inr (ci, fs) ∧ vwCl[ci]? = some (C, T, N)
theorem cP_blind (Z : Zt) (b : Mem) (av : List Value) : FrameBlind (va_Pc av (cP Z b)) := fun a U g mk q => ⟨q.1, q.2.1, q.2.2.calling g mk a⟩
section CALLS
variable {Z : Zt} {X : Xt} {cc : ByteArray} {nL d : Nat} {own : String} {b b' : Mem} {pc : Nat} {L : List (Option Value)} {st rest : List Value} {r : Option Value}
theorem g_run (hrun : ∀ (H : Heap) (locs : List Loc) (ls : Array Slot), va_P Z.2.1 vwCl (ww Z b) H → va_S (AA Z) X.2.2.2.1.heap H locs → lvk ls L → ∃ a : Array Value,
    va_Run X.1 Z.1 X.2.1 X.2.2.1 X.2.2.2.1 X.2.2.2.2.1 X.2.2.2.2.2.1 X.2.2.2.2.2.2.1 X.2.2.2.2.2.2.2.1 X.2.2.2.2.2.2.2.2.1 H locs X.2.2.2.2.2.2.2.2.2.1.1 X.2.2.2.2.2.2.2.2.2.1.2 0 0 (F0 X.2.2.2.2.1 pc ls st) rest (cQ Z r b' a) (AA Z))
    (k : G Z X b' (pc + 3) L (r.toList ++ rest)) : G Z X b pc L st := by
  intro H locs ls hP hS hl T hT XX
  obtain ⟨a, hr⟩ := hrun H locs ls hP hS hl
  obtain ⟨v, st₀, t, T', L', h0, X', hL, e1, e2, ⟨⟨hv, hP'⟩, hz, hk⟩, sst⟩ := hr T hT XX
  have hv : v = r := by injection hv
  subst hv
  rw [h0] at hz hk
  obtain ⟨t2, a1, b1⟩ := k T'.heap (locs ++ L') ls (by rw [e1]; exact hP')
    ⟨Nat.le_trans hS.1 (by rw [e1]; exact hz), fun q h1 h2 => by rw [e1, hk q (Nat.lt_of_lt_of_le h1 hS.1) h2]; exact hS.2.1 q h1 h2, fun q hq => by
      rcases List.mem_append.mp hq with h | h
      · exact hS.2.2 q h
      · exact hL q h⟩ hl T' rfl X'
  exact ⟨t2, sst t2 a1, b1⟩
theorem g_callV {y : MethodName} {cy : ByteArray} {mL n d' i index : Nat} {ret : Option FieldType} {As : List Value} (hX : Ok Z X cc nL own d) (hm : mokI y cy mL ret n) (hl0 : Cond.methodLink own index y ∈ TB) (hC : Con Z y cy mL ret d' (.ref (zad Z i) :: As) b r b') (ho : isObj Z b i y.cls) (hLn : L.length = nL) (hd : d' + 1 ≤ d) (hn : As.length = n) (hw : (rest.map fun v => v.category).sum ≤ 8) (hst : st = As.reverse ++ .ref (zad Z i) :: rest) (dg : decode cc pc = .ok (.invokevirtual index, 3))
    (k : G Z X b' (pc + 3) L (r.toList ++ rest)) : G Z X b pc L st := by
  obtain ⟨hx, hb, hml, hown, hts, hK, hrf, hrl, hcl, hsl⟩ := hX
  obtain ⟨⟨m1, m2, m3, m4⟩, m5, m6⟩ := hm
  obtain ⟨hi, ci, fs, T, N, ho1, ho2⟩ := ho
  refine g_run (fun H locs ls hP hS hl => ⟨(Value.ref (zad Z i) :: As).toArray, ?_⟩) k
  exact va_runV (Ts := TB) (As := As) (rest := rest) (n := n) (nL := nL) ⟨hx, hb, hml, hown, hts⟩ hC ⟨callB_of n hts (tb_code m1) rfl rfl rfl (hts _ m2) (hts _ hl0) m3 ⟨by show d' + 1 ≤ _; omega, by show 8 + (mL + 11) + 38 * d' ≤ _; omega⟩, hts _ m5, hts _ m6⟩
    ⟨cP_blind Z b _, va_recv hK.1 hP ho2 ((ww_get Z b hi).trans (by rw [ho1])), fun U hU hW => ⟨rfl, by rw [hU]; exact hP, hK.to hS hU hW⟩⟩ rfl hn (hl.1.trans hLn) hst (lv_room hw) dg ⟨hcl, hsl⟩
theorem g_callS {y : MethodName} {cy : ByteArray} {mL n d' index : Nat} {ret : Option FieldType} {As : List Value} (hX : Ok Z X cc nL own d) (hm : mokS y cy mL ret n) (hl0 : Cond.methodLink own index y ∈ TB) (hC : Con Z y cy mL ret d' As b r b') (hLn : L.length = nL) (hd : d' + 1 ≤ d) (hn : As.length = n) (hw : (rest.map fun v => v.category).sum ≤ 8) (hst : st = As.reverse ++ rest) (dg : decode cc pc = .ok (.invokestatic index, 3))
    (k : G Z X b' (pc + 3) L (r.toList ++ rest)) : G Z X b pc L st := by
  obtain ⟨hx, hb, hml, hown, hts, hK, hrf, hrl, hcl, hsl⟩ := hX
  obtain ⟨⟨m1, m2, m3, m4⟩, m5⟩ := hm
  refine g_run (fun H locs ls hP hS hl => ⟨As.toArray, ?_⟩) k
  exact va_runS (Ts := TB) (As := As) (rest := rest) (n := n) (nL := nL) ⟨hx, hb, hml, hown, hts⟩ hC ⟨callB_of n hts (tb_code m1) rfl rfl rfl (hts _ m2) (hts _ hl0) m3 ⟨by show d' + 1 ≤ _; omega, by show 8 + (mL + 11) + 38 * d' ≤ _; omega⟩, hts _ m5⟩
    ⟨cP_blind Z b _, fun U hU hW => ⟨rfl, by rw [hU]; exact hP, hK.to hS hU hW⟩⟩ rfl hn (hl.1.trans hLn) hst (lv_room hw) dg ⟨hcl, hsl⟩
theorem g_callN {y : MethodName} {cy : ByteArray} {mL n d' index : Nat} {ret : Option FieldType} {As : List Value} (hX : Ok Z X cc nL own d) (hm : mokS y cy mL ret n) (hl0 : (own, index, y) ∈ nestM) (hC : Con Z y cy mL ret d' As b r b') (hLn : L.length = nL) (hd : d' + 1 ≤ d) (hn : As.length = n) (hw : (rest.map fun v => v.category).sum ≤ 8) (hst : st = As.reverse ++ rest) (dg : decode cc pc = .ok (.invokestatic index, 3))
    (k : G Z X b' (pc + 3) L (r.toList ++ rest)) : G Z X b pc L st := by
  obtain ⟨hx, hb, hml, hown, hts, hK, hrf, hrl, hcl, hsl⟩ := hX
  obtain ⟨⟨m1, m2, m3, m4⟩, m5⟩ := hm
  refine g_run (fun H locs ls hP hS hl => ⟨As.toArray, ?_⟩) k
  exact va_runSN (Ts := TB) (As := As) (rest := rest) (n := n) (nL := nL) ⟨hx, hb, hml, hown, hts⟩ hC ⟨va_cnB n hts (tb_code m1) rfl rfl rfl (hK.2.1 _ hl0) (hts _ m2) m3 ⟨by show d' + 1 ≤ _; omega, by show 8 + (mL + 11) + 38 * d' ≤ _; omega⟩, hts _ m5, trivial⟩
    ⟨cP_blind Z b _, fun U hU hW => ⟨rfl, by rw [hU]; exact hP, hK.to hS hU hW⟩⟩ rfl hn (hl.1.trans hLn) hst (lv_room hw) dg ⟨hcl, hsl⟩
theorem g_cV0r {y : MethodName} {cy : ByteArray} {mL d' i index : Nat} {ret : Option FieldType} {w : Value} (hX : Ok Z X cc nL own d) (hm : mokI y cy mL ret 0) (hl0 : Cond.methodLink own index y ∈ TB) (hC : Con Z y cy mL ret d' (.ref (zad Z i) :: []) b (some w) b') (ho : isObj Z b i y.cls) (dg : decode cc pc = .ok (.invokevirtual index, 3)) (hLn : L.length = nL) (hd : d' + 1 ≤ d) (hw : (rest.map fun v => v.category).sum ≤ 8) (k : G Z X b' (pc + 3) L (w :: rest)) : G Z X b pc L (.ref (zad Z i) :: rest) :=
  g_callV hX hm hl0 hC ho hLn hd rfl hw rfl dg k
theorem g_cS0r {y : MethodName} {cy : ByteArray} {mL d' index : Nat} {ret : Option FieldType} {w : Value} (hX : Ok Z X cc nL own d) (hm : mokS y cy mL ret 0) (hl0 : Cond.methodLink own index y ∈ TB) (hC : Con Z y cy mL ret d' [] b (some w) b') (dg : decode cc pc = .ok (.invokestatic index, 3)) (hLn : L.length = nL) (hd : d' + 1 ≤ d) (hw : (rest.map fun v => v.category).sum ≤ 8) (k : G Z X b' (pc + 3) L (w :: rest)) : G Z X b pc L (rest) :=
  g_callS hX hm hl0 hC hLn hd rfl hw rfl dg k
theorem g_cN0r {y : MethodName} {cy : ByteArray} {mL d' index : Nat} {ret : Option FieldType} {w : Value} (hX : Ok Z X cc nL own d) (hm : mokS y cy mL ret 0) (hl0 : (own, index, y) ∈ nestM) (hC : Con Z y cy mL ret d' [] b (some w) b') (dg : decode cc pc = .ok (.invokestatic index, 3)) (hLn : L.length = nL) (hd : d' + 1 ≤ d) (hw : (rest.map fun v => v.category).sum ≤ 8) (k : G Z X b' (pc + 3) L (w :: rest)) : G Z X b pc L (rest) :=
  g_callN hX hm hl0 hC hLn hd rfl hw rfl dg k
theorem g_cV0v {y : MethodName} {cy : ByteArray} {mL d' i index : Nat} {ret : Option FieldType} (hX : Ok Z X cc nL own d) (hm : mokI y cy mL ret 0) (hl0 : Cond.methodLink own index y ∈ TB) (hC : Con Z y cy mL ret d' (.ref (zad Z i) :: []) b none b') (ho : isObj Z b i y.cls) (dg : decode cc pc = .ok (.invokevirtual index, 3)) (hLn : L.length = nL) (hd : d' + 1 ≤ d) (hw : (rest.map fun v => v.category).sum ≤ 8) (k : G Z X b' (pc + 3) L rest) : G Z X b pc L (.ref (zad Z i) :: rest) :=
  g_callV hX hm hl0 hC ho hLn hd rfl hw rfl dg k
theorem g_cS0v {y : MethodName} {cy : ByteArray} {mL d' index : Nat} {ret : Option FieldType} (hX : Ok Z X cc nL own d) (hm : mokS y cy mL ret 0) (hl0 : Cond.methodLink own index y ∈ TB) (hC : Con Z y cy mL ret d' [] b none b') (dg : decode cc pc = .ok (.invokestatic index, 3)) (hLn : L.length = nL) (hd : d' + 1 ≤ d) (hw : (rest.map fun v => v.category).sum ≤ 8) (k : G Z X b' (pc + 3) L rest) : G Z X b pc L (rest) :=
  g_callS hX hm hl0 hC hLn hd rfl hw rfl dg k
theorem g_cN0v {y : MethodName} {cy : ByteArray} {mL d' index : Nat} {ret : Option FieldType} (hX : Ok Z X cc nL own d) (hm : mokS y cy mL ret 0) (hl0 : (own, index, y) ∈ nestM) (hC : Con Z y cy mL ret d' [] b none b') (dg : decode cc pc = .ok (.invokestatic index, 3)) (hLn : L.length = nL) (hd : d' + 1 ≤ d) (hw : (rest.map fun v => v.category).sum ≤ 8) (k : G Z X b' (pc + 3) L rest) : G Z X b pc L (rest) :=
  g_callN hX hm hl0 hC hLn hd rfl hw rfl dg k
theorem g_cV1r {y : MethodName} {cy : ByteArray} {mL d' i index : Nat} {ret : Option FieldType} {v1 : Value} {w : Value} (hX : Ok Z X cc nL own d) (hm : mokI y cy mL ret 1) (hl0 : Cond.methodLink own index y ∈ TB) (hC : Con Z y cy mL ret d' (.ref (zad Z i) :: [v1]) b (some w) b') (ho : isObj Z b i y.cls) (dg : decode cc pc = .ok (.invokevirtual index, 3)) (hLn : L.length = nL) (hd : d' + 1 ≤ d) (hw : (rest.map fun v => v.category).sum ≤ 8) (k : G Z X b' (pc + 3) L (w :: rest)) : G Z X b pc L (v1 :: .ref (zad Z i) :: rest) :=
  g_callV hX hm hl0 hC ho hLn hd rfl hw rfl dg k
theorem g_cS1r {y : MethodName} {cy : ByteArray} {mL d' index : Nat} {ret : Option FieldType} {v1 : Value} {w : Value} (hX : Ok Z X cc nL own d) (hm : mokS y cy mL ret 1) (hl0 : Cond.methodLink own index y ∈ TB) (hC : Con Z y cy mL ret d' [v1] b (some w) b') (dg : decode cc pc = .ok (.invokestatic index, 3)) (hLn : L.length = nL) (hd : d' + 1 ≤ d) (hw : (rest.map fun v => v.category).sum ≤ 8) (k : G Z X b' (pc + 3) L (w :: rest)) : G Z X b pc L (v1 :: rest) :=
  g_callS hX hm hl0 hC hLn hd rfl hw rfl dg k
theorem g_cN1r {y : MethodName} {cy : ByteArray} {mL d' index : Nat} {ret : Option FieldType} {v1 : Value} {w : Value} (hX : Ok Z X cc nL own d) (hm : mokS y cy mL ret 1) (hl0 : (own, index, y) ∈ nestM) (hC : Con Z y cy mL ret d' [v1] b (some w) b') (dg : decode cc pc = .ok (.invokestatic index, 3)) (hLn : L.length = nL) (hd : d' + 1 ≤ d) (hw : (rest.map fun v => v.category).sum ≤ 8) (k : G Z X b' (pc + 3) L (w :: rest)) : G Z X b pc L (v1 :: rest) :=
  g_callN hX hm hl0 hC hLn hd rfl hw rfl dg k
theorem g_cV1v {y : MethodName} {cy : ByteArray} {mL d' i index : Nat} {ret : Option FieldType} {v1 : Value} (hX : Ok Z X cc nL own d) (hm : mokI y cy mL ret 1) (hl0 : Cond.methodLink own index y ∈ TB) (hC : Con Z y cy mL ret d' (.ref (zad Z i) :: [v1]) b none b') (ho : isObj Z b i y.cls) (dg : decode cc pc = .ok (.invokevirtual index, 3)) (hLn : L.length = nL) (hd : d' + 1 ≤ d) (hw : (rest.map fun v => v.category).sum ≤ 8) (k : G Z X b' (pc + 3) L rest) : G Z X b pc L (v1 :: .ref (zad Z i) :: rest) :=
  g_callV hX hm hl0 hC ho hLn hd rfl hw rfl dg k
theorem g_cS1v {y : MethodName} {cy : ByteArray} {mL d' index : Nat} {ret : Option FieldType} {v1 : Value} (hX : Ok Z X cc nL own d) (hm : mokS y cy mL ret 1) (hl0 : Cond.methodLink own index y ∈ TB) (hC : Con Z y cy mL ret d' [v1] b none b') (dg : decode cc pc = .ok (.invokestatic index, 3)) (hLn : L.length = nL) (hd : d' + 1 ≤ d) (hw : (rest.map fun v => v.category).sum ≤ 8) (k : G Z X b' (pc + 3) L rest) : G Z X b pc L (v1 :: rest) :=
  g_callS hX hm hl0 hC hLn hd rfl hw rfl dg k
theorem g_cN1v {y : MethodName} {cy : ByteArray} {mL d' index : Nat} {ret : Option FieldType} {v1 : Value} (hX : Ok Z X cc nL own d) (hm : mokS y cy mL ret 1) (hl0 : (own, index, y) ∈ nestM) (hC : Con Z y cy mL ret d' [v1] b none b') (dg : decode cc pc = .ok (.invokestatic index, 3)) (hLn : L.length = nL) (hd : d' + 1 ≤ d) (hw : (rest.map fun v => v.category).sum ≤ 8) (k : G Z X b' (pc + 3) L rest) : G Z X b pc L (v1 :: rest) :=
  g_callN hX hm hl0 hC hLn hd rfl hw rfl dg k
theorem g_cV2r {y : MethodName} {cy : ByteArray} {mL d' i index : Nat} {ret : Option FieldType} {v1 v2 : Value} {w : Value} (hX : Ok Z X cc nL own d) (hm : mokI y cy mL ret 2) (hl0 : Cond.methodLink own index y ∈ TB) (hC : Con Z y cy mL ret d' (.ref (zad Z i) :: [v1, v2]) b (some w) b') (ho : isObj Z b i y.cls) (dg : decode cc pc = .ok (.invokevirtual index, 3)) (hLn : L.length = nL) (hd : d' + 1 ≤ d) (hw : (rest.map fun v => v.category).sum ≤ 8) (k : G Z X b' (pc + 3) L (w :: rest)) : G Z X b pc L (v2 :: v1 :: .ref (zad Z i) :: rest) :=
  g_callV hX hm hl0 hC ho hLn hd rfl hw rfl dg k
theorem g_cS2r {y : MethodName} {cy : ByteArray} {mL d' index : Nat} {ret : Option FieldType} {v1 v2 : Value} {w : Value} (hX : Ok Z X cc nL own d) (hm : mokS y cy mL ret 2) (hl0 : Cond.methodLink own index y ∈ TB) (hC : Con Z y cy mL ret d' [v1, v2] b (some w) b') (dg : decode cc pc = .ok (.invokestatic index, 3)) (hLn : L.length = nL) (hd : d' + 1 ≤ d) (hw : (rest.map fun v => v.category).sum ≤ 8) (k : G Z X b' (pc + 3) L (w :: rest)) : G Z X b pc L (v2 :: v1 :: rest) :=
  g_callS hX hm hl0 hC hLn hd rfl hw rfl dg k
theorem g_cN2r {y : MethodName} {cy : ByteArray} {mL d' index : Nat} {ret : Option FieldType} {v1 v2 : Value} {w : Value} (hX : Ok Z X cc nL own d) (hm : mokS y cy mL ret 2) (hl0 : (own, index, y) ∈ nestM) (hC : Con Z y cy mL ret d' [v1, v2] b (some w) b') (dg : decode cc pc = .ok (.invokestatic index, 3)) (hLn : L.length = nL) (hd : d' + 1 ≤ d) (hw : (rest.map fun v => v.category).sum ≤ 8) (k : G Z X b' (pc + 3) L (w :: rest)) : G Z X b pc L (v2 :: v1 :: rest) :=
  g_callN hX hm hl0 hC hLn hd rfl hw rfl dg k
theorem g_cV2v {y : MethodName} {cy : ByteArray} {mL d' i index : Nat} {ret : Option FieldType} {v1 v2 : Value} (hX : Ok Z X cc nL own d) (hm : mokI y cy mL ret 2) (hl0 : Cond.methodLink own index y ∈ TB) (hC : Con Z y cy mL ret d' (.ref (zad Z i) :: [v1, v2]) b none b') (ho : isObj Z b i y.cls) (dg : decode cc pc = .ok (.invokevirtual index, 3)) (hLn : L.length = nL) (hd : d' + 1 ≤ d) (hw : (rest.map fun v => v.category).sum ≤ 8) (k : G Z X b' (pc + 3) L rest) : G Z X b pc L (v2 :: v1 :: .ref (zad Z i) :: rest) :=
  g_callV hX hm hl0 hC ho hLn hd rfl hw rfl dg k
theorem g_cS2v {y : MethodName} {cy : ByteArray} {mL d' index : Nat} {ret : Option FieldType} {v1 v2 : Value} (hX : Ok Z X cc nL own d) (hm : mokS y cy mL ret 2) (hl0 : Cond.methodLink own index y ∈ TB) (hC : Con Z y cy mL ret d' [v1, v2] b none b') (dg : decode cc pc = .ok (.invokestatic index, 3)) (hLn : L.length = nL) (hd : d' + 1 ≤ d) (hw : (rest.map fun v => v.category).sum ≤ 8) (k : G Z X b' (pc + 3) L rest) : G Z X b pc L (v2 :: v1 :: rest) :=
  g_callS hX hm hl0 hC hLn hd rfl hw rfl dg k
theorem g_cN2v {y : MethodName} {cy : ByteArray} {mL d' index : Nat} {ret : Option FieldType} {v1 v2 : Value} (hX : Ok Z X cc nL own d) (hm : mokS y cy mL ret 2) (hl0 : (own, index, y) ∈ nestM) (hC : Con Z y cy mL ret d' [v1, v2] b none b') (dg : decode cc pc = .ok (.invokestatic index, 3)) (hLn : L.length = nL) (hd : d' + 1 ≤ d) (hw : (rest.map fun v => v.category).sum ≤ 8) (k : G Z X b' (pc + 3) L rest) : G Z X b pc L (v2 :: v1 :: rest) :=
  g_callN hX hm hl0 hC hLn hd rfl hw rfl dg k
theorem g_cV3r {y : MethodName} {cy : ByteArray} {mL d' i index : Nat} {ret : Option FieldType} {v1 v2 v3 : Value} {w : Value} (hX : Ok Z X cc nL own d) (hm : mokI y cy mL ret 3) (hl0 : Cond.methodLink own index y ∈ TB) (hC : Con Z y cy mL ret d' (.ref (zad Z i) :: [v1, v2, v3]) b (some w) b') (ho : isObj Z b i y.cls) (dg : decode cc pc = .ok (.invokevirtual index, 3)) (hLn : L.length = nL) (hd : d' + 1 ≤ d) (hw : (rest.map fun v => v.category).sum ≤ 8) (k : G Z X b' (pc + 3) L (w :: rest)) : G Z X b pc L (v3 :: v2 :: v1 :: .ref (zad Z i) :: rest) :=
  g_callV hX hm hl0 hC ho hLn hd rfl hw rfl dg k
theorem g_cS3r {y : MethodName} {cy : ByteArray} {mL d' index : Nat} {ret : Option FieldType} {v1 v2 v3 : Value} {w : Value} (hX : Ok Z X cc nL own d) (hm : mokS y cy mL ret 3) (hl0 : Cond.methodLink own index y ∈ TB) (hC : Con Z y cy mL ret d' [v1, v2, v3] b (some w) b') (dg : decode cc pc = .ok (.invokestatic index, 3)) (hLn : L.length = nL) (hd : d' + 1 ≤ d) (hw : (rest.map fun v => v.category).sum ≤ 8) (k : G Z X b' (pc + 3) L (w :: rest)) : G Z X b pc L (v3 :: v2 :: v1 :: rest) :=
  g_callS hX hm hl0 hC hLn hd rfl hw rfl dg k
theorem g_cN3r {y : MethodName} {cy : ByteArray} {mL d' index : Nat} {ret : Option FieldType} {v1 v2 v3 : Value} {w : Value} (hX : Ok Z X cc nL own d) (hm : mokS y cy mL ret 3) (hl0 : (own, index, y) ∈ nestM) (hC : Con Z y cy mL ret d' [v1, v2, v3] b (some w) b') (dg : decode cc pc = .ok (.invokestatic index, 3)) (hLn : L.length = nL) (hd : d' + 1 ≤ d) (hw : (rest.map fun v => v.category).sum ≤ 8) (k : G Z X b' (pc + 3) L (w :: rest)) : G Z X b pc L (v3 :: v2 :: v1 :: rest) :=
  g_callN hX hm hl0 hC hLn hd rfl hw rfl dg k
theorem g_cV3v {y : MethodName} {cy : ByteArray} {mL d' i index : Nat} {ret : Option FieldType} {v1 v2 v3 : Value} (hX : Ok Z X cc nL own d) (hm : mokI y cy mL ret 3) (hl0 : Cond.methodLink own index y ∈ TB) (hC : Con Z y cy mL ret d' (.ref (zad Z i) :: [v1, v2, v3]) b none b') (ho : isObj Z b i y.cls) (dg : decode cc pc = .ok (.invokevirtual index, 3)) (hLn : L.length = nL) (hd : d' + 1 ≤ d) (hw : (rest.map fun v => v.category).sum ≤ 8) (k : G Z X b' (pc + 3) L rest) : G Z X b pc L (v3 :: v2 :: v1 :: .ref (zad Z i) :: rest) :=
  g_callV hX hm hl0 hC ho hLn hd rfl hw rfl dg k
theorem g_cS3v {y : MethodName} {cy : ByteArray} {mL d' index : Nat} {ret : Option FieldType} {v1 v2 v3 : Value} (hX : Ok Z X cc nL own d) (hm : mokS y cy mL ret 3) (hl0 : Cond.methodLink own index y ∈ TB) (hC : Con Z y cy mL ret d' [v1, v2, v3] b none b') (dg : decode cc pc = .ok (.invokestatic index, 3)) (hLn : L.length = nL) (hd : d' + 1 ≤ d) (hw : (rest.map fun v => v.category).sum ≤ 8) (k : G Z X b' (pc + 3) L rest) : G Z X b pc L (v3 :: v2 :: v1 :: rest) :=
  g_callS hX hm hl0 hC hLn hd rfl hw rfl dg k
theorem g_cN3v {y : MethodName} {cy : ByteArray} {mL d' index : Nat} {ret : Option FieldType} {v1 v2 v3 : Value} (hX : Ok Z X cc nL own d) (hm : mokS y cy mL ret 3) (hl0 : (own, index, y) ∈ nestM) (hC : Con Z y cy mL ret d' [v1, v2, v3] b none b') (dg : decode cc pc = .ok (.invokestatic index, 3)) (hLn : L.length = nL) (hd : d' + 1 ≤ d) (hw : (rest.map fun v => v.category).sum ≤ 8) (k : G Z X b' (pc + 3) L rest) : G Z X b pc L (v3 :: v2 :: v1 :: rest) :=
  g_callN hX hm hl0 hC hLn hd rfl hw rfl dg k
theorem g_cV4r {y : MethodName} {cy : ByteArray} {mL d' i index : Nat} {ret : Option FieldType} {v1 v2 v3 v4 : Value} {w : Value} (hX : Ok Z X cc nL own d) (hm : mokI y cy mL ret 4) (hl0 : Cond.methodLink own index y ∈ TB) (hC : Con Z y cy mL ret d' (.ref (zad Z i) :: [v1, v2, v3, v4]) b (some w) b') (ho : isObj Z b i y.cls) (dg : decode cc pc = .ok (.invokevirtual index, 3)) (hLn : L.length = nL) (hd : d' + 1 ≤ d) (hw : (rest.map fun v => v.category).sum ≤ 8) (k : G Z X b' (pc + 3) L (w :: rest)) : G Z X b pc L (v4 :: v3 :: v2 :: v1 :: .ref (zad Z i) :: rest) :=
  g_callV hX hm hl0 hC ho hLn hd rfl hw rfl dg k
theorem g_cS4r {y : MethodName} {cy : ByteArray} {mL d' index : Nat} {ret : Option FieldType} {v1 v2 v3 v4 : Value} {w : Value} (hX : Ok Z X cc nL own d) (hm : mokS y cy mL ret 4) (hl0 : Cond.methodLink own index y ∈ TB) (hC : Con Z y cy mL ret d' [v1, v2, v3, v4] b (some w) b') (dg : decode cc pc = .ok (.invokestatic index, 3)) (hLn : L.length = nL) (hd : d' + 1 ≤ d) (hw : (rest.map fun v => v.category).sum ≤ 8) (k : G Z X b' (pc + 3) L (w :: rest)) : G Z X b pc L (v4 :: v3 :: v2 :: v1 :: rest) :=
  g_callS hX hm hl0 hC hLn hd rfl hw rfl dg k
theorem g_cN4r {y : MethodName} {cy : ByteArray} {mL d' index : Nat} {ret : Option FieldType} {v1 v2 v3 v4 : Value} {w : Value} (hX : Ok Z X cc nL own d) (hm : mokS y cy mL ret 4) (hl0 : (own, index, y) ∈ nestM) (hC : Con Z y cy mL ret d' [v1, v2, v3, v4] b (some w) b') (dg : decode cc pc = .ok (.invokestatic index, 3)) (hLn : L.length = nL) (hd : d' + 1 ≤ d) (hw : (rest.map fun v => v.category).sum ≤ 8) (k : G Z X b' (pc + 3) L (w :: rest)) : G Z X b pc L (v4 :: v3 :: v2 :: v1 :: rest) :=
  g_callN hX hm hl0 hC hLn hd rfl hw rfl dg k
theorem g_cV4v {y : MethodName} {cy : ByteArray} {mL d' i index : Nat} {ret : Option FieldType} {v1 v2 v3 v4 : Value} (hX : Ok Z X cc nL own d) (hm : mokI y cy mL ret 4) (hl0 : Cond.methodLink own index y ∈ TB) (hC : Con Z y cy mL ret d' (.ref (zad Z i) :: [v1, v2, v3, v4]) b none b') (ho : isObj Z b i y.cls) (dg : decode cc pc = .ok (.invokevirtual index, 3)) (hLn : L.length = nL) (hd : d' + 1 ≤ d) (hw : (rest.map fun v => v.category).sum ≤ 8) (k : G Z X b' (pc + 3) L rest) : G Z X b pc L (v4 :: v3 :: v2 :: v1 :: .ref (zad Z i) :: rest) :=
  g_callV hX hm hl0 hC ho hLn hd rfl hw rfl dg k
theorem g_cS4v {y : MethodName} {cy : ByteArray} {mL d' index : Nat} {ret : Option FieldType} {v1 v2 v3 v4 : Value} (hX : Ok Z X cc nL own d) (hm : mokS y cy mL ret 4) (hl0 : Cond.methodLink own index y ∈ TB) (hC : Con Z y cy mL ret d' [v1, v2, v3, v4] b none b') (dg : decode cc pc = .ok (.invokestatic index, 3)) (hLn : L.length = nL) (hd : d' + 1 ≤ d) (hw : (rest.map fun v => v.category).sum ≤ 8) (k : G Z X b' (pc + 3) L rest) : G Z X b pc L (v4 :: v3 :: v2 :: v1 :: rest) :=
  g_callS hX hm hl0 hC hLn hd rfl hw rfl dg k
theorem g_cN4v {y : MethodName} {cy : ByteArray} {mL d' index : Nat} {ret : Option FieldType} {v1 v2 v3 v4 : Value} (hX : Ok Z X cc nL own d) (hm : mokS y cy mL ret 4) (hl0 : (own, index, y) ∈ nestM) (hC : Con Z y cy mL ret d' [v1, v2, v3, v4] b none b') (dg : decode cc pc = .ok (.invokestatic index, 3)) (hLn : L.length = nL) (hd : d' + 1 ≤ d) (hw : (rest.map fun v => v.category).sum ≤ 8) (k : G Z X b' (pc + 3) L rest) : G Z X b pc L (v4 :: v3 :: v2 :: v1 :: rest) :=
  g_callN hX hm hl0 hC hLn hd rfl hw rfl dg k
theorem g_max {index : Nat} {x y : Int32} (hX : Ok Z X cc nL own d) (w1 : Cond.methodLink own index Lib.Math.max.name ∈ TB) (w2 : Cond.static Lib.Math.max.name ∈ TB) (w3 : Cond.initialized "java/lang/Math" ∈ TB) (w4 : Cond.code Lib.Math.max.name Lib.Math.max.code 2 (some .int) ∈ TB) (dg : decode cc pc = .ok (.invokestatic index, 3)) (hLn : L.length = nL) (hd : 1 ≤ d) (hw : (st.map fun v => v.category).sum ≤ 8)
    (k : G Z X b (pc + 3) L (.int (if x < y then y else x) :: st)) : G Z X b pc L (.int y :: .int x :: st) := by
  obtain ⟨hx, hb, hml, hown, hts, hK, hrf, hrl, hcl, hsl⟩ := hX
  intro H locs ls hP hS hl
  exact va_mmax hx hb (hml.trans (hLn.symm.trans hl.1.symm)) hown (hts _ w1) (hts _ w2) (hts _ w3) (hts _ w4) (by omega) (by omega) hcl hsl dg (k H locs ls hP hS hl)
theorem g_min {index : Nat} {x y : Int32} (hX : Ok Z X cc nL own d) (w1 : Cond.methodLink own index Lib.Math.min.name ∈ TB) (w2 : Cond.static Lib.Math.min.name ∈ TB) (w3 : Cond.initialized "java/lang/Math" ∈ TB) (w4 : Cond.code Lib.Math.min.name Lib.Math.min.code 2 (some .int) ∈ TB) (dg : decode cc pc = .ok (.invokestatic index, 3)) (hLn : L.length = nL) (hd : 1 ≤ d) (hw : (st.map fun v => v.category).sum ≤ 8)
    (k : G Z X b (pc + 3) L (.int (if y < x then y else x) :: st)) : G Z X b pc L (.int y :: .int x :: st) := by
  obtain ⟨hx, hb, hml, hown, hts, hK, hrf, hrl, hcl, hsl⟩ := hX
  intro H locs ls hP hS hl
  exact va_mmin hx hb (hml.trans (hLn.symm.trans hl.1.symm)) hown (hts _ w1) (hts _ w2) (hts _ w3) (hts _ w4) (by omega) (by omega) hcl hsl dg (k H locs ls hP hS hl)
theorem g_abs {index : Nat} {x : Int32} (hX : Ok Z X cc nL own d) (w1 : Cond.methodLink own index Lib.Math.abs.name ∈ TB) (w2 : Cond.static Lib.Math.abs.name ∈ TB) (w3 : Cond.initialized "java/lang/Math" ∈ TB) (w4 : Cond.code Lib.Math.abs.name Lib.Math.abs.code 1 (some .int) ∈ TB) (dg : decode cc pc = .ok (.invokestatic index, 3)) (hLn : L.length = nL) (hd : 1 ≤ d) (hw : (st.map fun v => v.category).sum ≤ 8)
    (k : G Z X b (pc + 3) L (.int (if 0 ≤ x then x else 0 - x) :: st)) : G Z X b pc L (.int x :: st) := by
  obtain ⟨hx, hb, hml, hown, hts, hK, hrf, hrl, hcl, hsl⟩ := hX
  intro H locs ls hP hS hl
  exact va_mabs hx hb (hml.trans (hLn.symm.trans hl.1.symm)) hown (hts _ w1) (hts _ w2) (hts _ w3) (hts _ w4) (by omega) (by omega) hcl hsl dg (k H locs ls hP hS hl)
theorem g_copy {i j n0 n1 index : Nat} {n : Int32} (hX : Ok Z X cc nL own d) (hi : isArr Z i n0) (hj : isArr Z j n1) (w1 : Cond.methodLink own index arraycopyName ∈ TB) (w2 : Cond.native arraycopyName ∈ TB) (w3 : Cond.static arraycopyName ∈ TB) (w4 : Cond.initialized "java/lang/System" ∈ TB) (h3 : ¬ n < 0) (h4 : n.toNatClampNeg ≤ n0) (h5 : n.toNatClampNeg ≤ n1) (hLn : L.length = nL) (hd : 1 ≤ d) (hw : (st.map fun v => v.category).sum ≤ 8) (dg : decode cc pc = .ok (.invokestatic index, 3))
    (k : G Z X (up1 b j (va_cpy (b i) (b j) 0 0 n.toNatClampNeg)) (pc + 3) L st) : G Z X b pc L (.int n :: .int 0 :: .ref (zad Z j) :: .int 0 :: .ref (zad Z i) :: st) := by
  obtain ⟨hx, hb, hml, hown, hts, hK, hrf, hrl, hcl, hsl⟩ := hX
  intro H locs ls hP hS hl
  refine va_copyi (ty := .int) hx hb (hml.trans (hLn.symm.trans hl.1.symm)) hown (hts _ w1) (hts _ w2) (hts _ w3) (hts _ w4) hK.1 hP (hK.D b) hS i j 0 0 ((ww_get Z b hi.1).trans (by rw [hi.2])) ((ww_get Z b hj.1).trans (by rw [hj.2])) rfl rfl rfl (by decide) (by decide) h3 (by show 0 + _ ≤ _; omega) (by show 0 + _ ≤ _; omega) (fun _ _ => rfl) (by omega) (by show _ + (7 + 11) ≤ _; omega) dg (fun H1 locs1 hP1 _ hS1 => ?_)
  rw [sb_cl0] at hP1
  rw [ww_set Z b (va_cpy (b i) (b j) 0 0 n.toNatClampNeg) hj.1 (hj.2 _)] at hP1
  exact k H1 locs1 ls hP1 hS1 hl
end CALLS
end
section
/-! which words of the tables are used, by their places; the fields of each class; the objects' places -/
theorem tb_list (ws : List Cond) (ps : List Nat) (hp : ws = ps.filterMap (fun i => lw_tbl[i]?)) (h : ws.all goodWord = true) : ∀ w ∈ ws, w ∈ TB := by
  intro w hw
  have h1 := List.all_eq_true.mp h w hw
  rw [hp] at hw
  obtain ⟨i, -, hi⟩ := List.mem_filterMap.mp hw
  exact tb_of hi h1
theorem in_X0 : ∀ w ∈ u_ws RX0 TX0 8, w ∈ TB := tb_list _ [115, 117, 119, 121, 123, 125, 127, 129] (by decide +kernel) (by decide +kernel)
theorem in_X1 : ∀ w ∈ u_ws RX1 TX1 3, w ∈ TB := tb_list _ [145, 147, 149] (by decide +kernel) (by decide +kernel)
theorem in_X2 : ∀ w ∈ u_ws RX2 TX2 2, w ∈ TB := tb_list _ [222, 224] (by decide +kernel) (by decide +kernel)
theorem in_X3 : ∀ w ∈ u_ws RX3 TX3 8, w ∈ TB := tb_list _ [197, 199, 201, 203, 205, 207, 209, 211] (by decide +kernel) (by decide +kernel)
theorem in_X4 : ∀ w ∈ u_ws RX4 TX4 8, w ∈ TB := tb_list _ [166, 168, 170, 172, 174, 176, 178, 180] (by decide +kernel) (by decide +kernel)
theorem in_X5 : ∀ w ∈ u_ws RX5 TX5 11, w ∈ TB := tb_list _ [238, 240, 242, 244, 246, 248, 250, 252, 254, 256, 258] (by decide +kernel) (by decide +kernel)
theorem in_X6 : ∀ w ∈ u_ws RX6 TX6 15, w ∈ TB := tb_list _ [768, 770, 772, 774, 776, 778, 780, 782, 784, 786, 788, 790, 792, 794, 796] (by decide +kernel) (by decide +kernel)
theorem fl_X0_runs : Cond.fieldLink RX0 9 RX0 "runs" "[I" ∈ TB := tb_of (i := 107) (by decide +kernel) rfl
theorem fl_X0_longs : Cond.fieldLink RX0 15 RX0 "longs" "[I" ∈ TB := tb_of (i := 108) (by decide +kernel) rfl
theorem fl_X0_turns : Cond.fieldLink RX0 18 RX0 "turns" "[I" ∈ TB := tb_of (i := 109) (by decide +kernel) rfl
theorem fl_X0_wides : Cond.fieldLink RX0 21 RX0 "wides" "[I" ∈ TB := tb_of (i := 110) (by decide +kernel) rfl
theorem fl_X0_touching : Cond.fieldLink RX0 24 RX0 "touching" "[I" ∈ TB := tb_of (i := 111) (by decide +kernel) rfl
theorem fl_X0_chosen : Cond.fieldLink RX0 27 RX0 "chosen" "[I" ∈ TB := tb_of (i := 112) (by decide +kernel) rfl
theorem fl_X0_lines : Cond.fieldLink RX0 30 RX0 "lines" "I" ∈ TB := tb_of (i := 113) (by decide +kernel) rfl
theorem fl_X0_pockets : Cond.fieldLink RX0 34 RX0 "pockets" "I" ∈ TB := tb_of (i := 114) (by decide +kernel) rfl
theorem fl_X1_kept : Cond.fieldLink RX1 11 RX1 "kept" "[LSnakedBus$Bus;" ∈ TB := tb_of (i := 142) (by decide +kernel) rfl
theorem fl_X1_place : Cond.fieldLink RX1 17 RX1 "place" "I" ∈ TB := tb_of (i := 143) (by decide +kernel) rfl
theorem fl_X1_held : Cond.fieldLink RX1 21 RX1 "held" "I" ∈ TB := tb_of (i := 144) (by decide +kernel) rfl
theorem fl_X4_bytes : Cond.fieldLink RX4 9 RX4 "bytes" "[I" ∈ TB := tb_of (i := 158) (by decide +kernel) rfl
theorem fl_X4_letters : Cond.fieldLink RX4 15 RX4 "letters" "[I" ∈ TB := tb_of (i := 159) (by decide +kernel) rfl
theorem fl_X4_numbers : Cond.fieldLink RX4 18 RX4 "numbers" "[I" ∈ TB := tb_of (i := 160) (by decide +kernel) rfl
theorem fl_X4_many : Cond.fieldLink RX4 21 RX4 "many" "I" ∈ TB := tb_of (i := 161) (by decide +kernel) rfl
theorem fl_X4_orders : Cond.fieldLink RX4 25 RX4 "orders" "I" ∈ TB := tb_of (i := 162) (by decide +kernel) rfl
theorem fl_X4_letter : Cond.fieldLink RX4 28 RX4 "letter" "I" ∈ TB := tb_of (i := 163) (by decide +kernel) rfl
theorem fl_X4_begun : Cond.fieldLink RX4 31 RX4 "begun" "I" ∈ TB := tb_of (i := 164) (by decide +kernel) rfl
theorem fl_X4_figures : Cond.fieldLink RX4 34 RX4 "figures" "I" ∈ TB := tb_of (i := 165) (by decide +kernel) rfl
theorem fl_X3_needs : Cond.fieldLink RX3 9 RX3 "needs" "[I" ∈ TB := tb_of (i := 189) (by decide +kernel) rfl
theorem fl_X3_reach : Cond.fieldLink RX3 15 RX3 "reach" "[I" ∈ TB := tb_of (i := 190) (by decide +kernel) rfl
theorem fl_X3_rooms : Cond.fieldLink RX3 18 RX3 "rooms" "[I" ∈ TB := tb_of (i := 191) (by decide +kernel) rfl
theorem fl_X3_drawn : Cond.fieldLink RX3 21 RX3 "drawn" "[I" ∈ TB := tb_of (i := 192) (by decide +kernel) rfl
theorem fl_X3_lines : Cond.fieldLink RX3 24 RX3 "lines" "I" ∈ TB := tb_of (i := 193) (by decide +kernel) rfl
theorem fl_X3_pockets : Cond.fieldLink RX3 28 RX3 "pockets" "I" ∈ TB := tb_of (i := 194) (by decide +kernel) rfl
theorem fl_X3_tooLong : Cond.fieldLink RX3 31 RX3 "tooLong" "I" ∈ TB := tb_of (i := 195) (by decide +kernel) rfl
theorem fl_X3_inTheWay : Cond.fieldLink RX3 34 RX3 "inTheWay" "I" ∈ TB := tb_of (i := 196) (by decide +kernel) rfl
theorem fl_X2_fewest : Cond.fieldLink RX2 11 RX2 "fewest" "[I" ∈ TB := tb_of (i := 220) (by decide +kernel) rfl
theorem fl_X2_next : Cond.fieldLink RX2 15 RX2 "next" "[I" ∈ TB := tb_of (i := 221) (by decide +kernel) rfl
theorem fl_X5_bus : Cond.fieldLink RX5 10 RX5 "bus" "LSnakedBus$Bus;" ∈ TB := tb_of (i := 227) (by decide +kernel) rfl
theorem fl_X5_trial : Cond.fieldLink RX5 16 RX5 "trial" "LSnakedBus$Bus;" ∈ TB := tb_of (i := 228) (by decide +kernel) rfl
theorem fl_X5_past : Cond.fieldLink RX5 22 RX5 "past" "LSnakedBus$Past;" ∈ TB := tb_of (i := 229) (by decide +kernel) rfl
theorem fl_X5_text : Cond.fieldLink RX5 29 RX5 "text" "LSnakedBus$Text;" ∈ TB := tb_of (i := 230) (by decide +kernel) rfl
theorem fl_X5_byTarget : Cond.fieldLink RX5 36 RX5 "byTarget" "LSnakedBus$Sharing;" ∈ TB := tb_of (i := 231) (by decide +kernel) rfl
theorem fl_X5_tried : Cond.fieldLink RX5 40 RX5 "tried" "LSnakedBus$Sharing;" ∈ TB := tb_of (i := 232) (by decide +kernel) rfl
theorem fl_X5_phasing : Cond.fieldLink RX5 46 RX5 "phasing" "LSnakedBus$Phasing;" ∈ TB := tb_of (i := 233) (by decide +kernel) rfl
theorem fl_X5_planned : Cond.fieldLink RX5 50 RX5 "planned" "Z" ∈ TB := tb_of (i := 234) (by decide +kernel) rfl
theorem fl_X5_bads : Cond.fieldLink RX5 54 RX5 "bads" "I" ∈ TB := tb_of (i := 235) (by decide +kernel) rfl
theorem fl_X5_noes : Cond.fieldLink RX5 58 RX5 "noes" "I" ∈ TB := tb_of (i := 236) (by decide +kernel) rfl
theorem fl_X5_fulls : Cond.fieldLink RX5 61 RX5 "fulls" "I" ∈ TB := tb_of (i := 237) (by decide +kernel) rfl
theorem fl_X6_refused : Cond.fieldLink RX6 7 RX6 "refused" "[I" ∈ TB := tb_of (i := 753) (by decide +kernel) rfl
theorem fl_X6_now : Cond.fieldLink RX6 13 RX6 "now" "[I" ∈ TB := tb_of (i := 754) (by decide +kernel) rfl
theorem fl_X6_kept : Cond.fieldLink RX6 16 RX6 "kept" "[I" ∈ TB := tb_of (i := 755) (by decide +kernel) rfl
theorem fl_X6_states : Cond.fieldLink RX6 53 RX6 "states" "I" ∈ TB := tb_of (i := 756) (by decide +kernel) rfl
theorem fl_X6_need : Cond.fieldLink RX6 19 RX6 "need" "[I" ∈ TB := tb_of (i := 757) (by decide +kernel) rfl
theorem fl_X6_room : Cond.fieldLink RX6 22 RX6 "room" "[I" ∈ TB := tb_of (i := 758) (by decide +kernel) rfl
theorem fl_X6_may : Cond.fieldLink RX6 25 RX6 "may" "[I" ∈ TB := tb_of (i := 759) (by decide +kernel) rfl
theorem fl_X6_drawn : Cond.fieldLink RX6 28 RX6 "drawn" "[I" ∈ TB := tb_of (i := 760) (by decide +kernel) rfl
theorem fl_X6_fewest : Cond.fieldLink RX6 31 RX6 "fewest" "[I" ∈ TB := tb_of (i := 761) (by decide +kernel) rfl
theorem fl_X6_then : Cond.fieldLink RX6 34 RX6 "then" "[I" ∈ TB := tb_of (i := 762) (by decide +kernel) rfl
theorem fl_X6_text : Cond.fieldLink RX6 37 RX6 "text" "[I" ∈ TB := tb_of (i := 763) (by decide +kernel) rfl
theorem fl_X6_typed : Cond.fieldLink RX6 197 RX6 "typed" "I" ∈ TB := tb_of (i := 764) (by decide +kernel) rfl
theorem fl_X6_orders : Cond.fieldLink RX6 40 RX6 "orders" "[I" ∈ TB := tb_of (i := 765) (by decide +kernel) rfl
theorem fl_X6_written : Cond.fieldLink RX6 215 RX6 "written" "I" ∈ TB := tb_of (i := 766) (by decide +kernel) rfl
theorem fl_X6_look : Cond.fieldLink RX6 203 RX6 "look" "I" ∈ TB := tb_of (i := 767) (by decide +kernel) rfl
theorem ml_X5_1 : Cond.methodLink RX5 1 objectInit ∈ TB := tb_of (i := 87) (by decide +kernel) rfl
theorem ml_X5_9 : Cond.methodLink RX5 9 yX0_init ∈ TB := tb_of (i := 92) (by decide +kernel) rfl
theorem ml_X0_3 : Cond.methodLink RX0 3 objectInit ∈ TB := tb_of (i := 95) (by decide +kernel) rfl
theorem ml_X5_291 : Cond.methodLink RX5 291 Lib.Math.min.name ∈ TB := tb_of (i := 101) (by decide +kernel) rfl
theorem ml_X5_296 : Cond.methodLink RX5 296 arraycopyName ∈ TB := tb_of (i := 104) (by decide +kernel) rfl
theorem ml_X5_21 : Cond.methodLink RX5 21 yX1_init ∈ TB := tb_of (i := 135) (by decide +kernel) rfl
theorem ml_X1_3 : Cond.methodLink RX1 3 objectInit ∈ TB := tb_of (i := 138) (by decide +kernel) rfl
theorem ml_X1_24 : Cond.methodLink RX1 24 yX0_init ∈ TB := tb_of (i := 141) (by decide +kernel) rfl
theorem ml_X5_28 : Cond.methodLink RX5 28 yX4_init ∈ TB := tb_of (i := 154) (by decide +kernel) rfl
theorem ml_X4_3 : Cond.methodLink RX4 3 objectInit ∈ TB := tb_of (i := 157) (by decide +kernel) rfl
theorem ml_X5_35 : Cond.methodLink RX5 35 yX3_init ∈ TB := tb_of (i := 185) (by decide +kernel) rfl
theorem ml_X3_3 : Cond.methodLink RX3 3 objectInit ∈ TB := tb_of (i := 188) (by decide +kernel) rfl
theorem ml_X5_45 : Cond.methodLink RX5 45 yX2_init ∈ TB := tb_of (i := 216) (by decide +kernel) rfl
theorem ml_X2_3 : Cond.methodLink RX2 3 objectInit ∈ TB := tb_of (i := 219) (by decide +kernel) rfl
theorem ml_X5_64 : Cond.methodLink RX5 64 yX5_draft ∈ TB := tb_of (i := 265) (by decide +kernel) rfl
theorem ml_X5_274 : Cond.methodLink RX5 274 yX0_takeFrom ∈ TB := tb_of (i := 269) (by decide +kernel) rfl
theorem ml_X5_68 : Cond.methodLink RX5 68 yX0_addLine ∈ TB := tb_of (i := 273) (by decide +kernel) rfl
theorem ml_X5_72 : Cond.methodLink RX5 72 yX5_settled ∈ TB := tb_of (i := 286) (by decide +kernel) rfl
theorem ml_X5_99 : Cond.methodLink RX5 99 yX5_refused ∈ TB := tb_of (i := 290) (by decide +kernel) rfl
theorem ml_X5_221 : Cond.methodLink RX5 221 yX5_accept ∈ TB := tb_of (i := 294) (by decide +kernel) rfl
theorem ml_X5_278 : Cond.methodLink RX5 278 yX1_keep ∈ TB := tb_of (i := 298) (by decide +kernel) rfl
theorem ml_X1_25 : Cond.methodLink RX1 25 yX1_slotAt ∈ TB := tb_of (i := 302) (by decide +kernel) rfl
theorem ml_X1_29 : Cond.methodLink RX1 29 yX0_takeFrom ∈ TB := tb_of (i := 306) (by decide +kernel) rfl
theorem ml_X1_33 : Cond.methodLink RX1 33 Lib.Math.min.name ∈ TB := tb_of (i := 307) (by decide +kernel) rfl
theorem ml_X5_75 : Cond.methodLink RX5 75 yX0_addRun ∈ TB := tb_of (i := 312) (by decide +kernel) rfl
theorem ml_X0_56 : Cond.methodLink RX0 56 yX0_hasLine ∈ TB := tb_of (i := 316) (by decide +kernel) rfl
theorem ml_X0_60 : Cond.methodLink RX0 60 yX0_runsOf ∈ TB := tb_of (i := 320) (by decide +kernel) rfl
theorem ml_X5_79 : Cond.methodLink RX5 79 yX0_dropRun ∈ TB := tb_of (i := 331) (by decide +kernel) rfl
theorem ml_X5_82 : Cond.methodLink RX5 82 yX0_addPocket ∈ TB := tb_of (i := 339) (by decide +kernel) rfl
theorem ml_X5_86 : Cond.methodLink RX5 86 yX0_changeWide ∈ TB := tb_of (i := 347) (by decide +kernel) rfl
theorem ml_X0_64 : Cond.methodLink RX0 64 yX0_hasPocket ∈ TB := tb_of (i := 351) (by decide +kernel) rfl
theorem ml_X0_67 : Cond.methodLink RX0 67 yX0_wideOf ∈ TB := tb_of (i := 355) (by decide +kernel) rfl
theorem ml_X5_89 : Cond.methodLink RX5 89 yX0_changeTouch ∈ TB := tb_of (i := 363) (by decide +kernel) rfl
theorem ml_X5_92 : Cond.methodLink RX5 92 yX0_changeSetting ∈ TB := tb_of (i := 371) (by decide +kernel) rfl
theorem ml_X5_95 : Cond.methodLink RX5 95 yX0_hasLine ∈ TB := tb_of (i := 383) (by decide +kernel) rfl
theorem ml_X5_102 : Cond.methodLink RX5 102 yX0_runsOf ∈ TB := tb_of (i := 384) (by decide +kernel) rfl
theorem ml_X5_105 : Cond.methodLink RX5 105 yX0_baseOf ∈ TB := tb_of (i := 385) (by decide +kernel) rfl
theorem ml_X0_80 : Cond.methodLink RX0 80 yX0_longOf ∈ TB := tb_of (i := 389) (by decide +kernel) rfl
theorem ml_X0_87 : Cond.methodLink RX0 87 Lib.Math.max.name ∈ TB := tb_of (i := 393) (by decide +kernel) rfl
theorem ml_X5_108 : Cond.methodLink RX5 108 yX0_settingAt ∈ TB := tb_of (i := 396) (by decide +kernel) rfl
theorem ml_X5_111 : Cond.methodLink RX5 111 yX0_lackFor ∈ TB := tb_of (i := 400) (by decide +kernel) rfl
theorem ml_X5_114 : Cond.methodLink RX5 114 yX0_needFor ∈ TB := tb_of (i := 404) (by decide +kernel) rfl
theorem ml_X0_95 : Cond.methodLink RX0 95 yX0_lackFor ∈ TB := tb_of (i := 408) (by decide +kernel) rfl
theorem ml_X0_98 : Cond.methodLink RX0 98 yX0_gain ∈ TB := tb_of (i := 409) (by decide +kernel) rfl
theorem ml_X5_117 : Cond.methodLink RX5 117 yX0_reachOf ∈ TB := tb_of (i := 413) (by decide +kernel) rfl
theorem ml_X5_120 : Cond.methodLink RX5 120 yX0_turnsOf ∈ TB := tb_of (i := 420) (by decide +kernel) rfl
theorem ml_X0_84 : Cond.methodLink RX0 84 yX0_turnAhead ∈ TB := tb_of (i := 424) (by decide +kernel) rfl
theorem ml_X5_123 : Cond.methodLink RX5 123 yX0_hasRun ∈ TB := tb_of (i := 432) (by decide +kernel) rfl
theorem ml_X5_127 : Cond.methodLink RX5 127 yX0_longOf ∈ TB := tb_of (i := 436) (by decide +kernel) rfl
theorem ml_X5_130 : Cond.methodLink RX5 130 yX0_turnAhead ∈ TB := tb_of (i := 437) (by decide +kernel) rfl
theorem ml_X5_133 : Cond.methodLink RX5 133 yX0_bumpRoom ∈ TB := tb_of (i := 438) (by decide +kernel) rfl
theorem ml_X5_136 : Cond.methodLink RX5 136 yX0_hasPocket ∈ TB := tb_of (i := 446) (by decide +kernel) rfl
theorem ml_X5_139 : Cond.methodLink RX5 139 yX0_wideOf ∈ TB := tb_of (i := 447) (by decide +kernel) rfl
theorem ml_X5_142 : Cond.methodLink RX5 142 yX0_presentAt ∈ TB := tb_of (i := 448) (by decide +kernel) rfl
theorem ml_X5_145 : Cond.methodLink RX5 145 yX0_humpsOf ∈ TB := tb_of (i := 452) (by decide +kernel) rfl
theorem ml_X5_148 : Cond.methodLink RX5 148 yX5_plan ∈ TB := tb_of (i := 456) (by decide +kernel) rfl
theorem ml_X5_191 : Cond.methodLink RX5 191 yX3_look ∈ TB := tb_of (i := 460) (by decide +kernel) rfl
theorem ml_X3_37 : Cond.methodLink RX3 37 yX0_lineCount ∈ TB := tb_of (i := 464) (by decide +kernel) rfl
theorem ml_X3_43 : Cond.methodLink RX3 43 yX0_pocketCount ∈ TB := tb_of (i := 468) (by decide +kernel) rfl
theorem ml_X3_46 : Cond.methodLink RX3 46 yX0_baseOf ∈ TB := tb_of (i := 472) (by decide +kernel) rfl
theorem ml_X3_50 : Cond.methodLink RX3 50 yX0_needFor ∈ TB := tb_of (i := 473) (by decide +kernel) rfl
theorem ml_X3_58 : Cond.methodLink RX3 58 yX0_reachOf ∈ TB := tb_of (i := 475) (by decide +kernel) rfl
theorem ml_X3_61 : Cond.methodLink RX3 61 yX0_humpsOf ∈ TB := tb_of (i := 476) (by decide +kernel) rfl
theorem ml_X3_64 : Cond.methodLink RX3 64 yX3_joinSets ∈ TB := tb_of (i := 477) (by decide +kernel) rfl
theorem ml_X5_284 : Cond.methodLink RX5 284 yX3_findBlocked ∈ TB := tb_of (i := 482) (by decide +kernel) rfl
theorem ml_X3_71 : Cond.methodLink RX3 71 yX3_crowd ∈ TB := tb_of (i := 486) (by decide +kernel) rfl
theorem ml_X3_94 : Cond.methodLink RX3 94 yJ6_bitCount_0f7a4 ∈ TB := tb_of (i := 490) (by decide +kernel) rfl
theorem co_J6_265 : Cond.constant RJ6 265 (1431655765) ∈ TB := tb_of (i := 493) (by decide +kernel) rfl
theorem co_J6_266 : Cond.constant RJ6 266 (858993459) ∈ TB := tb_of (i := 494) (by decide +kernel) rfl
theorem co_J6_267 : Cond.constant RJ6 267 (252645135) ∈ TB := tb_of (i := 495) (by decide +kernel) rfl
theorem ml_X3_99 : Cond.methodLink RX3 99 yX3_spare ∈ TB := tb_of (i := 496) (by decide +kernel) rfl
theorem ml_X5_163 : Cond.methodLink RX5 163 yX0_lineCount ∈ TB := tb_of (i := 501) (by decide +kernel) rfl
theorem ml_X5_152 : Cond.methodLink RX5 152 yX3_allFit ∈ TB := tb_of (i := 502) (by decide +kernel) rfl
theorem ml_X5_287 : Cond.methodLink RX5 287 yX3_drawLine ∈ TB := tb_of (i := 506) (by decide +kernel) rfl
theorem ml_X3_82 : Cond.methodLink RX3 82 yX3_mostFor ∈ TB := tb_of (i := 510) (by decide +kernel) rfl
theorem ml_X3_85 : Cond.methodLink RX3 85 Lib.Math.min.name ∈ TB := tb_of (i := 514) (by decide +kernel) rfl
theorem ml_X5_156 : Cond.methodLink RX5 156 yX3_freeOf ∈ TB := tb_of (i := 516) (by decide +kernel) rfl
theorem ml_X5_159 : Cond.methodLink RX5 159 yX5_within ∈ TB := tb_of (i := 524) (by decide +kernel) rfl
theorem ml_X5_167 : Cond.methodLink RX5 167 yX0_pocketCount ∈ TB := tb_of (i := 529) (by decide +kernel) rfl
theorem ml_X5_170 : Cond.methodLink RX5 170 yX0_gain ∈ TB := tb_of (i := 530) (by decide +kernel) rfl
theorem ml_X5_173 : Cond.methodLink RX5 173 yX0_longestBase ∈ TB := tb_of (i := 531) (by decide +kernel) rfl
theorem ml_X0_92 : Cond.methodLink RX0 92 yX0_baseOf ∈ TB := tb_of (i := 535) (by decide +kernel) rfl
theorem ml_X5_176 : Cond.methodLink RX5 176 yX0_allHumps ∈ TB := tb_of (i := 536) (by decide +kernel) rfl
theorem ml_X0_109 : Cond.methodLink RX0 109 yX0_humpsOf ∈ TB := tb_of (i := 540) (by decide +kernel) rfl
theorem ml_X5_179 : Cond.methodLink RX5 179 yX0_allNeeds ∈ TB := tb_of (i := 541) (by decide +kernel) rfl
theorem ml_X0_102 : Cond.methodLink RX0 102 yX0_needFor ∈ TB := tb_of (i := 545) (by decide +kernel) rfl
theorem ml_X5_182 : Cond.methodLink RX5 182 yX3_drawnBy ∈ TB := tb_of (i := 550) (by decide +kernel) rfl
theorem ml_X5_185 : Cond.methodLink RX5 185 yX3_blockedLines ∈ TB := tb_of (i := 562) (by decide +kernel) rfl
theorem ml_X5_188 : Cond.methodLink RX5 188 yX5_fitsBy ∈ TB := tb_of (i := 570) (by decide +kernel) rfl
theorem ml_X5_281 : Cond.methodLink RX5 281 yX3_fits ∈ TB := tb_of (i := 574) (by decide +kernel) rfl
theorem ml_X5_195 : Cond.methodLink RX5 195 yX3_fitsWithOneMore ∈ TB := tb_of (i := 590) (by decide +kernel) rfl
theorem ml_X3_74 : Cond.methodLink RX3 74 yX3_fits ∈ TB := tb_of (i := 594) (by decide +kernel) rfl
theorem ml_X5_198 : Cond.methodLink RX5 198 yX2_fewestFor ∈ TB := tb_of (i := 599) (by decide +kernel) rfl
theorem co_X2_18 : Cond.constant RX2 18 (1000000) ∈ TB := tb_of (i := 603) (by decide +kernel) rfl
theorem ml_X2_19 : Cond.methodLink RX2 19 yJ7_fill_53178 ∈ TB := tb_of (i := 604) (by decide +kernel) rfl
theorem ml_X2_29 : Cond.methodLink RX2 29 yX0_runsOf ∈ TB := tb_of (i := 608) (by decide +kernel) rfl
theorem ml_X2_35 : Cond.methodLink RX2 35 yX0_turnAhead ∈ TB := tb_of (i := 609) (by decide +kernel) rfl
theorem ml_X2_39 : Cond.methodLink RX2 39 yX2_turnStep ∈ TB := tb_of (i := 610) (by decide +kernel) rfl
theorem ml_X2_42 : Cond.methodLink RX2 42 yX0_bumpRoom ∈ TB := tb_of (i := 613) (by decide +kernel) rfl
theorem ml_X2_45 : Cond.methodLink RX2 45 yX0_settingAt ∈ TB := tb_of (i := 614) (by decide +kernel) rfl
theorem ml_X2_48 : Cond.methodLink RX2 48 yX2_passRun ∈ TB := tb_of (i := 615) (by decide +kernel) rfl
theorem ml_X2_60 : Cond.methodLink RX2 60 yX2_putBumps ∈ TB := tb_of (i := 620) (by decide +kernel) rfl
theorem ml_X2_64 : Cond.methodLink RX2 64 Lib.Math.abs.name ∈ TB := tb_of (i := 624) (by decide +kernel) rfl
theorem ml_X2_69 : Cond.methodLink RX2 69 Lib.Math.min.name ∈ TB := tb_of (i := 627) (by decide +kernel) rfl
theorem ml_X5_202 : Cond.methodLink RX5 202 yX0_plainSkew ∈ TB := tb_of (i := 633) (by decide +kernel) rfl
theorem ml_X5_205 : Cond.methodLink RX5 205 yX4_append ∈ TB := tb_of (i := 641) (by decide +kernel) rfl
theorem ml_X5_208 : Cond.methodLink RX5 208 yX4_size ∈ TB := tb_of (i := 646) (by decide +kernel) rfl
theorem ml_X5_211 : Cond.methodLink RX5 211 yX4_empty ∈ TB := tb_of (i := 654) (by decide +kernel) rfl
theorem ml_X5_214 : Cond.methodLink RX5 214 yX4_parse ∈ TB := tb_of (i := 662) (by decide +kernel) rfl
theorem ml_X4_45 : Cond.methodLink RX4 45 yX4_takes ∈ TB := tb_of (i := 667) (by decide +kernel) rfl
theorem ml_X4_49 : Cond.methodLink RX4 49 yX4_opens ∈ TB := tb_of (i := 671) (by decide +kernel) rfl
theorem ml_X4_63 : Cond.methodLink RX4 63 yX4_numbersOf ∈ TB := tb_of (i := 675) (by decide +kernel) rfl
theorem ml_X4_52 : Cond.methodLink RX4 52 yX4_closes ∈ TB := tb_of (i := 678) (by decide +kernel) rfl
theorem ml_X4_60 : Cond.methodLink RX4 60 yX4_takesFigure ∈ TB := tb_of (i := 683) (by decide +kernel) rfl
theorem ml_X5_217 : Cond.methodLink RX5 217 yX4_apply ∈ TB := tb_of (i := 688) (by decide +kernel) rfl
theorem ml_X4_71 : Cond.methodLink RX4 71 yX4_applyOne ∈ TB := tb_of (i := 692) (by decide +kernel) rfl
theorem ml_X4_75 : Cond.methodLink RX4 75 yX0_addLine ∈ TB := tb_of (i := 696) (by decide +kernel) rfl
theorem ml_X4_80 : Cond.methodLink RX4 80 yX0_addRun ∈ TB := tb_of (i := 697) (by decide +kernel) rfl
theorem ml_X4_83 : Cond.methodLink RX4 83 yX0_addPocket ∈ TB := tb_of (i := 698) (by decide +kernel) rfl
theorem ml_X4_87 : Cond.methodLink RX4 87 yX0_changeSetting ∈ TB := tb_of (i := 699) (by decide +kernel) rfl
theorem ml_X4_90 : Cond.methodLink RX4 90 yX0_changeWide ∈ TB := tb_of (i := 700) (by decide +kernel) rfl
theorem ml_X5_224 : Cond.methodLink RX5 224 yX4_orderCount ∈ TB := tb_of (i := 701) (by decide +kernel) rfl
theorem ml_X5_227 : Cond.methodLink RX5 227 yX1_giveBack ∈ TB := tb_of (i := 709) (by decide +kernel) rfl
theorem ml_X5_231 : Cond.methodLink RX5 231 yX1_size ∈ TB := tb_of (i := 713) (by decide +kernel) rfl
theorem co_X5_232 : Cond.constantLong RX5 232 (2053) ∈ TB := tb_of (i := 725) (by decide +kernel) rfl
theorem ml_X5_234 : Cond.methodLink RX5 234 yX5_told ∈ TB := tb_of (i := 726) (by decide +kernel) rfl
theorem ml_X5_237 : Cond.methodLink RX5 237 yX5_mixed ∈ TB := tb_of (i := 727) (by decide +kernel) rfl
theorem co_X5_263 : Cond.constantLong RX5 263 (31) ∈ TB := tb_of (i := 730) (by decide +kernel) rfl
theorem ml_X5_241 : Cond.methodLink RX5 241 yX5_count ∈ TB := tb_of (i := 731) (by decide +kernel) rfl
theorem ml_X5_244 : Cond.methodLink RX5 244 yX5_mixedLine ∈ TB := tb_of (i := 732) (by decide +kernel) rfl
theorem ml_X5_265 : Cond.methodLink RX5 265 yX5_of ∈ TB := tb_of (i := 736) (by decide +kernel) rfl
theorem ml_X5_268 : Cond.methodLink RX5 268 yX5_run ∈ TB := tb_of (i := 737) (by decide +kernel) rfl
theorem ml_X5_271 : Cond.methodLink RX5 271 yX5_bumps ∈ TB := tb_of (i := 738) (by decide +kernel) rfl
theorem ml_X5_247 : Cond.methodLink RX5 247 yX5_about ∈ TB := tb_of (i := 739) (by decide +kernel) rfl
theorem ml_X5_250 : Cond.methodLink RX5 250 yX5_blocked ∈ TB := tb_of (i := 740) (by decide +kernel) rfl
theorem ml_X5_253 : Cond.methodLink RX5 253 yX5_least ∈ TB := tb_of (i := 741) (by decide +kernel) rfl
theorem ml_X5_256 : Cond.methodLink RX5 256 yX5_greatest ∈ TB := tb_of (i := 742) (by decide +kernel) rfl
theorem ml_X5_259 : Cond.methodLink RX5 259 yX5_mixedHumps ∈ TB := tb_of (i := 743) (by decide +kernel) rfl
theorem ml_X6_1 : Cond.methodLink RX6 1 objectInit ∈ TB := tb_of (i := 752) (by decide +kernel) rfl
theorem ml_X6_47 : Cond.methodLink RX6 47 yX6_no ∈ TB := tb_of (i := 803) (by decide +kernel) rfl
theorem ml_X6_57 : Cond.methodLink RX6 57 yX6_takes ∈ TB := tb_of (i := 807) (by decide +kernel) rfl
theorem ml_X6_92 : Cond.methodLink RX6 92 yX6_puts ∈ TB := tb_of (i := 815) (by decide +kernel) rfl
theorem ml_X6_95 : Cond.methodLink RX6 95 yX6_addLine ∈ TB := tb_of (i := 819) (by decide +kernel) rfl
theorem ml_X6_61 : Cond.methodLink RX6 61 yX6_in ∈ TB := tb_of (i := 823) (by decide +kernel) rfl
theorem ml_X6_98 : Cond.methodLink RX6 98 yX6_done ∈ TB := tb_of (i := 826) (by decide +kernel) rfl
theorem ml_X6_86 : Cond.methodLink RX6 86 yX6_counted ∈ TB := tb_of (i := 830) (by decide +kernel) rfl
theorem ml_X6_43 : Cond.methodLink RX6 43 yX6_bad ∈ TB := tb_of (i := 834) (by decide +kernel) rfl
theorem ml_X6_50 : Cond.methodLink RX6 50 yX6_full ∈ TB := tb_of (i := 838) (by decide +kernel) rfl
theorem ml_X6_89 : Cond.methodLink RX6 89 yX6_leavesState ∈ TB := tb_of (i := 842) (by decide +kernel) rfl
theorem ml_X6_101 : Cond.methodLink RX6 101 yX6_addRun ∈ TB := tb_of (i := 850) (by decide +kernel) rfl
theorem ml_X6_65 : Cond.methodLink RX6 65 yX6_isLine ∈ TB := tb_of (i := 854) (by decide +kernel) rfl
theorem ml_X6_69 : Cond.methodLink RX6 69 yX6_runsOf ∈ TB := tb_of (i := 858) (by decide +kernel) rfl
theorem ml_X6_105 : Cond.methodLink RX6 105 yX6_dropRun ∈ TB := tb_of (i := 866) (by decide +kernel) rfl
theorem ml_X6_108 : Cond.methodLink RX6 108 yX6_addPocket ∈ TB := tb_of (i := 874) (by decide +kernel) rfl
theorem ml_X6_111 : Cond.methodLink RX6 111 yX6_setWide ∈ TB := tb_of (i := 882) (by decide +kernel) rfl
theorem ml_X6_73 : Cond.methodLink RX6 73 yX6_isPocket ∈ TB := tb_of (i := 886) (by decide +kernel) rfl
theorem ml_X6_76 : Cond.methodLink RX6 76 yX6_becomes ∈ TB := tb_of (i := 890) (by decide +kernel) rfl
theorem ml_X6_114 : Cond.methodLink RX6 114 yX6_setTouch ∈ TB := tb_of (i := 898) (by decide +kernel) rfl
theorem ml_X6_117 : Cond.methodLink RX6 117 yX6_setSetting ∈ TB := tb_of (i := 906) (by decide +kernel) rfl
theorem ml_X6_80 : Cond.methodLink RX6 80 yX6_leastOf ∈ TB := tb_of (i := 910) (by decide +kernel) rfl
theorem ml_X6_83 : Cond.methodLink RX6 83 yX6_mostOf ∈ TB := tb_of (i := 913) (by decide +kernel) rfl
theorem ml_X6_144 : Cond.methodLink RX6 144 yX6_toldLine ∈ TB := tb_of (i := 920) (by decide +kernel) rfl
theorem ml_X6_126 : Cond.methodLink RX6 126 yX6_base ∈ TB := tb_of (i := 924) (by decide +kernel) rfl
theorem ml_X6_120 : Cond.methodLink RX6 120 yX6_longOf ∈ TB := tb_of (i := 928) (by decide +kernel) rfl
theorem ml_X6_129 : Cond.methodLink RX6 129 yX6_lack ∈ TB := tb_of (i := 932) (by decide +kernel) rfl
theorem ml_X6_135 : Cond.methodLink RX6 135 yX6_needBy ∈ TB := tb_of (i := 936) (by decide +kernel) rfl
theorem ml_X6_123 : Cond.methodLink RX6 123 yX6_gain ∈ TB := tb_of (i := 940) (by decide +kernel) rfl
theorem ml_X6_138 : Cond.methodLink RX6 138 yX6_pocketsOf ∈ TB := tb_of (i := 944) (by decide +kernel) rfl
theorem ml_X6_141 : Cond.methodLink RX6 141 yX6_turns ∈ TB := tb_of (i := 948) (by decide +kernel) rfl
theorem ml_X6_132 : Cond.methodLink RX6 132 yX6_turnOf ∈ TB := tb_of (i := 952) (by decide +kernel) rfl
theorem ml_X6_147 : Cond.methodLink RX6 147 yX6_isRun ∈ TB := tb_of (i := 960) (by decide +kernel) rfl
theorem ml_X6_151 : Cond.methodLink RX6 151 yX6_toldRun ∈ TB := tb_of (i := 964) (by decide +kernel) rfl
theorem ml_X6_167 : Cond.methodLink RX6 167 yX6_allCan ∈ TB := tb_of (i := 972) (by decide +kernel) rfl
theorem ml_X6_160 : Cond.methodLink RX6 160 yX6_lays ∈ TB := tb_of (i := 976) (by decide +kernel) rfl
theorem ml_X6_154 : Cond.methodLink RX6 154 yX6_humps ∈ TB := tb_of (i := 980) (by decide +kernel) rfl
theorem ml_X6_163 : Cond.methodLink RX6 163 yX6_areEnough ∈ TB := tb_of (i := 984) (by decide +kernel) rfl
theorem ml_X6_157 : Cond.methodLink RX6 157 yX6_isEnough ∈ TB := tb_of (i := 988) (by decide +kernel) rfl
theorem ml_X6_170 : Cond.methodLink RX6 170 yX6_longest ∈ TB := tb_of (i := 996) (by decide +kernel) rfl
theorem ml_X6_173 : Cond.methodLink RX6 173 yX6_ones ∈ TB := tb_of (i := 1008) (by decide +kernel) rfl
theorem ml_X6_176 : Cond.methodLink RX6 176 yX6_allCanNow ∈ TB := tb_of (i := 1015) (by decide +kernel) rfl
theorem ml_X6_179 : Cond.methodLink RX6 179 yX6_draw ∈ TB := tb_of (i := 1023) (by decide +kernel) rfl
theorem ml_X6_185 : Cond.methodLink RX6 185 yX6_toldPocket ∈ TB := tb_of (i := 1035) (by decide +kernel) rfl
theorem ml_X6_182 : Cond.methodLink RX6 182 yX6_free ∈ TB := tb_of (i := 1039) (by decide +kernel) rfl
theorem ml_X6_188 : Cond.methodLink RX6 188 yX6_countOf ∈ TB := tb_of (i := 1051) (by decide +kernel) rfl
theorem ml_X6_191 : Cond.methodLink RX6 191 yX6_skewOf ∈ TB := tb_of (i := 1059) (by decide +kernel) rfl
theorem ml_X6_194 : Cond.methodLink RX6 194 yX6_fewestBumps ∈ TB := tb_of (i := 1067) (by decide +kernel) rfl
theorem ml_X6_209 : Cond.methodLink RX6 209 yX6_blanks ∈ TB := tb_of (i := 1083) (by decide +kernel) rfl
theorem ml_X6_200 : Cond.methodLink RX6 200 yX6_byteAt ∈ TB := tb_of (i := 1087) (by decide +kernel) rfl
theorem ml_X6_221 : Cond.methodLink RX6 221 yX6_reads ∈ TB := tb_of (i := 1091) (by decide +kernel) rfl
theorem ml_X6_212 : Cond.methodLink RX6 212 yX6_wants ∈ TB := tb_of (i := 1095) (by decide +kernel) rfl
theorem ml_X6_218 : Cond.methodLink RX6 218 yX6_number ∈ TB := tb_of (i := 1098) (by decide +kernel) rfl
theorem ml_X6_206 : Cond.methodLink RX6 206 yX6_isFigure ∈ TB := tb_of (i := 1102) (by decide +kernel) rfl
theorem ml_X6_224 : Cond.methodLink RX6 224 yX6_acted ∈ TB := tb_of (i := 1106) (by decide +kernel) rfl
theorem ml_X6_227 : Cond.methodLink RX6 227 yX6_toldOf ∈ TB := tb_of (i := 1114) (by decide +kernel) rfl
theorem co_X6_230 : Cond.constantLong RX6 230 (2053) ∈ TB := tb_of (i := 1122) (by decide +kernel) rfl
theorem co_X6_232 : Cond.constantLong RX6 232 (31) ∈ TB := tb_of (i := 1123) (by decide +kernel) rfl
theorem ml_X6_234 : Cond.methodLink RX6 234 yX6_blocked ∈ TB := tb_of (i := 1124) (by decide +kernel) rfl
theorem ml_X6_237 : Cond.methodLink RX6 237 yX6_least ∈ TB := tb_of (i := 1125) (by decide +kernel) rfl
theorem ml_X6_240 : Cond.methodLink RX6 240 yX6_greatest ∈ TB := tb_of (i := 1126) (by decide +kernel) rfl
theorem mkX5_copy : mokS yX5_copy cX5_copy 2 none 2 := ⟨⟨tb_of (i := 100) (by decide +kernel) rfl, tb_of (i := 71) (by decide +kernel) rfl, ⟨by decide, by decide, by decide +kernel⟩, by decide⟩, tb_of (i := 99) (by decide +kernel) rfl⟩
theorem mm_min_c : Cond.code Lib.Math.min.name Lib.Math.min.code 2 (some .int) ∈ TB := tb_of (i := 103) (by decide +kernel) rfl
theorem mm_min_s : Cond.static Lib.Math.min.name ∈ TB := tb_of (i := 102) (by decide +kernel) rfl
theorem mkX5_line : mokI yX5_line cX5_line 2 (some .int) 1 := ⟨⟨tb_of (i := 264) (by decide +kernel) rfl, tb_of (i := 71) (by decide +kernel) rfl, ⟨by decide, by decide, by decide +kernel⟩, by decide⟩, tb_of (i := 262) (by decide +kernel) rfl, tb_of (i := 263) (by decide +kernel) rfl⟩
theorem mkX5_draft : mokI yX5_draft cX5_draft 1 (some (.object "SnakedBus$Bus")) 0 := ⟨⟨tb_of (i := 268) (by decide +kernel) rfl, tb_of (i := 71) (by decide +kernel) rfl, ⟨by decide, by decide, by decide +kernel⟩, by decide⟩, tb_of (i := 267) (by decide +kernel) rfl, tb_of (i := 0) (by decide +kernel) rfl⟩
theorem mkX0_takeFrom : mokI yX0_takeFrom cX0_takeFrom 2 none 1 := ⟨⟨tb_of (i := 272) (by decide +kernel) rfl, tb_of (i := 72) (by decide +kernel) rfl, ⟨by decide, by decide, by decide +kernel⟩, by decide⟩, tb_of (i := 270) (by decide +kernel) rfl, tb_of (i := 271) (by decide +kernel) rfl⟩
theorem mkX0_addLine : mokI yX0_addLine cX0_addLine 2 (some .int) 1 := ⟨⟨tb_of (i := 276) (by decide +kernel) rfl, tb_of (i := 72) (by decide +kernel) rfl, ⟨by decide, by decide, by decide +kernel⟩, by decide⟩, tb_of (i := 274) (by decide +kernel) rfl, tb_of (i := 275) (by decide +kernel) rfl⟩
theorem mkX5_within : mokS yX5_within cX5_within 3 (some .boolean) 3 := ⟨⟨tb_of (i := 279) (by decide +kernel) rfl, tb_of (i := 71) (by decide +kernel) rfl, ⟨by decide, by decide, by decide +kernel⟩, by decide⟩, tb_of (i := 278) (by decide +kernel) rfl⟩
theorem mkX5_put : mokS yX5_put cX5_put 3 none 3 := ⟨⟨tb_of (i := 282) (by decide +kernel) rfl, tb_of (i := 71) (by decide +kernel) rfl, ⟨by decide, by decide, by decide +kernel⟩, by decide⟩, tb_of (i := 281) (by decide +kernel) rfl⟩
theorem mkX5_cell : mokS yX5_cell cX5_cell 3 (some .int) 3 := ⟨⟨tb_of (i := 285) (by decide +kernel) rfl, tb_of (i := 71) (by decide +kernel) rfl, ⟨by decide, by decide, by decide +kernel⟩, by decide⟩, tb_of (i := 284) (by decide +kernel) rfl⟩
theorem mkX5_settled : mokI yX5_settled cX5_settled 2 (some .int) 1 := ⟨⟨tb_of (i := 289) (by decide +kernel) rfl, tb_of (i := 71) (by decide +kernel) rfl, ⟨by decide, by decide, by decide +kernel⟩, by decide⟩, tb_of (i := 288) (by decide +kernel) rfl, tb_of (i := 1) (by decide +kernel) rfl⟩
theorem mkX5_refused : mokI yX5_refused cX5_refused 2 (some .int) 1 := ⟨⟨tb_of (i := 293) (by decide +kernel) rfl, tb_of (i := 71) (by decide +kernel) rfl, ⟨by decide, by decide, by decide +kernel⟩, by decide⟩, tb_of (i := 292) (by decide +kernel) rfl, tb_of (i := 2) (by decide +kernel) rfl⟩
theorem mkX5_accept : mokI yX5_accept cX5_accept 1 none 0 := ⟨⟨tb_of (i := 297) (by decide +kernel) rfl, tb_of (i := 71) (by decide +kernel) rfl, ⟨by decide, by decide, by decide +kernel⟩, by decide⟩, tb_of (i := 296) (by decide +kernel) rfl, tb_of (i := 3) (by decide +kernel) rfl⟩
theorem mkX1_keep : mokI yX1_keep cX1_keep 3 none 1 := ⟨⟨tb_of (i := 301) (by decide +kernel) rfl, tb_of (i := 75) (by decide +kernel) rfl, ⟨by decide, by decide, by decide +kernel⟩, by decide⟩, tb_of (i := 299) (by decide +kernel) rfl, tb_of (i := 300) (by decide +kernel) rfl⟩
theorem mkX1_slotAt : mokI yX1_slotAt cX1_slotAt 2 (some (.object "SnakedBus$Bus")) 1 := ⟨⟨tb_of (i := 305) (by decide +kernel) rfl, tb_of (i := 75) (by decide +kernel) rfl, ⟨by decide, by decide, by decide +kernel⟩, by decide⟩, tb_of (i := 304) (by decide +kernel) rfl, tb_of (i := 4) (by decide +kernel) rfl⟩
theorem mkX5_goes : mokI yX5_goes cX5_goes 4 (some .int) 3 := ⟨⟨tb_of (i := 311) (by decide +kernel) rfl, tb_of (i := 71) (by decide +kernel) rfl, ⟨by decide, by decide, by decide +kernel⟩, by decide⟩, tb_of (i := 309) (by decide +kernel) rfl, tb_of (i := 310) (by decide +kernel) rfl⟩
theorem mkX0_addRun : mokI yX0_addRun cX0_addRun 5 (some .int) 3 := ⟨⟨tb_of (i := 315) (by decide +kernel) rfl, tb_of (i := 72) (by decide +kernel) rfl, ⟨by decide, by decide, by decide +kernel⟩, by decide⟩, tb_of (i := 313) (by decide +kernel) rfl, tb_of (i := 314) (by decide +kernel) rfl⟩
theorem mkX0_hasLine : mokI yX0_hasLine cX0_hasLine 2 (some .boolean) 1 := ⟨⟨tb_of (i := 319) (by decide +kernel) rfl, tb_of (i := 72) (by decide +kernel) rfl, ⟨by decide, by decide, by decide +kernel⟩, by decide⟩, tb_of (i := 317) (by decide +kernel) rfl, tb_of (i := 318) (by decide +kernel) rfl⟩
theorem mkX0_runsOf : mokI yX0_runsOf cX0_runsOf 2 (some .int) 1 := ⟨⟨tb_of (i := 323) (by decide +kernel) rfl, tb_of (i := 72) (by decide +kernel) rfl, ⟨by decide, by decide, by decide +kernel⟩, by decide⟩, tb_of (i := 321) (by decide +kernel) rfl, tb_of (i := 322) (by decide +kernel) rfl⟩
theorem mkX5_at : mokS yX5_at cX5_at 2 (some .int) 2 := ⟨⟨tb_of (i := 326) (by decide +kernel) rfl, tb_of (i := 71) (by decide +kernel) rfl, ⟨by decide, by decide, by decide +kernel⟩, by decide⟩, tb_of (i := 325) (by decide +kernel) rfl⟩
theorem mkX5_shortens : mokI yX5_shortens cX5_shortens 2 (some .int) 1 := ⟨⟨tb_of (i := 330) (by decide +kernel) rfl, tb_of (i := 71) (by decide +kernel) rfl, ⟨by decide, by decide, by decide +kernel⟩, by decide⟩, tb_of (i := 328) (by decide +kernel) rfl, tb_of (i := 329) (by decide +kernel) rfl⟩
theorem mkX0_dropRun : mokI yX0_dropRun cX0_dropRun 3 (some .int) 1 := ⟨⟨tb_of (i := 334) (by decide +kernel) rfl, tb_of (i := 72) (by decide +kernel) rfl, ⟨by decide, by decide, by decide +kernel⟩, by decide⟩, tb_of (i := 332) (by decide +kernel) rfl, tb_of (i := 333) (by decide +kernel) rfl⟩
theorem mkX5_pocket : mokI yX5_pocket cX5_pocket 3 (some .int) 2 := ⟨⟨tb_of (i := 338) (by decide +kernel) rfl, tb_of (i := 71) (by decide +kernel) rfl, ⟨by decide, by decide, by decide +kernel⟩, by decide⟩, tb_of (i := 336) (by decide +kernel) rfl, tb_of (i := 337) (by decide +kernel) rfl⟩
theorem mkX0_addPocket : mokI yX0_addPocket cX0_addPocket 3 (some .int) 2 := ⟨⟨tb_of (i := 342) (by decide +kernel) rfl, tb_of (i := 72) (by decide +kernel) rfl, ⟨by decide, by decide, by decide +kernel⟩, by decide⟩, tb_of (i := 340) (by decide +kernel) rfl, tb_of (i := 341) (by decide +kernel) rfl⟩
theorem mkX5_widens : mokI yX5_widens cX5_widens 3 (some .int) 2 := ⟨⟨tb_of (i := 346) (by decide +kernel) rfl, tb_of (i := 71) (by decide +kernel) rfl, ⟨by decide, by decide, by decide +kernel⟩, by decide⟩, tb_of (i := 344) (by decide +kernel) rfl, tb_of (i := 345) (by decide +kernel) rfl⟩
theorem mkX0_changeWide : mokI yX0_changeWide cX0_changeWide 4 (some .int) 2 := ⟨⟨tb_of (i := 350) (by decide +kernel) rfl, tb_of (i := 72) (by decide +kernel) rfl, ⟨by decide, by decide, by decide +kernel⟩, by decide⟩, tb_of (i := 348) (by decide +kernel) rfl, tb_of (i := 349) (by decide +kernel) rfl⟩
theorem mkX0_hasPocket : mokI yX0_hasPocket cX0_hasPocket 2 (some .boolean) 1 := ⟨⟨tb_of (i := 354) (by decide +kernel) rfl, tb_of (i := 72) (by decide +kernel) rfl, ⟨by decide, by decide, by decide +kernel⟩, by decide⟩, tb_of (i := 352) (by decide +kernel) rfl, tb_of (i := 353) (by decide +kernel) rfl⟩
theorem mkX0_wideOf : mokI yX0_wideOf cX0_wideOf 2 (some .int) 1 := ⟨⟨tb_of (i := 358) (by decide +kernel) rfl, tb_of (i := 72) (by decide +kernel) rfl, ⟨by decide, by decide, by decide +kernel⟩, by decide⟩, tb_of (i := 356) (by decide +kernel) rfl, tb_of (i := 357) (by decide +kernel) rfl⟩
theorem mkX5_touches : mokI yX5_touches cX5_touches 3 (some .int) 2 := ⟨⟨tb_of (i := 362) (by decide +kernel) rfl, tb_of (i := 71) (by decide +kernel) rfl, ⟨by decide, by decide, by decide +kernel⟩, by decide⟩, tb_of (i := 360) (by decide +kernel) rfl, tb_of (i := 361) (by decide +kernel) rfl⟩
theorem mkX0_changeTouch : mokI yX0_changeTouch cX0_changeTouch 4 (some .int) 2 := ⟨⟨tb_of (i := 366) (by decide +kernel) rfl, tb_of (i := 72) (by decide +kernel) rfl, ⟨by decide, by decide, by decide +kernel⟩, by decide⟩, tb_of (i := 364) (by decide +kernel) rfl, tb_of (i := 365) (by decide +kernel) rfl⟩
theorem mkX5_sets : mokI yX5_sets cX5_sets 3 (some .int) 2 := ⟨⟨tb_of (i := 370) (by decide +kernel) rfl, tb_of (i := 71) (by decide +kernel) rfl, ⟨by decide, by decide, by decide +kernel⟩, by decide⟩, tb_of (i := 368) (by decide +kernel) rfl, tb_of (i := 369) (by decide +kernel) rfl⟩
theorem mkX0_changeSetting : mokI yX0_changeSetting cX0_changeSetting 4 (some .int) 2 := ⟨⟨tb_of (i := 374) (by decide +kernel) rfl, tb_of (i := 72) (by decide +kernel) rfl, ⟨by decide, by decide, by decide +kernel⟩, by decide⟩, tb_of (i := 372) (by decide +kernel) rfl, tb_of (i := 373) (by decide +kernel) rfl⟩
theorem mkX5_of : mokI yX5_of cX5_of 3 (some .int) 2 := ⟨⟨tb_of (i := 382) (by decide +kernel) rfl, tb_of (i := 71) (by decide +kernel) rfl, ⟨by decide, by decide, by decide +kernel⟩, by decide⟩, tb_of (i := 380) (by decide +kernel) rfl, tb_of (i := 381) (by decide +kernel) rfl⟩
theorem mkX0_baseOf : mokI yX0_baseOf cX0_baseOf 4 (some .int) 1 := ⟨⟨tb_of (i := 388) (by decide +kernel) rfl, tb_of (i := 72) (by decide +kernel) rfl, ⟨by decide, by decide, by decide +kernel⟩, by decide⟩, tb_of (i := 386) (by decide +kernel) rfl, tb_of (i := 387) (by decide +kernel) rfl⟩
theorem mkX0_longOf : mokI yX0_longOf cX0_longOf 3 (some .int) 2 := ⟨⟨tb_of (i := 392) (by decide +kernel) rfl, tb_of (i := 72) (by decide +kernel) rfl, ⟨by decide, by decide, by decide +kernel⟩, by decide⟩, tb_of (i := 390) (by decide +kernel) rfl, tb_of (i := 391) (by decide +kernel) rfl⟩
theorem mm_max_c : Cond.code Lib.Math.max.name Lib.Math.max.code 2 (some .int) ∈ TB := tb_of (i := 395) (by decide +kernel) rfl
theorem mm_max_s : Cond.static Lib.Math.max.name ∈ TB := tb_of (i := 394) (by decide +kernel) rfl
theorem mkX0_settingAt : mokI yX0_settingAt cX0_settingAt 2 (some .int) 1 := ⟨⟨tb_of (i := 399) (by decide +kernel) rfl, tb_of (i := 72) (by decide +kernel) rfl, ⟨by decide, by decide, by decide +kernel⟩, by decide⟩, tb_of (i := 397) (by decide +kernel) rfl, tb_of (i := 398) (by decide +kernel) rfl⟩
theorem mkX0_lackFor : mokI yX0_lackFor cX0_lackFor 4 (some .int) 2 := ⟨⟨tb_of (i := 403) (by decide +kernel) rfl, tb_of (i := 72) (by decide +kernel) rfl, ⟨by decide, by decide, by decide +kernel⟩, by decide⟩, tb_of (i := 401) (by decide +kernel) rfl, tb_of (i := 402) (by decide +kernel) rfl⟩
theorem mkX0_needFor : mokI yX0_needFor cX0_needFor 5 (some .int) 2 := ⟨⟨tb_of (i := 407) (by decide +kernel) rfl, tb_of (i := 72) (by decide +kernel) rfl, ⟨by decide, by decide, by decide +kernel⟩, by decide⟩, tb_of (i := 405) (by decide +kernel) rfl, tb_of (i := 406) (by decide +kernel) rfl⟩
theorem mkX0_gain : mokI yX0_gain cX0_gain 1 (some .int) 0 := ⟨⟨tb_of (i := 412) (by decide +kernel) rfl, tb_of (i := 72) (by decide +kernel) rfl, ⟨by decide, by decide, by decide +kernel⟩, by decide⟩, tb_of (i := 410) (by decide +kernel) rfl, tb_of (i := 411) (by decide +kernel) rfl⟩
theorem mkX0_reachOf : mokI yX0_reachOf cX0_reachOf 4 (some .int) 1 := ⟨⟨tb_of (i := 416) (by decide +kernel) rfl, tb_of (i := 72) (by decide +kernel) rfl, ⟨by decide, by decide, by decide +kernel⟩, by decide⟩, tb_of (i := 414) (by decide +kernel) rfl, tb_of (i := 415) (by decide +kernel) rfl⟩
theorem mkX5_hasBit : mokS yX5_hasBit cX5_hasBit 2 (some .boolean) 2 := ⟨⟨tb_of (i := 419) (by decide +kernel) rfl, tb_of (i := 71) (by decide +kernel) rfl, ⟨by decide, by decide, by decide +kernel⟩, by decide⟩, tb_of (i := 418) (by decide +kernel) rfl⟩
theorem mkX0_turnsOf : mokI yX0_turnsOf cX0_turnsOf 5 (some .int) 2 := ⟨⟨tb_of (i := 423) (by decide +kernel) rfl, tb_of (i := 72) (by decide +kernel) rfl, ⟨by decide, by decide, by decide +kernel⟩, by decide⟩, tb_of (i := 421) (by decide +kernel) rfl, tb_of (i := 422) (by decide +kernel) rfl⟩
theorem mkX0_turnAhead : mokI yX0_turnAhead cX0_turnAhead 3 (some .int) 2 := ⟨⟨tb_of (i := 427) (by decide +kernel) rfl, tb_of (i := 72) (by decide +kernel) rfl, ⟨by decide, by decide, by decide +kernel⟩, by decide⟩, tb_of (i := 425) (by decide +kernel) rfl, tb_of (i := 426) (by decide +kernel) rfl⟩
theorem mkX5_run : mokI yX5_run cX5_run 4 (some .int) 3 := ⟨⟨tb_of (i := 431) (by decide +kernel) rfl, tb_of (i := 71) (by decide +kernel) rfl, ⟨by decide, by decide, by decide +kernel⟩, by decide⟩, tb_of (i := 429) (by decide +kernel) rfl, tb_of (i := 430) (by decide +kernel) rfl⟩
theorem mkX0_hasRun : mokI yX0_hasRun cX0_hasRun 3 (some .boolean) 2 := ⟨⟨tb_of (i := 435) (by decide +kernel) rfl, tb_of (i := 72) (by decide +kernel) rfl, ⟨by decide, by decide, by decide +kernel⟩, by decide⟩, tb_of (i := 433) (by decide +kernel) rfl, tb_of (i := 434) (by decide +kernel) rfl⟩
theorem mkX0_bumpRoom : mokI yX0_bumpRoom cX0_bumpRoom 4 (some .int) 2 := ⟨⟨tb_of (i := 441) (by decide +kernel) rfl, tb_of (i := 72) (by decide +kernel) rfl, ⟨by decide, by decide, by decide +kernel⟩, by decide⟩, tb_of (i := 439) (by decide +kernel) rfl, tb_of (i := 440) (by decide +kernel) rfl⟩
theorem mkX5_about : mokI yX5_about cX5_about 3 (some .int) 2 := ⟨⟨tb_of (i := 445) (by decide +kernel) rfl, tb_of (i := 71) (by decide +kernel) rfl, ⟨by decide, by decide, by decide +kernel⟩, by decide⟩, tb_of (i := 443) (by decide +kernel) rfl, tb_of (i := 444) (by decide +kernel) rfl⟩
theorem mkX0_presentAt : mokI yX0_presentAt cX0_presentAt 2 (some .int) 1 := ⟨⟨tb_of (i := 451) (by decide +kernel) rfl, tb_of (i := 72) (by decide +kernel) rfl, ⟨by decide, by decide, by decide +kernel⟩, by decide⟩, tb_of (i := 449) (by decide +kernel) rfl, tb_of (i := 450) (by decide +kernel) rfl⟩
theorem mkX0_humpsOf : mokI yX0_humpsOf cX0_humpsOf 3 (some .int) 1 := ⟨⟨tb_of (i := 455) (by decide +kernel) rfl, tb_of (i := 72) (by decide +kernel) rfl, ⟨by decide, by decide, by decide +kernel⟩, by decide⟩, tb_of (i := 453) (by decide +kernel) rfl, tb_of (i := 454) (by decide +kernel) rfl⟩
theorem mkX5_plan : mokI yX5_plan cX5_plan 2 (some (.object "SnakedBus$Sharing")) 0 := ⟨⟨tb_of (i := 459) (by decide +kernel) rfl, tb_of (i := 71) (by decide +kernel) rfl, ⟨by decide, by decide, by decide +kernel⟩, by decide⟩, tb_of (i := 458) (by decide +kernel) rfl, tb_of (i := 5) (by decide +kernel) rfl⟩
theorem mkX3_look : mokI yX3_look cX3_look 5 none 2 := ⟨⟨tb_of (i := 463) (by decide +kernel) rfl, tb_of (i := 77) (by decide +kernel) rfl, ⟨by decide, by decide, by decide +kernel⟩, by decide⟩, tb_of (i := 461) (by decide +kernel) rfl, tb_of (i := 462) (by decide +kernel) rfl⟩
theorem mkX0_lineCount : mokI yX0_lineCount cX0_lineCount 1 (some .int) 0 := ⟨⟨tb_of (i := 467) (by decide +kernel) rfl, tb_of (i := 72) (by decide +kernel) rfl, ⟨by decide, by decide, by decide +kernel⟩, by decide⟩, tb_of (i := 465) (by decide +kernel) rfl, tb_of (i := 466) (by decide +kernel) rfl⟩
theorem mkX0_pocketCount : mokI yX0_pocketCount cX0_pocketCount 1 (some .int) 0 := ⟨⟨tb_of (i := 471) (by decide +kernel) rfl, tb_of (i := 72) (by decide +kernel) rfl, ⟨by decide, by decide, by decide +kernel⟩, by decide⟩, tb_of (i := 469) (by decide +kernel) rfl, tb_of (i := 470) (by decide +kernel) rfl⟩
theorem mkX3_joinSets : mokI yX3_joinSets cX3_joinSets 4 none 0 := ⟨⟨tb_of (i := 480) (by decide +kernel) rfl, tb_of (i := 77) (by decide +kernel) rfl, ⟨by decide, by decide, by decide +kernel⟩, by decide⟩, tb_of (i := 479) (by decide +kernel) rfl, tb_of (i := 6) (by decide +kernel) rfl⟩
theorem mkX3_findBlocked : mokI yX3_findBlocked cX3_findBlocked 1 none 0 := ⟨⟨tb_of (i := 485) (by decide +kernel) rfl, tb_of (i := 77) (by decide +kernel) rfl, ⟨by decide, by decide, by decide +kernel⟩, by decide⟩, tb_of (i := 483) (by decide +kernel) rfl, tb_of (i := 484) (by decide +kernel) rfl⟩
theorem mkX3_crowd : mokI yX3_crowd cX3_crowd 5 (some .int) 0 := ⟨⟨tb_of (i := 489) (by decide +kernel) rfl, tb_of (i := 77) (by decide +kernel) rfl, ⟨by decide, by decide, by decide +kernel⟩, by decide⟩, tb_of (i := 488) (by decide +kernel) rfl, tb_of (i := 7) (by decide +kernel) rfl⟩
theorem mkJ6_bitCount_0f7a4 : mokS yJ6_bitCount_0f7a4 cJ6_bitCount_0f7a4 1 (some .int) 1 := ⟨⟨tb_of (i := 492) (by decide +kernel) rfl, tb_of (i := 80) (by decide +kernel) rfl, ⟨by decide, by decide, by decide +kernel⟩, by decide⟩, tb_of (i := 491) (by decide +kernel) rfl⟩
theorem mkX3_spare : mokI yX3_spare cX3_spare 4 (some .int) 1 := ⟨⟨tb_of (i := 499) (by decide +kernel) rfl, tb_of (i := 77) (by decide +kernel) rfl, ⟨by decide, by decide, by decide +kernel⟩, by decide⟩, tb_of (i := 498) (by decide +kernel) rfl, tb_of (i := 8) (by decide +kernel) rfl⟩
theorem mkX3_allFit : mokI yX3_allFit cX3_allFit 1 (some .boolean) 0 := ⟨⟨tb_of (i := 505) (by decide +kernel) rfl, tb_of (i := 77) (by decide +kernel) rfl, ⟨by decide, by decide, by decide +kernel⟩, by decide⟩, tb_of (i := 503) (by decide +kernel) rfl, tb_of (i := 504) (by decide +kernel) rfl⟩
theorem mkX3_drawLine : mokI yX3_drawLine cX3_drawLine 6 none 1 := ⟨⟨tb_of (i := 509) (by decide +kernel) rfl, tb_of (i := 77) (by decide +kernel) rfl, ⟨by decide, by decide, by decide +kernel⟩, by decide⟩, tb_of (i := 507) (by decide +kernel) rfl, tb_of (i := 508) (by decide +kernel) rfl⟩
theorem mkX3_mostFor : mokI yX3_mostFor cX3_mostFor 6 (some .int) 2 := ⟨⟨tb_of (i := 513) (by decide +kernel) rfl, tb_of (i := 77) (by decide +kernel) rfl, ⟨by decide, by decide, by decide +kernel⟩, by decide⟩, tb_of (i := 512) (by decide +kernel) rfl, tb_of (i := 9) (by decide +kernel) rfl⟩
theorem mkX3_freeOf : mokI yX3_freeOf cX3_freeOf 2 (some .int) 1 := ⟨⟨tb_of (i := 519) (by decide +kernel) rfl, tb_of (i := 77) (by decide +kernel) rfl, ⟨by decide, by decide, by decide +kernel⟩, by decide⟩, tb_of (i := 517) (by decide +kernel) rfl, tb_of (i := 518) (by decide +kernel) rfl⟩
theorem mkX5_setting : mokI yX5_setting cX5_setting 2 (some .int) 1 := ⟨⟨tb_of (i := 523) (by decide +kernel) rfl, tb_of (i := 71) (by decide +kernel) rfl, ⟨by decide, by decide, by decide +kernel⟩, by decide⟩, tb_of (i := 521) (by decide +kernel) rfl, tb_of (i := 522) (by decide +kernel) rfl⟩
theorem mkX5_count : mokI yX5_count cX5_count 2 (some .int) 1 := ⟨⟨tb_of (i := 528) (by decide +kernel) rfl, tb_of (i := 71) (by decide +kernel) rfl, ⟨by decide, by decide, by decide +kernel⟩, by decide⟩, tb_of (i := 526) (by decide +kernel) rfl, tb_of (i := 527) (by decide +kernel) rfl⟩
theorem mkX0_longestBase : mokI yX0_longestBase cX0_longestBase 3 (some .int) 0 := ⟨⟨tb_of (i := 534) (by decide +kernel) rfl, tb_of (i := 72) (by decide +kernel) rfl, ⟨by decide, by decide, by decide +kernel⟩, by decide⟩, tb_of (i := 532) (by decide +kernel) rfl, tb_of (i := 533) (by decide +kernel) rfl⟩
theorem mkX0_allHumps : mokI yX0_allHumps cX0_allHumps 3 (some .int) 0 := ⟨⟨tb_of (i := 539) (by decide +kernel) rfl, tb_of (i := 72) (by decide +kernel) rfl, ⟨by decide, by decide, by decide +kernel⟩, by decide⟩, tb_of (i := 537) (by decide +kernel) rfl, tb_of (i := 538) (by decide +kernel) rfl⟩
theorem mkX0_allNeeds : mokI yX0_allNeeds cX0_allNeeds 4 (some .int) 1 := ⟨⟨tb_of (i := 544) (by decide +kernel) rfl, tb_of (i := 72) (by decide +kernel) rfl, ⟨by decide, by decide, by decide +kernel⟩, by decide⟩, tb_of (i := 542) (by decide +kernel) rfl, tb_of (i := 543) (by decide +kernel) rfl⟩
theorem mkX5_draws : mokI yX5_draws cX5_draws 3 (some .int) 2 := ⟨⟨tb_of (i := 549) (by decide +kernel) rfl, tb_of (i := 71) (by decide +kernel) rfl, ⟨by decide, by decide, by decide +kernel⟩, by decide⟩, tb_of (i := 547) (by decide +kernel) rfl, tb_of (i := 548) (by decide +kernel) rfl⟩
theorem mkX3_drawnBy : mokI yX3_drawnBy cX3_drawnBy 3 (some .int) 2 := ⟨⟨tb_of (i := 553) (by decide +kernel) rfl, tb_of (i := 77) (by decide +kernel) rfl, ⟨by decide, by decide, by decide +kernel⟩, by decide⟩, tb_of (i := 551) (by decide +kernel) rfl, tb_of (i := 552) (by decide +kernel) rfl⟩
theorem mkX5_length : mokI yX5_length cX5_length 3 (some .int) 1 := ⟨⟨tb_of (i := 557) (by decide +kernel) rfl, tb_of (i := 71) (by decide +kernel) rfl, ⟨by decide, by decide, by decide +kernel⟩, by decide⟩, tb_of (i := 555) (by decide +kernel) rfl, tb_of (i := 556) (by decide +kernel) rfl⟩
theorem mkX5_blocked : mokI yX5_blocked cX5_blocked 1 (some .int) 0 := ⟨⟨tb_of (i := 561) (by decide +kernel) rfl, tb_of (i := 71) (by decide +kernel) rfl, ⟨by decide, by decide, by decide +kernel⟩, by decide⟩, tb_of (i := 559) (by decide +kernel) rfl, tb_of (i := 560) (by decide +kernel) rfl⟩
theorem mkX3_blockedLines : mokI yX3_blockedLines cX3_blockedLines 1 (some .int) 0 := ⟨⟨tb_of (i := 565) (by decide +kernel) rfl, tb_of (i := 77) (by decide +kernel) rfl, ⟨by decide, by decide, by decide +kernel⟩, by decide⟩, tb_of (i := 563) (by decide +kernel) rfl, tb_of (i := 564) (by decide +kernel) rfl⟩
theorem mkX5_can : mokI yX5_can cX5_can 2 (some .int) 1 := ⟨⟨tb_of (i := 569) (by decide +kernel) rfl, tb_of (i := 71) (by decide +kernel) rfl, ⟨by decide, by decide, by decide +kernel⟩, by decide⟩, tb_of (i := 567) (by decide +kernel) rfl, tb_of (i := 568) (by decide +kernel) rfl⟩
theorem mkX5_fitsBy : mokI yX5_fitsBy cX5_fitsBy 2 (some .boolean) 1 := ⟨⟨tb_of (i := 573) (by decide +kernel) rfl, tb_of (i := 71) (by decide +kernel) rfl, ⟨by decide, by decide, by decide +kernel⟩, by decide⟩, tb_of (i := 572) (by decide +kernel) rfl, tb_of (i := 10) (by decide +kernel) rfl⟩
theorem mkX3_fits : mokI yX3_fits cX3_fits 1 (some .boolean) 0 := ⟨⟨tb_of (i := 577) (by decide +kernel) rfl, tb_of (i := 77) (by decide +kernel) rfl, ⟨by decide, by decide, by decide +kernel⟩, by decide⟩, tb_of (i := 575) (by decide +kernel) rfl, tb_of (i := 576) (by decide +kernel) rfl⟩
theorem mkX5_least : mokI yX5_least cX5_least 2 (some .int) 0 := ⟨⟨tb_of (i := 581) (by decide +kernel) rfl, tb_of (i := 71) (by decide +kernel) rfl, ⟨by decide, by decide, by decide +kernel⟩, by decide⟩, tb_of (i := 579) (by decide +kernel) rfl, tb_of (i := 580) (by decide +kernel) rfl⟩
theorem mkX5_greatest : mokI yX5_greatest cX5_greatest 3 (some .int) 0 := ⟨⟨tb_of (i := 585) (by decide +kernel) rfl, tb_of (i := 71) (by decide +kernel) rfl, ⟨by decide, by decide, by decide +kernel⟩, by decide⟩, tb_of (i := 583) (by decide +kernel) rfl, tb_of (i := 584) (by decide +kernel) rfl⟩
theorem mkX5_more : mokI yX5_more cX5_more 2 (some .int) 0 := ⟨⟨tb_of (i := 589) (by decide +kernel) rfl, tb_of (i := 71) (by decide +kernel) rfl, ⟨by decide, by decide, by decide +kernel⟩, by decide⟩, tb_of (i := 587) (by decide +kernel) rfl, tb_of (i := 588) (by decide +kernel) rfl⟩
theorem mkX3_fitsWithOneMore : mokI yX3_fitsWithOneMore cX3_fitsWithOneMore 4 (some .boolean) 1 := ⟨⟨tb_of (i := 593) (by decide +kernel) rfl, tb_of (i := 77) (by decide +kernel) rfl, ⟨by decide, by decide, by decide +kernel⟩, by decide⟩, tb_of (i := 591) (by decide +kernel) rfl, tb_of (i := 592) (by decide +kernel) rfl⟩
theorem mkX5_bumps : mokI yX5_bumps cX5_bumps 2 (some .int) 1 := ⟨⟨tb_of (i := 598) (by decide +kernel) rfl, tb_of (i := 71) (by decide +kernel) rfl, ⟨by decide, by decide, by decide +kernel⟩, by decide⟩, tb_of (i := 596) (by decide +kernel) rfl, tb_of (i := 597) (by decide +kernel) rfl⟩
theorem mkX2_fewestFor : mokI yX2_fewestFor cX2_fewestFor 4 (some .int) 2 := ⟨⟨tb_of (i := 602) (by decide +kernel) rfl, tb_of (i := 78) (by decide +kernel) rfl, ⟨by decide, by decide, by decide +kernel⟩, by decide⟩, tb_of (i := 600) (by decide +kernel) rfl, tb_of (i := 601) (by decide +kernel) rfl⟩
theorem mkJ7_fill_53178 : mokS yJ7_fill_53178 cJ7_fill_53178 4 none 2 := ⟨⟨tb_of (i := 606) (by decide +kernel) rfl, tb_of (i := 81) (by decide +kernel) rfl, ⟨by decide, by decide, by decide +kernel⟩, by decide⟩, tb_of (i := 605) (by decide +kernel) rfl⟩
theorem mkX2_turnStep : mokS yX2_turnStep cX2_turnStep 1 (some .int) 1 := ⟨⟨tb_of (i := 612) (by decide +kernel) rfl, tb_of (i := 78) (by decide +kernel) rfl, ⟨by decide, by decide, by decide +kernel⟩, by decide⟩, tb_of (i := 611) (by decide +kernel) rfl⟩
theorem mkX2_passRun : mokI yX2_passRun cX2_passRun 6 none 3 := ⟨⟨tb_of (i := 618) (by decide +kernel) rfl, tb_of (i := 78) (by decide +kernel) rfl, ⟨by decide, by decide, by decide +kernel⟩, by decide⟩, tb_of (i := 617) (by decide +kernel) rfl, tb_of (i := 11) (by decide +kernel) rfl⟩
theorem mkX2_putBumps : mokI yX2_putBumps cX2_putBumps 9 none 4 := ⟨⟨tb_of (i := 623) (by decide +kernel) rfl, tb_of (i := 78) (by decide +kernel) rfl, ⟨by decide, by decide, by decide +kernel⟩, by decide⟩, tb_of (i := 622) (by decide +kernel) rfl, tb_of (i := 12) (by decide +kernel) rfl⟩
theorem mm_abs_c : Cond.code Lib.Math.abs.name Lib.Math.abs.code 1 (some .int) ∈ TB := tb_of (i := 626) (by decide +kernel) rfl
theorem mm_abs_s : Cond.static Lib.Math.abs.name ∈ TB := tb_of (i := 625) (by decide +kernel) rfl
theorem mkX5_skew : mokI yX5_skew cX5_skew 3 (some .int) 2 := ⟨⟨tb_of (i := 632) (by decide +kernel) rfl, tb_of (i := 71) (by decide +kernel) rfl, ⟨by decide, by decide, by decide +kernel⟩, by decide⟩, tb_of (i := 630) (by decide +kernel) rfl, tb_of (i := 631) (by decide +kernel) rfl⟩
theorem mkX0_plainSkew : mokI yX0_plainSkew cX0_plainSkew 5 (some .int) 2 := ⟨⟨tb_of (i := 636) (by decide +kernel) rfl, tb_of (i := 72) (by decide +kernel) rfl, ⟨by decide, by decide, by decide +kernel⟩, by decide⟩, tb_of (i := 634) (by decide +kernel) rfl, tb_of (i := 635) (by decide +kernel) rfl⟩
theorem mkX5_type : mokI yX5_type cX5_type 2 (some .int) 1 := ⟨⟨tb_of (i := 640) (by decide +kernel) rfl, tb_of (i := 71) (by decide +kernel) rfl, ⟨by decide, by decide, by decide +kernel⟩, by decide⟩, tb_of (i := 638) (by decide +kernel) rfl, tb_of (i := 639) (by decide +kernel) rfl⟩
theorem mkX4_append : mokI yX4_append cX4_append 2 (some .boolean) 1 := ⟨⟨tb_of (i := 644) (by decide +kernel) rfl, tb_of (i := 76) (by decide +kernel) rfl, ⟨by decide, by decide, by decide +kernel⟩, by decide⟩, tb_of (i := 642) (by decide +kernel) rfl, tb_of (i := 643) (by decide +kernel) rfl⟩
theorem mkX4_size : mokI yX4_size cX4_size 1 (some .int) 0 := ⟨⟨tb_of (i := 649) (by decide +kernel) rfl, tb_of (i := 76) (by decide +kernel) rfl, ⟨by decide, by decide, by decide +kernel⟩, by decide⟩, tb_of (i := 647) (by decide +kernel) rfl, tb_of (i := 648) (by decide +kernel) rfl⟩
theorem mkX5_clear : mokI yX5_clear cX5_clear 2 (some .int) 0 := ⟨⟨tb_of (i := 653) (by decide +kernel) rfl, tb_of (i := 71) (by decide +kernel) rfl, ⟨by decide, by decide, by decide +kernel⟩, by decide⟩, tb_of (i := 651) (by decide +kernel) rfl, tb_of (i := 652) (by decide +kernel) rfl⟩
theorem mkX4_empty : mokI yX4_empty cX4_empty 1 none 0 := ⟨⟨tb_of (i := 657) (by decide +kernel) rfl, tb_of (i := 76) (by decide +kernel) rfl, ⟨by decide, by decide, by decide +kernel⟩, by decide⟩, tb_of (i := 655) (by decide +kernel) rfl, tb_of (i := 656) (by decide +kernel) rfl⟩
theorem mkX5_does : mokI yX5_does cX5_does 3 (some .int) 0 := ⟨⟨tb_of (i := 661) (by decide +kernel) rfl, tb_of (i := 71) (by decide +kernel) rfl, ⟨by decide, by decide, by decide +kernel⟩, by decide⟩, tb_of (i := 659) (by decide +kernel) rfl, tb_of (i := 660) (by decide +kernel) rfl⟩
theorem mkX4_parse : mokI yX4_parse cX4_parse 2 (some .int) 0 := ⟨⟨tb_of (i := 665) (by decide +kernel) rfl, tb_of (i := 76) (by decide +kernel) rfl, ⟨by decide, by decide, by decide +kernel⟩, by decide⟩, tb_of (i := 663) (by decide +kernel) rfl, tb_of (i := 664) (by decide +kernel) rfl⟩
theorem mkX4_takes : mokI yX4_takes cX4_takes 2 (some .boolean) 1 := ⟨⟨tb_of (i := 670) (by decide +kernel) rfl, tb_of (i := 76) (by decide +kernel) rfl, ⟨by decide, by decide, by decide +kernel⟩, by decide⟩, tb_of (i := 669) (by decide +kernel) rfl, tb_of (i := 13) (by decide +kernel) rfl⟩
theorem mkX4_opens : mokI yX4_opens cX4_opens 2 (some .boolean) 1 := ⟨⟨tb_of (i := 674) (by decide +kernel) rfl, tb_of (i := 76) (by decide +kernel) rfl, ⟨by decide, by decide, by decide +kernel⟩, by decide⟩, tb_of (i := 673) (by decide +kernel) rfl, tb_of (i := 14) (by decide +kernel) rfl⟩
theorem mkX4_numbersOf : mokS yX4_numbersOf cX4_numbersOf 1 (some .int) 1 := ⟨⟨tb_of (i := 677) (by decide +kernel) rfl, tb_of (i := 76) (by decide +kernel) rfl, ⟨by decide, by decide, by decide +kernel⟩, by decide⟩, tb_of (i := 676) (by decide +kernel) rfl⟩
theorem mkX4_closes : mokI yX4_closes cX4_closes 1 (some .boolean) 0 := ⟨⟨tb_of (i := 681) (by decide +kernel) rfl, tb_of (i := 76) (by decide +kernel) rfl, ⟨by decide, by decide, by decide +kernel⟩, by decide⟩, tb_of (i := 680) (by decide +kernel) rfl, tb_of (i := 15) (by decide +kernel) rfl⟩
theorem mkX4_takesFigure : mokI yX4_takesFigure cX4_takesFigure 3 (some .boolean) 1 := ⟨⟨tb_of (i := 686) (by decide +kernel) rfl, tb_of (i := 76) (by decide +kernel) rfl, ⟨by decide, by decide, by decide +kernel⟩, by decide⟩, tb_of (i := 685) (by decide +kernel) rfl, tb_of (i := 16) (by decide +kernel) rfl⟩
theorem mkX4_apply : mokI yX4_apply cX4_apply 3 (some .int) 1 := ⟨⟨tb_of (i := 691) (by decide +kernel) rfl, tb_of (i := 76) (by decide +kernel) rfl, ⟨by decide, by decide, by decide +kernel⟩, by decide⟩, tb_of (i := 689) (by decide +kernel) rfl, tb_of (i := 690) (by decide +kernel) rfl⟩
theorem mkX4_applyOne : mokI yX4_applyOne cX4_applyOne 6 (some .int) 2 := ⟨⟨tb_of (i := 695) (by decide +kernel) rfl, tb_of (i := 76) (by decide +kernel) rfl, ⟨by decide, by decide, by decide +kernel⟩, by decide⟩, tb_of (i := 694) (by decide +kernel) rfl, tb_of (i := 17) (by decide +kernel) rfl⟩
theorem mkX4_orderCount : mokI yX4_orderCount cX4_orderCount 1 (some .int) 0 := ⟨⟨tb_of (i := 704) (by decide +kernel) rfl, tb_of (i := 76) (by decide +kernel) rfl, ⟨by decide, by decide, by decide +kernel⟩, by decide⟩, tb_of (i := 702) (by decide +kernel) rfl, tb_of (i := 703) (by decide +kernel) rfl⟩
theorem mkX5_back : mokI yX5_back cX5_back 1 (some .int) 0 := ⟨⟨tb_of (i := 708) (by decide +kernel) rfl, tb_of (i := 71) (by decide +kernel) rfl, ⟨by decide, by decide, by decide +kernel⟩, by decide⟩, tb_of (i := 706) (by decide +kernel) rfl, tb_of (i := 707) (by decide +kernel) rfl⟩
theorem mkX1_giveBack : mokI yX1_giveBack cX1_giveBack 4 (some .boolean) 1 := ⟨⟨tb_of (i := 712) (by decide +kernel) rfl, tb_of (i := 75) (by decide +kernel) rfl, ⟨by decide, by decide, by decide +kernel⟩, by decide⟩, tb_of (i := 710) (by decide +kernel) rfl, tb_of (i := 711) (by decide +kernel) rfl⟩
theorem mkX1_size : mokI yX1_size cX1_size 1 (some .int) 0 := ⟨⟨tb_of (i := 716) (by decide +kernel) rfl, tb_of (i := 75) (by decide +kernel) rfl, ⟨by decide, by decide, by decide +kernel⟩, by decide⟩, tb_of (i := 714) (by decide +kernel) rfl, tb_of (i := 715) (by decide +kernel) rfl⟩
theorem mkX5_told : mokI yX5_told cX5_told 2 (some .int) 1 := ⟨⟨tb_of (i := 720) (by decide +kernel) rfl, tb_of (i := 71) (by decide +kernel) rfl, ⟨by decide, by decide, by decide +kernel⟩, by decide⟩, tb_of (i := 718) (by decide +kernel) rfl, tb_of (i := 719) (by decide +kernel) rfl⟩
theorem mkX5_digest : mokI yX5_digest cX5_digest 5 (some .long) 0 := ⟨⟨tb_of (i := 724) (by decide +kernel) rfl, tb_of (i := 71) (by decide +kernel) rfl, ⟨by decide, by decide, by decide +kernel⟩, by decide⟩, tb_of (i := 722) (by decide +kernel) rfl, tb_of (i := 723) (by decide +kernel) rfl⟩
theorem mkX5_mixed : mokS yX5_mixed cX5_mixed 3 (some .long) 2 := ⟨⟨tb_of (i := 729) (by decide +kernel) rfl, tb_of (i := 71) (by decide +kernel) rfl, ⟨by decide, by decide, by decide +kernel⟩, by decide⟩, tb_of (i := 728) (by decide +kernel) rfl⟩
theorem mkX5_mixedLine : mokI yX5_mixedLine cX5_mixedLine 8 (some .long) 2 := ⟨⟨tb_of (i := 735) (by decide +kernel) rfl, tb_of (i := 71) (by decide +kernel) rfl, ⟨by decide, by decide, by decide +kernel⟩, by decide⟩, tb_of (i := 734) (by decide +kernel) rfl, tb_of (i := 18) (by decide +kernel) rfl⟩
theorem mkX5_mixedHumps : mokI yX5_mixedHumps cX5_mixedHumps 7 (some .long) 1 := ⟨⟨tb_of (i := 746) (by decide +kernel) rfl, tb_of (i := 71) (by decide +kernel) rfl, ⟨by decide, by decide, by decide +kernel⟩, by decide⟩, tb_of (i := 745) (by decide +kernel) rfl, tb_of (i := 19) (by decide +kernel) rfl⟩
theorem mkX6_back : mokI yX6_back cX6_back 1 (some .int) 0 := ⟨⟨tb_of (i := 802) (by decide +kernel) rfl, tb_of (i := 79) (by decide +kernel) rfl, ⟨by decide, by decide, by decide +kernel⟩, by decide⟩, tb_of (i := 800) (by decide +kernel) rfl, tb_of (i := 801) (by decide +kernel) rfl⟩
theorem mkX6_no : mokI yX6_no cX6_no 1 (some .int) 0 := ⟨⟨tb_of (i := 806) (by decide +kernel) rfl, tb_of (i := 79) (by decide +kernel) rfl, ⟨by decide, by decide, by decide +kernel⟩, by decide⟩, tb_of (i := 805) (by decide +kernel) rfl, tb_of (i := 20) (by decide +kernel) rfl⟩
theorem mkX6_takes : mokI yX6_takes cX6_takes 3 none 1 := ⟨⟨tb_of (i := 810) (by decide +kernel) rfl, tb_of (i := 79) (by decide +kernel) rfl, ⟨by decide, by decide, by decide +kernel⟩, by decide⟩, tb_of (i := 809) (by decide +kernel) rfl, tb_of (i := 21) (by decide +kernel) rfl⟩
theorem mkX6_line : mokI yX6_line cX6_line 2 (some .int) 1 := ⟨⟨tb_of (i := 814) (by decide +kernel) rfl, tb_of (i := 79) (by decide +kernel) rfl, ⟨by decide, by decide, by decide +kernel⟩, by decide⟩, tb_of (i := 812) (by decide +kernel) rfl, tb_of (i := 813) (by decide +kernel) rfl⟩
theorem mkX6_puts : mokI yX6_puts cX6_puts 3 none 1 := ⟨⟨tb_of (i := 818) (by decide +kernel) rfl, tb_of (i := 79) (by decide +kernel) rfl, ⟨by decide, by decide, by decide +kernel⟩, by decide⟩, tb_of (i := 817) (by decide +kernel) rfl, tb_of (i := 22) (by decide +kernel) rfl⟩
theorem mkX6_addLine : mokI yX6_addLine cX6_addLine 4 (some .int) 1 := ⟨⟨tb_of (i := 822) (by decide +kernel) rfl, tb_of (i := 79) (by decide +kernel) rfl, ⟨by decide, by decide, by decide +kernel⟩, by decide⟩, tb_of (i := 821) (by decide +kernel) rfl, tb_of (i := 23) (by decide +kernel) rfl⟩
theorem mkX6_in : mokS yX6_in cX6_in 3 (some .boolean) 3 := ⟨⟨tb_of (i := 825) (by decide +kernel) rfl, tb_of (i := 79) (by decide +kernel) rfl, ⟨by decide, by decide, by decide +kernel⟩, by decide⟩, tb_of (i := 824) (by decide +kernel) rfl⟩
theorem mkX6_done : mokI yX6_done cX6_done 2 (some .int) 1 := ⟨⟨tb_of (i := 829) (by decide +kernel) rfl, tb_of (i := 79) (by decide +kernel) rfl, ⟨by decide, by decide, by decide +kernel⟩, by decide⟩, tb_of (i := 828) (by decide +kernel) rfl, tb_of (i := 24) (by decide +kernel) rfl⟩
theorem mkX6_counted : mokI yX6_counted cX6_counted 2 (some .int) 1 := ⟨⟨tb_of (i := 833) (by decide +kernel) rfl, tb_of (i := 79) (by decide +kernel) rfl, ⟨by decide, by decide, by decide +kernel⟩, by decide⟩, tb_of (i := 832) (by decide +kernel) rfl, tb_of (i := 25) (by decide +kernel) rfl⟩
theorem mkX6_bad : mokI yX6_bad cX6_bad 1 (some .int) 0 := ⟨⟨tb_of (i := 837) (by decide +kernel) rfl, tb_of (i := 79) (by decide +kernel) rfl, ⟨by decide, by decide, by decide +kernel⟩, by decide⟩, tb_of (i := 836) (by decide +kernel) rfl, tb_of (i := 26) (by decide +kernel) rfl⟩
theorem mkX6_full : mokI yX6_full cX6_full 1 (some .int) 0 := ⟨⟨tb_of (i := 841) (by decide +kernel) rfl, tb_of (i := 79) (by decide +kernel) rfl, ⟨by decide, by decide, by decide +kernel⟩, by decide⟩, tb_of (i := 840) (by decide +kernel) rfl, tb_of (i := 27) (by decide +kernel) rfl⟩
theorem mkX6_leavesState : mokI yX6_leavesState cX6_leavesState 2 none 0 := ⟨⟨tb_of (i := 845) (by decide +kernel) rfl, tb_of (i := 79) (by decide +kernel) rfl, ⟨by decide, by decide, by decide +kernel⟩, by decide⟩, tb_of (i := 844) (by decide +kernel) rfl, tb_of (i := 28) (by decide +kernel) rfl⟩
theorem mkX6_goes : mokI yX6_goes cX6_goes 4 (some .int) 3 := ⟨⟨tb_of (i := 849) (by decide +kernel) rfl, tb_of (i := 79) (by decide +kernel) rfl, ⟨by decide, by decide, by decide +kernel⟩, by decide⟩, tb_of (i := 847) (by decide +kernel) rfl, tb_of (i := 848) (by decide +kernel) rfl⟩
theorem mkX6_addRun : mokI yX6_addRun cX6_addRun 5 (some .int) 3 := ⟨⟨tb_of (i := 853) (by decide +kernel) rfl, tb_of (i := 79) (by decide +kernel) rfl, ⟨by decide, by decide, by decide +kernel⟩, by decide⟩, tb_of (i := 852) (by decide +kernel) rfl, tb_of (i := 29) (by decide +kernel) rfl⟩
theorem mkX6_isLine : mokI yX6_isLine cX6_isLine 2 (some .boolean) 1 := ⟨⟨tb_of (i := 857) (by decide +kernel) rfl, tb_of (i := 79) (by decide +kernel) rfl, ⟨by decide, by decide, by decide +kernel⟩, by decide⟩, tb_of (i := 856) (by decide +kernel) rfl, tb_of (i := 30) (by decide +kernel) rfl⟩
theorem mkX6_runsOf : mokI yX6_runsOf cX6_runsOf 2 (some .int) 1 := ⟨⟨tb_of (i := 861) (by decide +kernel) rfl, tb_of (i := 79) (by decide +kernel) rfl, ⟨by decide, by decide, by decide +kernel⟩, by decide⟩, tb_of (i := 860) (by decide +kernel) rfl, tb_of (i := 31) (by decide +kernel) rfl⟩
theorem mkX6_shortens : mokI yX6_shortens cX6_shortens 2 (some .int) 1 := ⟨⟨tb_of (i := 865) (by decide +kernel) rfl, tb_of (i := 79) (by decide +kernel) rfl, ⟨by decide, by decide, by decide +kernel⟩, by decide⟩, tb_of (i := 863) (by decide +kernel) rfl, tb_of (i := 864) (by decide +kernel) rfl⟩
theorem mkX6_dropRun : mokI yX6_dropRun cX6_dropRun 2 (some .int) 1 := ⟨⟨tb_of (i := 869) (by decide +kernel) rfl, tb_of (i := 79) (by decide +kernel) rfl, ⟨by decide, by decide, by decide +kernel⟩, by decide⟩, tb_of (i := 868) (by decide +kernel) rfl, tb_of (i := 32) (by decide +kernel) rfl⟩
theorem mkX6_pocket : mokI yX6_pocket cX6_pocket 3 (some .int) 2 := ⟨⟨tb_of (i := 873) (by decide +kernel) rfl, tb_of (i := 79) (by decide +kernel) rfl, ⟨by decide, by decide, by decide +kernel⟩, by decide⟩, tb_of (i := 871) (by decide +kernel) rfl, tb_of (i := 872) (by decide +kernel) rfl⟩
theorem mkX6_addPocket : mokI yX6_addPocket cX6_addPocket 4 (some .int) 2 := ⟨⟨tb_of (i := 877) (by decide +kernel) rfl, tb_of (i := 79) (by decide +kernel) rfl, ⟨by decide, by decide, by decide +kernel⟩, by decide⟩, tb_of (i := 876) (by decide +kernel) rfl, tb_of (i := 33) (by decide +kernel) rfl⟩
theorem mkX6_widens : mokI yX6_widens cX6_widens 3 (some .int) 2 := ⟨⟨tb_of (i := 881) (by decide +kernel) rfl, tb_of (i := 79) (by decide +kernel) rfl, ⟨by decide, by decide, by decide +kernel⟩, by decide⟩, tb_of (i := 879) (by decide +kernel) rfl, tb_of (i := 880) (by decide +kernel) rfl⟩
theorem mkX6_setWide : mokI yX6_setWide cX6_setWide 3 (some .int) 2 := ⟨⟨tb_of (i := 885) (by decide +kernel) rfl, tb_of (i := 79) (by decide +kernel) rfl, ⟨by decide, by decide, by decide +kernel⟩, by decide⟩, tb_of (i := 884) (by decide +kernel) rfl, tb_of (i := 34) (by decide +kernel) rfl⟩
theorem mkX6_isPocket : mokI yX6_isPocket cX6_isPocket 2 (some .boolean) 1 := ⟨⟨tb_of (i := 889) (by decide +kernel) rfl, tb_of (i := 79) (by decide +kernel) rfl, ⟨by decide, by decide, by decide +kernel⟩, by decide⟩, tb_of (i := 888) (by decide +kernel) rfl, tb_of (i := 35) (by decide +kernel) rfl⟩
theorem mkX6_becomes : mokI yX6_becomes cX6_becomes 4 (some .int) 2 := ⟨⟨tb_of (i := 893) (by decide +kernel) rfl, tb_of (i := 79) (by decide +kernel) rfl, ⟨by decide, by decide, by decide +kernel⟩, by decide⟩, tb_of (i := 892) (by decide +kernel) rfl, tb_of (i := 36) (by decide +kernel) rfl⟩
theorem mkX6_touches : mokI yX6_touches cX6_touches 3 (some .int) 2 := ⟨⟨tb_of (i := 897) (by decide +kernel) rfl, tb_of (i := 79) (by decide +kernel) rfl, ⟨by decide, by decide, by decide +kernel⟩, by decide⟩, tb_of (i := 895) (by decide +kernel) rfl, tb_of (i := 896) (by decide +kernel) rfl⟩
theorem mkX6_setTouch : mokI yX6_setTouch cX6_setTouch 3 (some .int) 2 := ⟨⟨tb_of (i := 901) (by decide +kernel) rfl, tb_of (i := 79) (by decide +kernel) rfl, ⟨by decide, by decide, by decide +kernel⟩, by decide⟩, tb_of (i := 900) (by decide +kernel) rfl, tb_of (i := 37) (by decide +kernel) rfl⟩
theorem mkX6_sets : mokI yX6_sets cX6_sets 3 (some .int) 2 := ⟨⟨tb_of (i := 905) (by decide +kernel) rfl, tb_of (i := 79) (by decide +kernel) rfl, ⟨by decide, by decide, by decide +kernel⟩, by decide⟩, tb_of (i := 903) (by decide +kernel) rfl, tb_of (i := 904) (by decide +kernel) rfl⟩
theorem mkX6_setSetting : mokI yX6_setSetting cX6_setSetting 3 (some .int) 2 := ⟨⟨tb_of (i := 909) (by decide +kernel) rfl, tb_of (i := 79) (by decide +kernel) rfl, ⟨by decide, by decide, by decide +kernel⟩, by decide⟩, tb_of (i := 908) (by decide +kernel) rfl, tb_of (i := 38) (by decide +kernel) rfl⟩
theorem mkX6_leastOf : mokS yX6_leastOf cX6_leastOf 1 (some .int) 1 := ⟨⟨tb_of (i := 912) (by decide +kernel) rfl, tb_of (i := 79) (by decide +kernel) rfl, ⟨by decide, by decide, by decide +kernel⟩, by decide⟩, tb_of (i := 911) (by decide +kernel) rfl⟩
theorem mkX6_mostOf : mokS yX6_mostOf cX6_mostOf 1 (some .int) 1 := ⟨⟨tb_of (i := 915) (by decide +kernel) rfl, tb_of (i := 79) (by decide +kernel) rfl, ⟨by decide, by decide, by decide +kernel⟩, by decide⟩, tb_of (i := 914) (by decide +kernel) rfl⟩
theorem mkX6_of : mokI yX6_of cX6_of 3 (some .int) 2 := ⟨⟨tb_of (i := 919) (by decide +kernel) rfl, tb_of (i := 79) (by decide +kernel) rfl, ⟨by decide, by decide, by decide +kernel⟩, by decide⟩, tb_of (i := 917) (by decide +kernel) rfl, tb_of (i := 918) (by decide +kernel) rfl⟩
theorem mkX6_toldLine : mokI yX6_toldLine cX6_toldLine 3 (some .int) 2 := ⟨⟨tb_of (i := 923) (by decide +kernel) rfl, tb_of (i := 79) (by decide +kernel) rfl, ⟨by decide, by decide, by decide +kernel⟩, by decide⟩, tb_of (i := 922) (by decide +kernel) rfl, tb_of (i := 39) (by decide +kernel) rfl⟩
theorem mkX6_base : mokI yX6_base cX6_base 4 (some .int) 1 := ⟨⟨tb_of (i := 927) (by decide +kernel) rfl, tb_of (i := 79) (by decide +kernel) rfl, ⟨by decide, by decide, by decide +kernel⟩, by decide⟩, tb_of (i := 926) (by decide +kernel) rfl, tb_of (i := 40) (by decide +kernel) rfl⟩
theorem mkX6_longOf : mokI yX6_longOf cX6_longOf 3 (some .int) 2 := ⟨⟨tb_of (i := 931) (by decide +kernel) rfl, tb_of (i := 79) (by decide +kernel) rfl, ⟨by decide, by decide, by decide +kernel⟩, by decide⟩, tb_of (i := 930) (by decide +kernel) rfl, tb_of (i := 41) (by decide +kernel) rfl⟩
theorem mkX6_lack : mokI yX6_lack cX6_lack 4 (some .int) 2 := ⟨⟨tb_of (i := 935) (by decide +kernel) rfl, tb_of (i := 79) (by decide +kernel) rfl, ⟨by decide, by decide, by decide +kernel⟩, by decide⟩, tb_of (i := 934) (by decide +kernel) rfl, tb_of (i := 42) (by decide +kernel) rfl⟩
theorem mkX6_needBy : mokI yX6_needBy cX6_needBy 4 (some .int) 2 := ⟨⟨tb_of (i := 939) (by decide +kernel) rfl, tb_of (i := 79) (by decide +kernel) rfl, ⟨by decide, by decide, by decide +kernel⟩, by decide⟩, tb_of (i := 938) (by decide +kernel) rfl, tb_of (i := 43) (by decide +kernel) rfl⟩
theorem mkX6_gain : mokI yX6_gain cX6_gain 1 (some .int) 0 := ⟨⟨tb_of (i := 943) (by decide +kernel) rfl, tb_of (i := 79) (by decide +kernel) rfl, ⟨by decide, by decide, by decide +kernel⟩, by decide⟩, tb_of (i := 942) (by decide +kernel) rfl, tb_of (i := 44) (by decide +kernel) rfl⟩
theorem mkX6_pocketsOf : mokI yX6_pocketsOf cX6_pocketsOf 4 (some .int) 1 := ⟨⟨tb_of (i := 947) (by decide +kernel) rfl, tb_of (i := 79) (by decide +kernel) rfl, ⟨by decide, by decide, by decide +kernel⟩, by decide⟩, tb_of (i := 946) (by decide +kernel) rfl, tb_of (i := 45) (by decide +kernel) rfl⟩
theorem mkX6_turns : mokI yX6_turns cX6_turns 5 (some .int) 2 := ⟨⟨tb_of (i := 951) (by decide +kernel) rfl, tb_of (i := 79) (by decide +kernel) rfl, ⟨by decide, by decide, by decide +kernel⟩, by decide⟩, tb_of (i := 950) (by decide +kernel) rfl, tb_of (i := 46) (by decide +kernel) rfl⟩
theorem mkX6_turnOf : mokI yX6_turnOf cX6_turnOf 3 (some .int) 2 := ⟨⟨tb_of (i := 955) (by decide +kernel) rfl, tb_of (i := 79) (by decide +kernel) rfl, ⟨by decide, by decide, by decide +kernel⟩, by decide⟩, tb_of (i := 954) (by decide +kernel) rfl, tb_of (i := 47) (by decide +kernel) rfl⟩
theorem mkX6_run : mokI yX6_run cX6_run 4 (some .int) 3 := ⟨⟨tb_of (i := 959) (by decide +kernel) rfl, tb_of (i := 79) (by decide +kernel) rfl, ⟨by decide, by decide, by decide +kernel⟩, by decide⟩, tb_of (i := 957) (by decide +kernel) rfl, tb_of (i := 958) (by decide +kernel) rfl⟩
theorem mkX6_isRun : mokI yX6_isRun cX6_isRun 3 (some .boolean) 2 := ⟨⟨tb_of (i := 963) (by decide +kernel) rfl, tb_of (i := 79) (by decide +kernel) rfl, ⟨by decide, by decide, by decide +kernel⟩, by decide⟩, tb_of (i := 962) (by decide +kernel) rfl, tb_of (i := 48) (by decide +kernel) rfl⟩
theorem mkX6_toldRun : mokI yX6_toldRun cX6_toldRun 4 (some .int) 3 := ⟨⟨tb_of (i := 967) (by decide +kernel) rfl, tb_of (i := 79) (by decide +kernel) rfl, ⟨by decide, by decide, by decide +kernel⟩, by decide⟩, tb_of (i := 966) (by decide +kernel) rfl, tb_of (i := 49) (by decide +kernel) rfl⟩
theorem mkX6_can : mokI yX6_can cX6_can 2 (some .int) 1 := ⟨⟨tb_of (i := 971) (by decide +kernel) rfl, tb_of (i := 79) (by decide +kernel) rfl, ⟨by decide, by decide, by decide +kernel⟩, by decide⟩, tb_of (i := 969) (by decide +kernel) rfl, tb_of (i := 970) (by decide +kernel) rfl⟩
theorem mkX6_allCan : mokI yX6_allCan cX6_allCan 2 (some .boolean) 1 := ⟨⟨tb_of (i := 975) (by decide +kernel) rfl, tb_of (i := 79) (by decide +kernel) rfl, ⟨by decide, by decide, by decide +kernel⟩, by decide⟩, tb_of (i := 974) (by decide +kernel) rfl, tb_of (i := 50) (by decide +kernel) rfl⟩
theorem mkX6_lays : mokI yX6_lays cX6_lays 4 (some .boolean) 1 := ⟨⟨tb_of (i := 979) (by decide +kernel) rfl, tb_of (i := 79) (by decide +kernel) rfl, ⟨by decide, by decide, by decide +kernel⟩, by decide⟩, tb_of (i := 978) (by decide +kernel) rfl, tb_of (i := 51) (by decide +kernel) rfl⟩
theorem mkX6_humps : mokI yX6_humps cX6_humps 2 (some .int) 1 := ⟨⟨tb_of (i := 983) (by decide +kernel) rfl, tb_of (i := 79) (by decide +kernel) rfl, ⟨by decide, by decide, by decide +kernel⟩, by decide⟩, tb_of (i := 982) (by decide +kernel) rfl, tb_of (i := 52) (by decide +kernel) rfl⟩
theorem mkX6_areEnough : mokI yX6_areEnough cX6_areEnough 3 (some .boolean) 0 := ⟨⟨tb_of (i := 987) (by decide +kernel) rfl, tb_of (i := 79) (by decide +kernel) rfl, ⟨by decide, by decide, by decide +kernel⟩, by decide⟩, tb_of (i := 986) (by decide +kernel) rfl, tb_of (i := 53) (by decide +kernel) rfl⟩
theorem mkX6_isEnough : mokI yX6_isEnough cX6_isEnough 5 (some .boolean) 1 := ⟨⟨tb_of (i := 991) (by decide +kernel) rfl, tb_of (i := 79) (by decide +kernel) rfl, ⟨by decide, by decide, by decide +kernel⟩, by decide⟩, tb_of (i := 990) (by decide +kernel) rfl, tb_of (i := 54) (by decide +kernel) rfl⟩
theorem mkX6_least : mokI yX6_least cX6_least 1 (some .int) 0 := ⟨⟨tb_of (i := 995) (by decide +kernel) rfl, tb_of (i := 79) (by decide +kernel) rfl, ⟨by decide, by decide, by decide +kernel⟩, by decide⟩, tb_of (i := 993) (by decide +kernel) rfl, tb_of (i := 994) (by decide +kernel) rfl⟩
theorem mkX6_longest : mokI yX6_longest cX6_longest 3 (some .int) 0 := ⟨⟨tb_of (i := 999) (by decide +kernel) rfl, tb_of (i := 79) (by decide +kernel) rfl, ⟨by decide, by decide, by decide +kernel⟩, by decide⟩, tb_of (i := 998) (by decide +kernel) rfl, tb_of (i := 55) (by decide +kernel) rfl⟩
theorem mkX6_greatest : mokI yX6_greatest cX6_greatest 4 (some .int) 0 := ⟨⟨tb_of (i := 1003) (by decide +kernel) rfl, tb_of (i := 79) (by decide +kernel) rfl, ⟨by decide, by decide, by decide +kernel⟩, by decide⟩, tb_of (i := 1001) (by decide +kernel) rfl, tb_of (i := 1002) (by decide +kernel) rfl⟩
theorem mkX6_blocked : mokI yX6_blocked cX6_blocked 4 (some .int) 0 := ⟨⟨tb_of (i := 1007) (by decide +kernel) rfl, tb_of (i := 79) (by decide +kernel) rfl, ⟨by decide, by decide, by decide +kernel⟩, by decide⟩, tb_of (i := 1005) (by decide +kernel) rfl, tb_of (i := 1006) (by decide +kernel) rfl⟩
theorem mkX6_ones : mokS yX6_ones cX6_ones 3 (some .int) 1 := ⟨⟨tb_of (i := 1010) (by decide +kernel) rfl, tb_of (i := 79) (by decide +kernel) rfl, ⟨by decide, by decide, by decide +kernel⟩, by decide⟩, tb_of (i := 1009) (by decide +kernel) rfl⟩
theorem mkX6_more : mokI yX6_more cX6_more 4 (some .int) 0 := ⟨⟨tb_of (i := 1014) (by decide +kernel) rfl, tb_of (i := 79) (by decide +kernel) rfl, ⟨by decide, by decide, by decide +kernel⟩, by decide⟩, tb_of (i := 1012) (by decide +kernel) rfl, tb_of (i := 1013) (by decide +kernel) rfl⟩
theorem mkX6_allCanNow : mokI yX6_allCanNow cX6_allCanNow 1 (some .boolean) 0 := ⟨⟨tb_of (i := 1018) (by decide +kernel) rfl, tb_of (i := 79) (by decide +kernel) rfl, ⟨by decide, by decide, by decide +kernel⟩, by decide⟩, tb_of (i := 1017) (by decide +kernel) rfl, tb_of (i := 56) (by decide +kernel) rfl⟩
theorem mkX6_draws : mokI yX6_draws cX6_draws 3 (some .int) 2 := ⟨⟨tb_of (i := 1022) (by decide +kernel) rfl, tb_of (i := 79) (by decide +kernel) rfl, ⟨by decide, by decide, by decide +kernel⟩, by decide⟩, tb_of (i := 1020) (by decide +kernel) rfl, tb_of (i := 1021) (by decide +kernel) rfl⟩
theorem mkX6_draw : mokI yX6_draw cX6_draw 5 (some .boolean) 0 := ⟨⟨tb_of (i := 1026) (by decide +kernel) rfl, tb_of (i := 79) (by decide +kernel) rfl, ⟨by decide, by decide, by decide +kernel⟩, by decide⟩, tb_of (i := 1025) (by decide +kernel) rfl, tb_of (i := 57) (by decide +kernel) rfl⟩
theorem mkX6_length : mokI yX6_length cX6_length 2 (some .int) 1 := ⟨⟨tb_of (i := 1030) (by decide +kernel) rfl, tb_of (i := 79) (by decide +kernel) rfl, ⟨by decide, by decide, by decide +kernel⟩, by decide⟩, tb_of (i := 1028) (by decide +kernel) rfl, tb_of (i := 1029) (by decide +kernel) rfl⟩
theorem mkX6_about : mokI yX6_about cX6_about 3 (some .int) 2 := ⟨⟨tb_of (i := 1034) (by decide +kernel) rfl, tb_of (i := 79) (by decide +kernel) rfl, ⟨by decide, by decide, by decide +kernel⟩, by decide⟩, tb_of (i := 1032) (by decide +kernel) rfl, tb_of (i := 1033) (by decide +kernel) rfl⟩
theorem mkX6_toldPocket : mokI yX6_toldPocket cX6_toldPocket 3 (some .int) 2 := ⟨⟨tb_of (i := 1038) (by decide +kernel) rfl, tb_of (i := 79) (by decide +kernel) rfl, ⟨by decide, by decide, by decide +kernel⟩, by decide⟩, tb_of (i := 1037) (by decide +kernel) rfl, tb_of (i := 58) (by decide +kernel) rfl⟩
theorem mkX6_free : mokI yX6_free cX6_free 4 (some .int) 1 := ⟨⟨tb_of (i := 1042) (by decide +kernel) rfl, tb_of (i := 79) (by decide +kernel) rfl, ⟨by decide, by decide, by decide +kernel⟩, by decide⟩, tb_of (i := 1041) (by decide +kernel) rfl, tb_of (i := 59) (by decide +kernel) rfl⟩
theorem mkX6_setting : mokI yX6_setting cX6_setting 2 (some .int) 1 := ⟨⟨tb_of (i := 1046) (by decide +kernel) rfl, tb_of (i := 79) (by decide +kernel) rfl, ⟨by decide, by decide, by decide +kernel⟩, by decide⟩, tb_of (i := 1044) (by decide +kernel) rfl, tb_of (i := 1045) (by decide +kernel) rfl⟩
theorem mkX6_count : mokI yX6_count cX6_count 2 (some .int) 1 := ⟨⟨tb_of (i := 1050) (by decide +kernel) rfl, tb_of (i := 79) (by decide +kernel) rfl, ⟨by decide, by decide, by decide +kernel⟩, by decide⟩, tb_of (i := 1048) (by decide +kernel) rfl, tb_of (i := 1049) (by decide +kernel) rfl⟩
theorem mkX6_countOf : mokI yX6_countOf cX6_countOf 4 (some .int) 1 := ⟨⟨tb_of (i := 1054) (by decide +kernel) rfl, tb_of (i := 79) (by decide +kernel) rfl, ⟨by decide, by decide, by decide +kernel⟩, by decide⟩, tb_of (i := 1053) (by decide +kernel) rfl, tb_of (i := 60) (by decide +kernel) rfl⟩
theorem mkX6_skew : mokI yX6_skew cX6_skew 3 (some .int) 2 := ⟨⟨tb_of (i := 1058) (by decide +kernel) rfl, tb_of (i := 79) (by decide +kernel) rfl, ⟨by decide, by decide, by decide +kernel⟩, by decide⟩, tb_of (i := 1056) (by decide +kernel) rfl, tb_of (i := 1057) (by decide +kernel) rfl⟩
theorem mkX6_skewOf : mokI yX6_skewOf cX6_skewOf 5 (some .int) 2 := ⟨⟨tb_of (i := 1062) (by decide +kernel) rfl, tb_of (i := 79) (by decide +kernel) rfl, ⟨by decide, by decide, by decide +kernel⟩, by decide⟩, tb_of (i := 1061) (by decide +kernel) rfl, tb_of (i := 61) (by decide +kernel) rfl⟩
theorem mkX6_bumps : mokI yX6_bumps cX6_bumps 2 (some .int) 1 := ⟨⟨tb_of (i := 1066) (by decide +kernel) rfl, tb_of (i := 79) (by decide +kernel) rfl, ⟨by decide, by decide, by decide +kernel⟩, by decide⟩, tb_of (i := 1064) (by decide +kernel) rfl, tb_of (i := 1065) (by decide +kernel) rfl⟩
theorem mkX6_fewestBumps : mokI yX6_fewestBumps cX6_fewestBumps 11 (some .int) 1 := ⟨⟨tb_of (i := 1070) (by decide +kernel) rfl, tb_of (i := 79) (by decide +kernel) rfl, ⟨by decide, by decide, by decide +kernel⟩, by decide⟩, tb_of (i := 1069) (by decide +kernel) rfl, tb_of (i := 62) (by decide +kernel) rfl⟩
theorem mkX6_type : mokI yX6_type cX6_type 2 (some .int) 1 := ⟨⟨tb_of (i := 1074) (by decide +kernel) rfl, tb_of (i := 79) (by decide +kernel) rfl, ⟨by decide, by decide, by decide +kernel⟩, by decide⟩, tb_of (i := 1072) (by decide +kernel) rfl, tb_of (i := 1073) (by decide +kernel) rfl⟩
theorem mkX6_clear : mokI yX6_clear cX6_clear 2 (some .int) 0 := ⟨⟨tb_of (i := 1078) (by decide +kernel) rfl, tb_of (i := 79) (by decide +kernel) rfl, ⟨by decide, by decide, by decide +kernel⟩, by decide⟩, tb_of (i := 1076) (by decide +kernel) rfl, tb_of (i := 1077) (by decide +kernel) rfl⟩
theorem mkX6_does : mokI yX6_does cX6_does 4 (some .int) 0 := ⟨⟨tb_of (i := 1082) (by decide +kernel) rfl, tb_of (i := 79) (by decide +kernel) rfl, ⟨by decide, by decide, by decide +kernel⟩, by decide⟩, tb_of (i := 1080) (by decide +kernel) rfl, tb_of (i := 1081) (by decide +kernel) rfl⟩
theorem mkX6_blanks : mokI yX6_blanks cX6_blanks 1 none 0 := ⟨⟨tb_of (i := 1086) (by decide +kernel) rfl, tb_of (i := 79) (by decide +kernel) rfl, ⟨by decide, by decide, by decide +kernel⟩, by decide⟩, tb_of (i := 1085) (by decide +kernel) rfl, tb_of (i := 63) (by decide +kernel) rfl⟩
theorem mkX6_byteAt : mokI yX6_byteAt cX6_byteAt 2 (some .int) 1 := ⟨⟨tb_of (i := 1090) (by decide +kernel) rfl, tb_of (i := 79) (by decide +kernel) rfl, ⟨by decide, by decide, by decide +kernel⟩, by decide⟩, tb_of (i := 1089) (by decide +kernel) rfl, tb_of (i := 64) (by decide +kernel) rfl⟩
theorem mkX6_reads : mokI yX6_reads cX6_reads 5 (some .boolean) 0 := ⟨⟨tb_of (i := 1094) (by decide +kernel) rfl, tb_of (i := 79) (by decide +kernel) rfl, ⟨by decide, by decide, by decide +kernel⟩, by decide⟩, tb_of (i := 1093) (by decide +kernel) rfl, tb_of (i := 65) (by decide +kernel) rfl⟩
theorem mkX6_wants : mokS yX6_wants cX6_wants 1 (some .int) 1 := ⟨⟨tb_of (i := 1097) (by decide +kernel) rfl, tb_of (i := 79) (by decide +kernel) rfl, ⟨by decide, by decide, by decide +kernel⟩, by decide⟩, tb_of (i := 1096) (by decide +kernel) rfl⟩
theorem mkX6_number : mokI yX6_number cX6_number 3 (some .int) 0 := ⟨⟨tb_of (i := 1101) (by decide +kernel) rfl, tb_of (i := 79) (by decide +kernel) rfl, ⟨by decide, by decide, by decide +kernel⟩, by decide⟩, tb_of (i := 1100) (by decide +kernel) rfl, tb_of (i := 66) (by decide +kernel) rfl⟩
theorem mkX6_isFigure : mokI yX6_isFigure cX6_isFigure 2 (some .boolean) 1 := ⟨⟨tb_of (i := 1105) (by decide +kernel) rfl, tb_of (i := 79) (by decide +kernel) rfl, ⟨by decide, by decide, by decide +kernel⟩, by decide⟩, tb_of (i := 1104) (by decide +kernel) rfl, tb_of (i := 67) (by decide +kernel) rfl⟩
theorem mkX6_acted : mokI yX6_acted cX6_acted 5 (some .int) 1 := ⟨⟨tb_of (i := 1109) (by decide +kernel) rfl, tb_of (i := 79) (by decide +kernel) rfl, ⟨by decide, by decide, by decide +kernel⟩, by decide⟩, tb_of (i := 1108) (by decide +kernel) rfl, tb_of (i := 68) (by decide +kernel) rfl⟩
theorem mkX6_told : mokI yX6_told cX6_told 2 (some .int) 1 := ⟨⟨tb_of (i := 1113) (by decide +kernel) rfl, tb_of (i := 79) (by decide +kernel) rfl, ⟨by decide, by decide, by decide +kernel⟩, by decide⟩, tb_of (i := 1111) (by decide +kernel) rfl, tb_of (i := 1112) (by decide +kernel) rfl⟩
theorem mkX6_toldOf : mokI yX6_toldOf cX6_toldOf 2 (some .int) 1 := ⟨⟨tb_of (i := 1117) (by decide +kernel) rfl, tb_of (i := 79) (by decide +kernel) rfl, ⟨by decide, by decide, by decide +kernel⟩, by decide⟩, tb_of (i := 1116) (by decide +kernel) rfl, tb_of (i := 69) (by decide +kernel) rfl⟩
theorem mkX6_digest : mokI yX6_digest cX6_digest 6 (some .long) 0 := ⟨⟨tb_of (i := 1121) (by decide +kernel) rfl, tb_of (i := 79) (by decide +kernel) rfl, ⟨by decide, by decide, by decide +kernel⟩, by decide⟩, tb_of (i := 1119) (by decide +kernel) rfl, tb_of (i := 1120) (by decide +kernel) rfl⟩
theorem mm_ini : Cond.initialized "java/lang/Math" ∈ TB := tb_of (i := 73) (by decide +kernel) rfl
theorem sy_ini : Cond.initialized "java/lang/System" ∈ TB := tb_of (i := 74) (by decide +kernel) rfl
theorem sy_nat : Cond.native arraycopyName ∈ TB := tb_of (i := 106) (by decide +kernel) rfl
theorem sy_sta : Cond.static arraycopyName ∈ TB := tb_of (i := 105) (by decide +kernel) rfl
theorem nl_X4_67 : (RX4, 67, yX5_cell) ∈ nestM := by decide +kernel
theorem nl_X4_56 : (RX4, 56, yX5_within) ∈ nestM := by decide +kernel
theorem nl_X4_41 : (RX4, 41, yX5_at) ∈ nestM := by decide +kernel
theorem nl_X4_37 : (RX4, 37, yX5_put) ∈ nestM := by decide +kernel
theorem nl_X3_90 : (RX3, 90, yX5_cell) ∈ nestM := by decide +kernel
theorem nl_X3_78 : (RX3, 78, yX5_hasBit) ∈ nestM := by decide +kernel
theorem nl_X3_67 : (RX3, 67, yX5_at) ∈ nestM := by decide +kernel
theorem nl_X3_54 : (RX3, 54, yX5_put) ∈ nestM := by decide +kernel
theorem nl_X2_56 : (RX2, 56, yX5_at) ∈ nestM := by decide +kernel
theorem nl_X2_52 : (RX2, 52, yX5_copy) ∈ nestM := by decide +kernel
theorem nl_X2_25 : (RX2, 25, yX5_put) ∈ nestM := by decide +kernel
theorem nl_X0_70 : (RX0, 70, yX5_at) ∈ nestM := by decide +kernel
theorem nl_X0_52 : (RX0, 52, yX5_cell) ∈ nestM := by decide +kernel
theorem nl_X0_48 : (RX0, 48, yX5_put) ∈ nestM := by decide +kernel
theorem nl_X0_44 : (RX0, 44, yX5_within) ∈ nestM := by decide +kernel
theorem nl_X0_40 : (RX0, 40, yX5_copy) ∈ nestM := by decide +kernel
theorem nl_X0_105 : (RX0, 105, yX5_hasBit) ∈ nestM := by decide +kernel
end
section
def isBus (Z : Zt) (o : Nat) : Prop := o < NC ∧ (∀ f, sh Z o f = shBus Z o f) ∧ isArr Z (o + 1) 6 ∧ isArr Z (o + 2) 48 ∧ isArr Z (o + 3) 48 ∧ isArr Z (o + 4) 6 ∧ isArr Z (o + 5) 6 ∧ isArr Z (o + 6) 7
def isShr (Z : Zt) (o : Nat) : Prop := o < NC ∧ (∀ f, sh Z o f = shShr Z o f) ∧ isArr Z (o + 1) 64 ∧ isArr Z (o + 2) 64 ∧ isArr Z (o + 3) 6 ∧ isArr Z (o + 4) 36
theorem isBus.obj {Z : Zt} {o : Nat} (h : isBus Z o) (b : Mem) : isObj Z b o RX0 := ⟨h.1, 0, _, TX0, 8, h.2.1 (b o), rfl⟩
theorem isShr.obj {Z : Zt} {o : Nat} (h : isShr Z o) (b : Mem) : isObj Z b o RX3 := ⟨h.1, 3, _, TX3, 8, h.2.1 (b o), rfl⟩
theorem bus_1 (Z : Zt) : isBus Z 1 := ⟨by decide, fun _ => rfl, ⟨by decide, fun _ => rfl⟩, ⟨by decide, fun _ => rfl⟩, ⟨by decide, fun _ => rfl⟩, ⟨by decide, fun _ => rfl⟩, ⟨by decide, fun _ => rfl⟩, ⟨by decide, fun _ => rfl⟩⟩
theorem bus_8 (Z : Zt) : isBus Z 8 := ⟨by decide, fun _ => rfl, ⟨by decide, fun _ => rfl⟩, ⟨by decide, fun _ => rfl⟩, ⟨by decide, fun _ => rfl⟩, ⟨by decide, fun _ => rfl⟩, ⟨by decide, fun _ => rfl⟩, ⟨by decide, fun _ => rfl⟩⟩
theorem bus_15 (Z : Zt) : isBus Z 15 := ⟨by decide, fun _ => rfl, ⟨by decide, fun _ => rfl⟩, ⟨by decide, fun _ => rfl⟩, ⟨by decide, fun _ => rfl⟩, ⟨by decide, fun _ => rfl⟩, ⟨by decide, fun _ => rfl⟩, ⟨by decide, fun _ => rfl⟩⟩
theorem bus_22 (Z : Zt) : isBus Z 22 := ⟨by decide, fun _ => rfl, ⟨by decide, fun _ => rfl⟩, ⟨by decide, fun _ => rfl⟩, ⟨by decide, fun _ => rfl⟩, ⟨by decide, fun _ => rfl⟩, ⟨by decide, fun _ => rfl⟩, ⟨by decide, fun _ => rfl⟩⟩
theorem bus_29 (Z : Zt) : isBus Z 29 := ⟨by decide, fun _ => rfl, ⟨by decide, fun _ => rfl⟩, ⟨by decide, fun _ => rfl⟩, ⟨by decide, fun _ => rfl⟩, ⟨by decide, fun _ => rfl⟩, ⟨by decide, fun _ => rfl⟩, ⟨by decide, fun _ => rfl⟩⟩
theorem bus_36 (Z : Zt) : isBus Z 36 := ⟨by decide, fun _ => rfl, ⟨by decide, fun _ => rfl⟩, ⟨by decide, fun _ => rfl⟩, ⟨by decide, fun _ => rfl⟩, ⟨by decide, fun _ => rfl⟩, ⟨by decide, fun _ => rfl⟩, ⟨by decide, fun _ => rfl⟩⟩
theorem bus_43 (Z : Zt) : isBus Z 43 := ⟨by decide, fun _ => rfl, ⟨by decide, fun _ => rfl⟩, ⟨by decide, fun _ => rfl⟩, ⟨by decide, fun _ => rfl⟩, ⟨by decide, fun _ => rfl⟩, ⟨by decide, fun _ => rfl⟩, ⟨by decide, fun _ => rfl⟩⟩
theorem shr_56 (Z : Zt) : isShr Z 56 := ⟨by decide, fun _ => rfl, ⟨by decide, fun _ => rfl⟩, ⟨by decide, fun _ => rfl⟩, ⟨by decide, fun _ => rfl⟩, ⟨by decide, fun _ => rfl⟩⟩
theorem shr_61 (Z : Zt) : isShr Z 61 := ⟨by decide, fun _ => rfl, ⟨by decide, fun _ => rfl⟩, ⟨by decide, fun _ => rfl⟩, ⟨by decide, fun _ => rfl⟩, ⟨by decide, fun _ => rfl⟩⟩
theorem ar_53 (Z : Zt) : isArr Z 53 120 := ⟨by decide, fun _ => rfl⟩
theorem ar_54 (Z : Zt) : isArr Z 54 40 := ⟨by decide, fun _ => rfl⟩
theorem ar_55 (Z : Zt) : isArr Z 55 120 := ⟨by decide, fun _ => rfl⟩
theorem ar_67 (Z : Zt) : isArr Z 67 15 := ⟨by decide, fun _ => rfl⟩
theorem ar_68 (Z : Zt) : isArr Z 68 15 := ⟨by decide, fun _ => rfl⟩
theorem ar_70 (Z : Zt) : isArr Z 70 3 := ⟨by decide, fun _ => rfl⟩
theorem ar_71 (Z : Zt) : isArr Z 71 123 := ⟨by decide, fun _ => rfl⟩
theorem ar_72 (Z : Zt) : isArr Z 72 738 := ⟨by decide, fun _ => rfl⟩
theorem ar_73 (Z : Zt) : isArr Z 73 6 := ⟨by decide, fun _ => rfl⟩
theorem ar_74 (Z : Zt) : isArr Z 74 6 := ⟨by decide, fun _ => rfl⟩
theorem ar_75 (Z : Zt) : isArr Z 75 6 := ⟨by decide, fun _ => rfl⟩
theorem ar_76 (Z : Zt) : isArr Z 76 36 := ⟨by decide, fun _ => rfl⟩
theorem ar_77 (Z : Zt) : isArr Z 77 17 := ⟨by decide, fun _ => rfl⟩
theorem ar_78 (Z : Zt) : isArr Z 78 17 := ⟨by decide, fun _ => rfl⟩
theorem ar_79 (Z : Zt) : isArr Z 79 120 := ⟨by decide, fun _ => rfl⟩
theorem ar_80 (Z : Zt) : isArr Z 80 200 := ⟨by decide, fun _ => rfl⟩
theorem ob_0 (Z : Zt) (b : Mem) : isObj Z b 0 RX5 := ⟨by decide, 5, _, TX5, 11, rfl, rfl⟩
theorem ob_50 (Z : Zt) (b : Mem) : isObj Z b 50 RX1 := ⟨by decide, 1, _, TX1, 3, rfl, rfl⟩
theorem ob_52 (Z : Zt) (b : Mem) : isObj Z b 52 RX4 := ⟨by decide, 4, _, TX4, 8, rfl, rfl⟩
theorem ob_66 (Z : Zt) (b : Mem) : isObj Z b 66 RX2 := ⟨by decide, 2, _, TX2, 2, rfl, rfl⟩
theorem ob_69 (Z : Zt) (b : Mem) : isObj Z b 69 RX6 := ⟨by decide, 6, _, TX6, 15, rfl, rfl⟩
section FIELDS
variable {Z : Zt} {X : Xt} {cc : ByteArray} {nL d : Nat} {b : Mem} {pc : Nat} {L : List (Option Value)} {st : List Value}
theorem gt_X0_runs (hX : Ok Z X cc nL RX0 d) {o : Nat} (hO : isBus Z o) (dg : decode cc pc = .ok (.getfield 9, 3)) (k : G Z X b (pc + 3) L (.ref (zad Z (o + 1)) :: st)) : G Z X b pc L (.ref (zad Z o) :: st) := g_get hX 0 in_X0 hO.1 (hO.2.1 (b o)) rfl (by decide) fl_X0_runs rfl rfl dg k
theorem gt_X0_longs (hX : Ok Z X cc nL RX0 d) {o : Nat} (hO : isBus Z o) (dg : decode cc pc = .ok (.getfield 15, 3)) (k : G Z X b (pc + 3) L (.ref (zad Z (o + 2)) :: st)) : G Z X b pc L (.ref (zad Z o) :: st) := g_get hX 1 in_X0 hO.1 (hO.2.1 (b o)) rfl (by decide) fl_X0_longs rfl rfl dg k
theorem gt_X0_turns (hX : Ok Z X cc nL RX0 d) {o : Nat} (hO : isBus Z o) (dg : decode cc pc = .ok (.getfield 18, 3)) (k : G Z X b (pc + 3) L (.ref (zad Z (o + 3)) :: st)) : G Z X b pc L (.ref (zad Z o) :: st) := g_get hX 2 in_X0 hO.1 (hO.2.1 (b o)) rfl (by decide) fl_X0_turns rfl rfl dg k
theorem gt_X0_wides (hX : Ok Z X cc nL RX0 d) {o : Nat} (hO : isBus Z o) (dg : decode cc pc = .ok (.getfield 21, 3)) (k : G Z X b (pc + 3) L (.ref (zad Z (o + 4)) :: st)) : G Z X b pc L (.ref (zad Z o) :: st) := g_get hX 3 in_X0 hO.1 (hO.2.1 (b o)) rfl (by decide) fl_X0_wides rfl rfl dg k
theorem gt_X0_touching (hX : Ok Z X cc nL RX0 d) {o : Nat} (hO : isBus Z o) (dg : decode cc pc = .ok (.getfield 24, 3)) (k : G Z X b (pc + 3) L (.ref (zad Z (o + 5)) :: st)) : G Z X b pc L (.ref (zad Z o) :: st) := g_get hX 4 in_X0 hO.1 (hO.2.1 (b o)) rfl (by decide) fl_X0_touching rfl rfl dg k
theorem gt_X0_chosen (hX : Ok Z X cc nL RX0 d) {o : Nat} (hO : isBus Z o) (dg : decode cc pc = .ok (.getfield 27, 3)) (k : G Z X b (pc + 3) L (.ref (zad Z (o + 6)) :: st)) : G Z X b pc L (.ref (zad Z o) :: st) := g_get hX 5 in_X0 hO.1 (hO.2.1 (b o)) rfl (by decide) fl_X0_chosen rfl rfl dg k
theorem gt_X0_lines (hX : Ok Z X cc nL RX0 d) {o : Nat} (hO : isBus Z o) (dg : decode cc pc = .ok (.getfield 30, 3)) (k : G Z X b (pc + 3) L (.int (b o 6) :: st)) : G Z X b pc L (.ref (zad Z o) :: st) := g_get hX 6 in_X0 hO.1 (hO.2.1 (b o)) rfl (by decide) fl_X0_lines rfl rfl dg k
theorem pt_X0_lines (hX : Ok Z X cc nL RX0 d) {o : Nat} (hO : isBus Z o) {x : Int32} (dg : decode cc pc = .ok (.putfield 30, 3)) (k : G Z X (up2 b o 6 x) (pc + 3) L st) : G Z X b pc L (.int x :: .ref (zad Z o) :: st) := g_put hX tyX0 .int 6 in_X0 tyX0_ok nmX0 hO.1 (hO.2.1 (b o)) ((hO.2.1 _).trans rfl) rfl (by decide) fl_X0_lines rfl rfl (by decide +kernel) rfl rfl (Nat.le_of_ble_eq_true rfl) dg k
theorem gt_X0_pockets (hX : Ok Z X cc nL RX0 d) {o : Nat} (hO : isBus Z o) (dg : decode cc pc = .ok (.getfield 34, 3)) (k : G Z X b (pc + 3) L (.int (b o 7) :: st)) : G Z X b pc L (.ref (zad Z o) :: st) := g_get hX 7 in_X0 hO.1 (hO.2.1 (b o)) rfl (by decide) fl_X0_pockets rfl rfl dg k
theorem pt_X0_pockets (hX : Ok Z X cc nL RX0 d) {o : Nat} (hO : isBus Z o) {x : Int32} (dg : decode cc pc = .ok (.putfield 34, 3)) (k : G Z X (up2 b o 7 x) (pc + 3) L st) : G Z X b pc L (.int x :: .ref (zad Z o) :: st) := g_put hX tyX0 .int 7 in_X0 tyX0_ok nmX0 hO.1 (hO.2.1 (b o)) ((hO.2.1 _).trans rfl) rfl (by decide) fl_X0_pockets rfl rfl (by decide +kernel) rfl rfl (Nat.le_of_ble_eq_true rfl) dg k
theorem gt_X1_kept (hX : Ok Z X cc nL RX1 d) (dg : decode cc pc = .ok (.getfield 11, 3)) (k : G Z X b (pc + 3) L (.ref (zad Z 51) :: st)) : G Z X b pc L (.ref (zad Z 50) :: st) := g_get hX 0 in_X1 (by decide) rfl rfl (by decide) fl_X1_kept rfl rfl dg k
theorem gt_X1_place (hX : Ok Z X cc nL RX1 d) (dg : decode cc pc = .ok (.getfield 17, 3)) (k : G Z X b (pc + 3) L (.int (b 50 1) :: st)) : G Z X b pc L (.ref (zad Z 50) :: st) := g_get hX 1 in_X1 (by decide) rfl rfl (by decide) fl_X1_place rfl rfl dg k
theorem pt_X1_place (hX : Ok Z X cc nL RX1 d) {x : Int32} (dg : decode cc pc = .ok (.putfield 17, 3)) (k : G Z X (up2 b 50 1 x) (pc + 3) L st) : G Z X b pc L (.int x :: .ref (zad Z 50) :: st) := g_put hX tyX1 .int 1 in_X1 tyX1_ok nmX1 (by decide) rfl rfl rfl (by decide) fl_X1_place rfl rfl (by decide +kernel) rfl rfl (Nat.le_of_ble_eq_true rfl) dg k
theorem gt_X1_held (hX : Ok Z X cc nL RX1 d) (dg : decode cc pc = .ok (.getfield 21, 3)) (k : G Z X b (pc + 3) L (.int (b 50 2) :: st)) : G Z X b pc L (.ref (zad Z 50) :: st) := g_get hX 2 in_X1 (by decide) rfl rfl (by decide) fl_X1_held rfl rfl dg k
theorem pt_X1_held (hX : Ok Z X cc nL RX1 d) {x : Int32} (dg : decode cc pc = .ok (.putfield 21, 3)) (k : G Z X (up2 b 50 2 x) (pc + 3) L st) : G Z X b pc L (.int x :: .ref (zad Z 50) :: st) := g_put hX tyX1 .int 2 in_X1 tyX1_ok nmX1 (by decide) rfl rfl rfl (by decide) fl_X1_held rfl rfl (by decide +kernel) rfl rfl (Nat.le_of_ble_eq_true rfl) dg k
theorem gt_X2_fewest (hX : Ok Z X cc nL RX2 d) (dg : decode cc pc = .ok (.getfield 11, 3)) (k : G Z X b (pc + 3) L (.ref (zad Z 67) :: st)) : G Z X b pc L (.ref (zad Z 66) :: st) := g_get hX 0 in_X2 (by decide) rfl rfl (by decide) fl_X2_fewest rfl rfl dg k
theorem gt_X2_next (hX : Ok Z X cc nL RX2 d) (dg : decode cc pc = .ok (.getfield 15, 3)) (k : G Z X b (pc + 3) L (.ref (zad Z 68) :: st)) : G Z X b pc L (.ref (zad Z 66) :: st) := g_get hX 1 in_X2 (by decide) rfl rfl (by decide) fl_X2_next rfl rfl dg k
theorem gt_X3_needs (hX : Ok Z X cc nL RX3 d) {o : Nat} (hO : isShr Z o) (dg : decode cc pc = .ok (.getfield 9, 3)) (k : G Z X b (pc + 3) L (.ref (zad Z (o + 1)) :: st)) : G Z X b pc L (.ref (zad Z o) :: st) := g_get hX 0 in_X3 hO.1 (hO.2.1 (b o)) rfl (by decide) fl_X3_needs rfl rfl dg k
theorem gt_X3_reach (hX : Ok Z X cc nL RX3 d) {o : Nat} (hO : isShr Z o) (dg : decode cc pc = .ok (.getfield 15, 3)) (k : G Z X b (pc + 3) L (.ref (zad Z (o + 2)) :: st)) : G Z X b pc L (.ref (zad Z o) :: st) := g_get hX 1 in_X3 hO.1 (hO.2.1 (b o)) rfl (by decide) fl_X3_reach rfl rfl dg k
theorem gt_X3_rooms (hX : Ok Z X cc nL RX3 d) {o : Nat} (hO : isShr Z o) (dg : decode cc pc = .ok (.getfield 18, 3)) (k : G Z X b (pc + 3) L (.ref (zad Z (o + 3)) :: st)) : G Z X b pc L (.ref (zad Z o) :: st) := g_get hX 2 in_X3 hO.1 (hO.2.1 (b o)) rfl (by decide) fl_X3_rooms rfl rfl dg k
theorem gt_X3_drawn (hX : Ok Z X cc nL RX3 d) {o : Nat} (hO : isShr Z o) (dg : decode cc pc = .ok (.getfield 21, 3)) (k : G Z X b (pc + 3) L (.ref (zad Z (o + 4)) :: st)) : G Z X b pc L (.ref (zad Z o) :: st) := g_get hX 3 in_X3 hO.1 (hO.2.1 (b o)) rfl (by decide) fl_X3_drawn rfl rfl dg k
theorem gt_X3_lines (hX : Ok Z X cc nL RX3 d) {o : Nat} (hO : isShr Z o) (dg : decode cc pc = .ok (.getfield 24, 3)) (k : G Z X b (pc + 3) L (.int (b o 4) :: st)) : G Z X b pc L (.ref (zad Z o) :: st) := g_get hX 4 in_X3 hO.1 (hO.2.1 (b o)) rfl (by decide) fl_X3_lines rfl rfl dg k
theorem pt_X3_lines (hX : Ok Z X cc nL RX3 d) {o : Nat} (hO : isShr Z o) {x : Int32} (dg : decode cc pc = .ok (.putfield 24, 3)) (k : G Z X (up2 b o 4 x) (pc + 3) L st) : G Z X b pc L (.int x :: .ref (zad Z o) :: st) := g_put hX tyX3 .int 4 in_X3 tyX3_ok nmX3 hO.1 (hO.2.1 (b o)) ((hO.2.1 _).trans rfl) rfl (by decide) fl_X3_lines rfl rfl (by decide +kernel) rfl rfl (Nat.le_of_ble_eq_true rfl) dg k
theorem gt_X3_pockets (hX : Ok Z X cc nL RX3 d) {o : Nat} (hO : isShr Z o) (dg : decode cc pc = .ok (.getfield 28, 3)) (k : G Z X b (pc + 3) L (.int (b o 5) :: st)) : G Z X b pc L (.ref (zad Z o) :: st) := g_get hX 5 in_X3 hO.1 (hO.2.1 (b o)) rfl (by decide) fl_X3_pockets rfl rfl dg k
theorem pt_X3_pockets (hX : Ok Z X cc nL RX3 d) {o : Nat} (hO : isShr Z o) {x : Int32} (dg : decode cc pc = .ok (.putfield 28, 3)) (k : G Z X (up2 b o 5 x) (pc + 3) L st) : G Z X b pc L (.int x :: .ref (zad Z o) :: st) := g_put hX tyX3 .int 5 in_X3 tyX3_ok nmX3 hO.1 (hO.2.1 (b o)) ((hO.2.1 _).trans rfl) rfl (by decide) fl_X3_pockets rfl rfl (by decide +kernel) rfl rfl (Nat.le_of_ble_eq_true rfl) dg k
theorem gt_X3_tooLong (hX : Ok Z X cc nL RX3 d) {o : Nat} (hO : isShr Z o) (dg : decode cc pc = .ok (.getfield 31, 3)) (k : G Z X b (pc + 3) L (.int (b o 6) :: st)) : G Z X b pc L (.ref (zad Z o) :: st) := g_get hX 6 in_X3 hO.1 (hO.2.1 (b o)) rfl (by decide) fl_X3_tooLong rfl rfl dg k
theorem pt_X3_tooLong (hX : Ok Z X cc nL RX3 d) {o : Nat} (hO : isShr Z o) {x : Int32} (dg : decode cc pc = .ok (.putfield 31, 3)) (k : G Z X (up2 b o 6 x) (pc + 3) L st) : G Z X b pc L (.int x :: .ref (zad Z o) :: st) := g_put hX tyX3 .int 6 in_X3 tyX3_ok nmX3 hO.1 (hO.2.1 (b o)) ((hO.2.1 _).trans rfl) rfl (by decide) fl_X3_tooLong rfl rfl (by decide +kernel) rfl rfl (Nat.le_of_ble_eq_true rfl) dg k
theorem gt_X3_inTheWay (hX : Ok Z X cc nL RX3 d) {o : Nat} (hO : isShr Z o) (dg : decode cc pc = .ok (.getfield 34, 3)) (k : G Z X b (pc + 3) L (.int (b o 7) :: st)) : G Z X b pc L (.ref (zad Z o) :: st) := g_get hX 7 in_X3 hO.1 (hO.2.1 (b o)) rfl (by decide) fl_X3_inTheWay rfl rfl dg k
theorem pt_X3_inTheWay (hX : Ok Z X cc nL RX3 d) {o : Nat} (hO : isShr Z o) {x : Int32} (dg : decode cc pc = .ok (.putfield 34, 3)) (k : G Z X (up2 b o 7 x) (pc + 3) L st) : G Z X b pc L (.int x :: .ref (zad Z o) :: st) := g_put hX tyX3 .int 7 in_X3 tyX3_ok nmX3 hO.1 (hO.2.1 (b o)) ((hO.2.1 _).trans rfl) rfl (by decide) fl_X3_inTheWay rfl rfl (by decide +kernel) rfl rfl (Nat.le_of_ble_eq_true rfl) dg k
theorem gt_X4_bytes (hX : Ok Z X cc nL RX4 d) (dg : decode cc pc = .ok (.getfield 9, 3)) (k : G Z X b (pc + 3) L (.ref (zad Z 53) :: st)) : G Z X b pc L (.ref (zad Z 52) :: st) := g_get hX 0 in_X4 (by decide) rfl rfl (by decide) fl_X4_bytes rfl rfl dg k
theorem gt_X4_letters (hX : Ok Z X cc nL RX4 d) (dg : decode cc pc = .ok (.getfield 15, 3)) (k : G Z X b (pc + 3) L (.ref (zad Z 54) :: st)) : G Z X b pc L (.ref (zad Z 52) :: st) := g_get hX 1 in_X4 (by decide) rfl rfl (by decide) fl_X4_letters rfl rfl dg k
theorem gt_X4_numbers (hX : Ok Z X cc nL RX4 d) (dg : decode cc pc = .ok (.getfield 18, 3)) (k : G Z X b (pc + 3) L (.ref (zad Z 55) :: st)) : G Z X b pc L (.ref (zad Z 52) :: st) := g_get hX 2 in_X4 (by decide) rfl rfl (by decide) fl_X4_numbers rfl rfl dg k
theorem gt_X4_many (hX : Ok Z X cc nL RX4 d) (dg : decode cc pc = .ok (.getfield 21, 3)) (k : G Z X b (pc + 3) L (.int (b 52 3) :: st)) : G Z X b pc L (.ref (zad Z 52) :: st) := g_get hX 3 in_X4 (by decide) rfl rfl (by decide) fl_X4_many rfl rfl dg k
theorem pt_X4_many (hX : Ok Z X cc nL RX4 d) {x : Int32} (dg : decode cc pc = .ok (.putfield 21, 3)) (k : G Z X (up2 b 52 3 x) (pc + 3) L st) : G Z X b pc L (.int x :: .ref (zad Z 52) :: st) := g_put hX tyX4 .int 3 in_X4 tyX4_ok nmX4 (by decide) rfl rfl rfl (by decide) fl_X4_many rfl rfl (by decide +kernel) rfl rfl (Nat.le_of_ble_eq_true rfl) dg k
theorem gt_X4_orders (hX : Ok Z X cc nL RX4 d) (dg : decode cc pc = .ok (.getfield 25, 3)) (k : G Z X b (pc + 3) L (.int (b 52 4) :: st)) : G Z X b pc L (.ref (zad Z 52) :: st) := g_get hX 4 in_X4 (by decide) rfl rfl (by decide) fl_X4_orders rfl rfl dg k
theorem pt_X4_orders (hX : Ok Z X cc nL RX4 d) {x : Int32} (dg : decode cc pc = .ok (.putfield 25, 3)) (k : G Z X (up2 b 52 4 x) (pc + 3) L st) : G Z X b pc L (.int x :: .ref (zad Z 52) :: st) := g_put hX tyX4 .int 4 in_X4 tyX4_ok nmX4 (by decide) rfl rfl rfl (by decide) fl_X4_orders rfl rfl (by decide +kernel) rfl rfl (Nat.le_of_ble_eq_true rfl) dg k
theorem gt_X4_letter (hX : Ok Z X cc nL RX4 d) (dg : decode cc pc = .ok (.getfield 28, 3)) (k : G Z X b (pc + 3) L (.int (b 52 5) :: st)) : G Z X b pc L (.ref (zad Z 52) :: st) := g_get hX 5 in_X4 (by decide) rfl rfl (by decide) fl_X4_letter rfl rfl dg k
theorem pt_X4_letter (hX : Ok Z X cc nL RX4 d) {x : Int32} (dg : decode cc pc = .ok (.putfield 28, 3)) (k : G Z X (up2 b 52 5 x) (pc + 3) L st) : G Z X b pc L (.int x :: .ref (zad Z 52) :: st) := g_put hX tyX4 .int 5 in_X4 tyX4_ok nmX4 (by decide) rfl rfl rfl (by decide) fl_X4_letter rfl rfl (by decide +kernel) rfl rfl (Nat.le_of_ble_eq_true rfl) dg k
theorem gt_X4_begun (hX : Ok Z X cc nL RX4 d) (dg : decode cc pc = .ok (.getfield 31, 3)) (k : G Z X b (pc + 3) L (.int (b 52 6) :: st)) : G Z X b pc L (.ref (zad Z 52) :: st) := g_get hX 6 in_X4 (by decide) rfl rfl (by decide) fl_X4_begun rfl rfl dg k
theorem pt_X4_begun (hX : Ok Z X cc nL RX4 d) {x : Int32} (dg : decode cc pc = .ok (.putfield 31, 3)) (k : G Z X (up2 b 52 6 x) (pc + 3) L st) : G Z X b pc L (.int x :: .ref (zad Z 52) :: st) := g_put hX tyX4 .int 6 in_X4 tyX4_ok nmX4 (by decide) rfl rfl rfl (by decide) fl_X4_begun rfl rfl (by decide +kernel) rfl rfl (Nat.le_of_ble_eq_true rfl) dg k
theorem gt_X4_figures (hX : Ok Z X cc nL RX4 d) (dg : decode cc pc = .ok (.getfield 34, 3)) (k : G Z X b (pc + 3) L (.int (b 52 7) :: st)) : G Z X b pc L (.ref (zad Z 52) :: st) := g_get hX 7 in_X4 (by decide) rfl rfl (by decide) fl_X4_figures rfl rfl dg k
theorem pt_X4_figures (hX : Ok Z X cc nL RX4 d) {x : Int32} (dg : decode cc pc = .ok (.putfield 34, 3)) (k : G Z X (up2 b 52 7 x) (pc + 3) L st) : G Z X b pc L (.int x :: .ref (zad Z 52) :: st) := g_put hX tyX4 .int 7 in_X4 tyX4_ok nmX4 (by decide) rfl rfl rfl (by decide) fl_X4_figures rfl rfl (by decide +kernel) rfl rfl (Nat.le_of_ble_eq_true rfl) dg k
theorem gt_X5_bus (hX : Ok Z X cc nL RX5 d) (dg : decode cc pc = .ok (.getfield 10, 3)) (k : G Z X b (pc + 3) L (.ref (zad Z 1) :: st)) : G Z X b pc L (.ref (zad Z 0) :: st) := g_get hX 0 in_X5 (by decide) rfl rfl (by decide) fl_X5_bus rfl rfl dg k
theorem gt_X5_trial (hX : Ok Z X cc nL RX5 d) (dg : decode cc pc = .ok (.getfield 16, 3)) (k : G Z X b (pc + 3) L (.ref (zad Z 8) :: st)) : G Z X b pc L (.ref (zad Z 0) :: st) := g_get hX 1 in_X5 (by decide) rfl rfl (by decide) fl_X5_trial rfl rfl dg k
theorem gt_X5_past (hX : Ok Z X cc nL RX5 d) (dg : decode cc pc = .ok (.getfield 22, 3)) (k : G Z X b (pc + 3) L (.ref (zad Z 50) :: st)) : G Z X b pc L (.ref (zad Z 0) :: st) := g_get hX 2 in_X5 (by decide) rfl rfl (by decide) fl_X5_past rfl rfl dg k
theorem gt_X5_text (hX : Ok Z X cc nL RX5 d) (dg : decode cc pc = .ok (.getfield 29, 3)) (k : G Z X b (pc + 3) L (.ref (zad Z 52) :: st)) : G Z X b pc L (.ref (zad Z 0) :: st) := g_get hX 3 in_X5 (by decide) rfl rfl (by decide) fl_X5_text rfl rfl dg k
theorem gt_X5_byTarget (hX : Ok Z X cc nL RX5 d) (dg : decode cc pc = .ok (.getfield 36, 3)) (k : G Z X b (pc + 3) L (.ref (zad Z 56) :: st)) : G Z X b pc L (.ref (zad Z 0) :: st) := g_get hX 4 in_X5 (by decide) rfl rfl (by decide) fl_X5_byTarget rfl rfl dg k
theorem gt_X5_tried (hX : Ok Z X cc nL RX5 d) (dg : decode cc pc = .ok (.getfield 40, 3)) (k : G Z X b (pc + 3) L (.ref (zad Z 61) :: st)) : G Z X b pc L (.ref (zad Z 0) :: st) := g_get hX 5 in_X5 (by decide) rfl rfl (by decide) fl_X5_tried rfl rfl dg k
theorem gt_X5_phasing (hX : Ok Z X cc nL RX5 d) (dg : decode cc pc = .ok (.getfield 46, 3)) (k : G Z X b (pc + 3) L (.ref (zad Z 66) :: st)) : G Z X b pc L (.ref (zad Z 0) :: st) := g_get hX 6 in_X5 (by decide) rfl rfl (by decide) fl_X5_phasing rfl rfl dg k
theorem gt_X5_planned (hX : Ok Z X cc nL RX5 d) (dg : decode cc pc = .ok (.getfield 50, 3)) (k : G Z X b (pc + 3) L (.int (b 0 7) :: st)) : G Z X b pc L (.ref (zad Z 0) :: st) := g_get hX 7 in_X5 (by decide) rfl rfl (by decide) fl_X5_planned rfl rfl dg k
theorem pt_X5_planned (hX : Ok Z X cc nL RX5 d) {x : Int32} (hn : narrow .boolean (.int x) = .int x) (hf : fits .boolean (.int x) = true) (dg : decode cc pc = .ok (.putfield 50, 3)) (k : G Z X (up2 b 0 7 x) (pc + 3) L st) : G Z X b pc L (.int x :: .ref (zad Z 0) :: st) := g_put hX tyX5 .boolean 7 in_X5 tyX5_ok nmX5 (by decide) rfl rfl rfl (by decide) fl_X5_planned rfl rfl (by decide +kernel) hn hf (Nat.le_of_ble_eq_true rfl) dg k
theorem gt_X5_bads (hX : Ok Z X cc nL RX5 d) (dg : decode cc pc = .ok (.getfield 54, 3)) (k : G Z X b (pc + 3) L (.int (b 0 8) :: st)) : G Z X b pc L (.ref (zad Z 0) :: st) := g_get hX 8 in_X5 (by decide) rfl rfl (by decide) fl_X5_bads rfl rfl dg k
theorem pt_X5_bads (hX : Ok Z X cc nL RX5 d) {x : Int32} (dg : decode cc pc = .ok (.putfield 54, 3)) (k : G Z X (up2 b 0 8 x) (pc + 3) L st) : G Z X b pc L (.int x :: .ref (zad Z 0) :: st) := g_put hX tyX5 .int 8 in_X5 tyX5_ok nmX5 (by decide) rfl rfl rfl (by decide) fl_X5_bads rfl rfl (by decide +kernel) rfl rfl (Nat.le_of_ble_eq_true rfl) dg k
theorem gt_X5_noes (hX : Ok Z X cc nL RX5 d) (dg : decode cc pc = .ok (.getfield 58, 3)) (k : G Z X b (pc + 3) L (.int (b 0 9) :: st)) : G Z X b pc L (.ref (zad Z 0) :: st) := g_get hX 9 in_X5 (by decide) rfl rfl (by decide) fl_X5_noes rfl rfl dg k
theorem pt_X5_noes (hX : Ok Z X cc nL RX5 d) {x : Int32} (dg : decode cc pc = .ok (.putfield 58, 3)) (k : G Z X (up2 b 0 9 x) (pc + 3) L st) : G Z X b pc L (.int x :: .ref (zad Z 0) :: st) := g_put hX tyX5 .int 9 in_X5 tyX5_ok nmX5 (by decide) rfl rfl rfl (by decide) fl_X5_noes rfl rfl (by decide +kernel) rfl rfl (Nat.le_of_ble_eq_true rfl) dg k
theorem gt_X5_fulls (hX : Ok Z X cc nL RX5 d) (dg : decode cc pc = .ok (.getfield 61, 3)) (k : G Z X b (pc + 3) L (.int (b 0 10) :: st)) : G Z X b pc L (.ref (zad Z 0) :: st) := g_get hX 10 in_X5 (by decide) rfl rfl (by decide) fl_X5_fulls rfl rfl dg k
theorem pt_X5_fulls (hX : Ok Z X cc nL RX5 d) {x : Int32} (dg : decode cc pc = .ok (.putfield 61, 3)) (k : G Z X (up2 b 0 10 x) (pc + 3) L st) : G Z X b pc L (.int x :: .ref (zad Z 0) :: st) := g_put hX tyX5 .int 10 in_X5 tyX5_ok nmX5 (by decide) rfl rfl rfl (by decide) fl_X5_fulls rfl rfl (by decide +kernel) rfl rfl (Nat.le_of_ble_eq_true rfl) dg k
theorem gt_X6_refused (hX : Ok Z X cc nL RX6 d) (dg : decode cc pc = .ok (.getfield 7, 3)) (k : G Z X b (pc + 3) L (.ref (zad Z 70) :: st)) : G Z X b pc L (.ref (zad Z 69) :: st) := g_get hX 0 in_X6 (by decide) rfl rfl (by decide) fl_X6_refused rfl rfl dg k
theorem gt_X6_now (hX : Ok Z X cc nL RX6 d) (dg : decode cc pc = .ok (.getfield 13, 3)) (k : G Z X b (pc + 3) L (.ref (zad Z 71) :: st)) : G Z X b pc L (.ref (zad Z 69) :: st) := g_get hX 1 in_X6 (by decide) rfl rfl (by decide) fl_X6_now rfl rfl dg k
theorem gt_X6_kept (hX : Ok Z X cc nL RX6 d) (dg : decode cc pc = .ok (.getfield 16, 3)) (k : G Z X b (pc + 3) L (.ref (zad Z 72) :: st)) : G Z X b pc L (.ref (zad Z 69) :: st) := g_get hX 2 in_X6 (by decide) rfl rfl (by decide) fl_X6_kept rfl rfl dg k
theorem gt_X6_states (hX : Ok Z X cc nL RX6 d) (dg : decode cc pc = .ok (.getfield 53, 3)) (k : G Z X b (pc + 3) L (.int (b 69 3) :: st)) : G Z X b pc L (.ref (zad Z 69) :: st) := g_get hX 3 in_X6 (by decide) rfl rfl (by decide) fl_X6_states rfl rfl dg k
theorem pt_X6_states (hX : Ok Z X cc nL RX6 d) {x : Int32} (dg : decode cc pc = .ok (.putfield 53, 3)) (k : G Z X (up2 b 69 3 x) (pc + 3) L st) : G Z X b pc L (.int x :: .ref (zad Z 69) :: st) := g_put hX tyX6 .int 3 in_X6 tyX6_ok nmX6 (by decide) rfl rfl rfl (by decide) fl_X6_states rfl rfl (by decide +kernel) rfl rfl (Nat.le_of_ble_eq_true rfl) dg k
theorem gt_X6_need (hX : Ok Z X cc nL RX6 d) (dg : decode cc pc = .ok (.getfield 19, 3)) (k : G Z X b (pc + 3) L (.ref (zad Z 73) :: st)) : G Z X b pc L (.ref (zad Z 69) :: st) := g_get hX 4 in_X6 (by decide) rfl rfl (by decide) fl_X6_need rfl rfl dg k
theorem gt_X6_room (hX : Ok Z X cc nL RX6 d) (dg : decode cc pc = .ok (.getfield 22, 3)) (k : G Z X b (pc + 3) L (.ref (zad Z 74) :: st)) : G Z X b pc L (.ref (zad Z 69) :: st) := g_get hX 5 in_X6 (by decide) rfl rfl (by decide) fl_X6_room rfl rfl dg k
theorem gt_X6_may (hX : Ok Z X cc nL RX6 d) (dg : decode cc pc = .ok (.getfield 25, 3)) (k : G Z X b (pc + 3) L (.ref (zad Z 75) :: st)) : G Z X b pc L (.ref (zad Z 69) :: st) := g_get hX 6 in_X6 (by decide) rfl rfl (by decide) fl_X6_may rfl rfl dg k
theorem gt_X6_drawn (hX : Ok Z X cc nL RX6 d) (dg : decode cc pc = .ok (.getfield 28, 3)) (k : G Z X b (pc + 3) L (.ref (zad Z 76) :: st)) : G Z X b pc L (.ref (zad Z 69) :: st) := g_get hX 7 in_X6 (by decide) rfl rfl (by decide) fl_X6_drawn rfl rfl dg k
theorem gt_X6_fewest (hX : Ok Z X cc nL RX6 d) (dg : decode cc pc = .ok (.getfield 31, 3)) (k : G Z X b (pc + 3) L (.ref (zad Z 77) :: st)) : G Z X b pc L (.ref (zad Z 69) :: st) := g_get hX 8 in_X6 (by decide) rfl rfl (by decide) fl_X6_fewest rfl rfl dg k
theorem gt_X6_then (hX : Ok Z X cc nL RX6 d) (dg : decode cc pc = .ok (.getfield 34, 3)) (k : G Z X b (pc + 3) L (.ref (zad Z 78) :: st)) : G Z X b pc L (.ref (zad Z 69) :: st) := g_get hX 9 in_X6 (by decide) rfl rfl (by decide) fl_X6_then rfl rfl dg k
theorem gt_X6_text (hX : Ok Z X cc nL RX6 d) (dg : decode cc pc = .ok (.getfield 37, 3)) (k : G Z X b (pc + 3) L (.ref (zad Z 79) :: st)) : G Z X b pc L (.ref (zad Z 69) :: st) := g_get hX 10 in_X6 (by decide) rfl rfl (by decide) fl_X6_text rfl rfl dg k
theorem gt_X6_typed (hX : Ok Z X cc nL RX6 d) (dg : decode cc pc = .ok (.getfield 197, 3)) (k : G Z X b (pc + 3) L (.int (b 69 11) :: st)) : G Z X b pc L (.ref (zad Z 69) :: st) := g_get hX 11 in_X6 (by decide) rfl rfl (by decide) fl_X6_typed rfl rfl dg k
theorem pt_X6_typed (hX : Ok Z X cc nL RX6 d) {x : Int32} (dg : decode cc pc = .ok (.putfield 197, 3)) (k : G Z X (up2 b 69 11 x) (pc + 3) L st) : G Z X b pc L (.int x :: .ref (zad Z 69) :: st) := g_put hX tyX6 .int 11 in_X6 tyX6_ok nmX6 (by decide) rfl rfl rfl (by decide) fl_X6_typed rfl rfl (by decide +kernel) rfl rfl (Nat.le_of_ble_eq_true rfl) dg k
theorem gt_X6_orders (hX : Ok Z X cc nL RX6 d) (dg : decode cc pc = .ok (.getfield 40, 3)) (k : G Z X b (pc + 3) L (.ref (zad Z 80) :: st)) : G Z X b pc L (.ref (zad Z 69) :: st) := g_get hX 12 in_X6 (by decide) rfl rfl (by decide) fl_X6_orders rfl rfl dg k
theorem gt_X6_written (hX : Ok Z X cc nL RX6 d) (dg : decode cc pc = .ok (.getfield 215, 3)) (k : G Z X b (pc + 3) L (.int (b 69 13) :: st)) : G Z X b pc L (.ref (zad Z 69) :: st) := g_get hX 13 in_X6 (by decide) rfl rfl (by decide) fl_X6_written rfl rfl dg k
theorem pt_X6_written (hX : Ok Z X cc nL RX6 d) {x : Int32} (dg : decode cc pc = .ok (.putfield 215, 3)) (k : G Z X (up2 b 69 13 x) (pc + 3) L st) : G Z X b pc L (.int x :: .ref (zad Z 69) :: st) := g_put hX tyX6 .int 13 in_X6 tyX6_ok nmX6 (by decide) rfl rfl rfl (by decide) fl_X6_written rfl rfl (by decide +kernel) rfl rfl (Nat.le_of_ble_eq_true rfl) dg k
theorem gt_X6_look (hX : Ok Z X cc nL RX6 d) (dg : decode cc pc = .ok (.getfield 203, 3)) (k : G Z X b (pc + 3) L (.int (b 69 14) :: st)) : G Z X b pc L (.ref (zad Z 69) :: st) := g_get hX 14 in_X6 (by decide) rfl rfl (by decide) fl_X6_look rfl rfl dg k
theorem pt_X6_look (hX : Ok Z X cc nL RX6 d) {x : Int32} (dg : decode cc pc = .ok (.putfield 203, 3)) (k : G Z X (up2 b 69 14 x) (pc + 3) L st) : G Z X b pc L (.int x :: .ref (zad Z 69) :: st) := g_put hX tyX6 .int 14 in_X6 tyX6_ok nmX6 (by decide) rfl rfl rfl (by decide) fl_X6_look rfl rfl (by decide +kernel) rfl rfl (Nat.le_of_ble_eq_true rfl) dg k
end FIELDS
end
section
def bt (x : Int32) (i : Nat) : Bool := x.toBitVec.getLsbD i
theorem b_ext {x y : Int32} (h : ∀ i, i < 32 → bt x i = bt y i) : x = y := Int32.toBitVec_inj.mp (BitVec.eq_of_getLsbD_eq (fun i hi => h i hi))
theorem b_or (x y : Int32) (i : Nat) : bt (x ||| y) i = (bt x i || bt y i) := by unfold bt; rw [Int32.toBitVec_or, BitVec.getLsbD_or]
theorem b_and (x y : Int32) (i : Nat) : bt (x &&& y) i = (bt x i && bt y i) := by unfold bt; rw [Int32.toBitVec_and, BitVec.getLsbD_and]
theorem b_xor (x y : Int32) (i : Nat) : bt (x ^^^ y) i = (bt x i ^^ bt y i) := by unfold bt; rw [Int32.toBitVec_xor, BitVec.getLsbD_xor]
theorem b_big {x : Int32} {i : Nat} (h : 32 ≤ i) : bt x i = false := BitVec.getLsbD_of_ge _ _ h
theorem b_255 (i : Nat) : bt 255 i = decide (i < 8) := by
  rcases Nat.lt_or_ge i 32 with h | h
  · exact (by decide +kernel : ∀ i, i < 32 → bt 255 i = decide (i < 8)) i h
  · rw [b_big h, decide_eq_false (by omega)]
theorem b_65535 (i : Nat) : bt 65535 i = decide (i < 16) := by
  rcases Nat.lt_or_ge i 32 with h | h
  · exact (by decide +kernel : ∀ i, i < 32 → bt 65535 i = decide (i < 16)) i h
  · rw [b_big h, decide_eq_false (by omega)]
theorem b_m1 : ∀ i, i < 32 → bt (-1) i = true := by decide +kernel
theorem b_0 (i : Nat) : bt 0 i = false := BitVec.getLsbD_zero
theorem s_l : ∀ n, n < 32 → ((nI n &&& 31).toBitVec.smod 32).toNat = n := by decide +kernel
theorem s_u : ∀ n, n < 32 → (((nI n).toUInt32 &&& Int32.toUInt32 31).toBitVec % 32).toNat = n := by decide +kernel
theorem b_shl (n : Nat) (hn : n < 32) (x : Int32) {i : Nat} (hi : i < 32) : bt (x <<< (nI n &&& 31)) i = (decide (n ≤ i) && bt x (i - n)) := by
  unfold bt
  rw [Int32.toBitVec_shiftLeft]
  show (x.toBitVec <<< ((nI n &&& 31).toBitVec.smod 32).toNat).getLsbD i = _
  rw [s_l n hn, BitVec.getLsbD_shiftLeft]
  rcases Nat.lt_or_ge i n with h | h
  · simp [h, Nat.not_le.mpr h]
  · simp [hi, h, Nat.not_lt.mpr h]
theorem b_ushr (n : Nat) (hn : n < 32) (x : Int32) (i : Nat) : bt ((x.toUInt32 >>> ((nI n).toUInt32 &&& Int32.toUInt32 31)).toInt32) i = bt x (n + i) := by
  show (x.toUInt32 >>> ((nI n).toUInt32 &&& Int32.toUInt32 31)).toBitVec.getLsbD i = x.toUInt32.toBitVec.getLsbD (n + i)
  rw [UInt32.toBitVec_shiftRight]
  show (x.toUInt32.toBitVec >>> (((nI n).toUInt32 &&& Int32.toUInt32 31).toBitVec % 32).toNat).getLsbD i = _
  rw [s_u n hn, BitVec.getLsbD_ushiftRight]
theorem b_sshr (n : Nat) (hn : n < 32) (x : Int32) {i : Nat} (hi : i < 32) : bt (x >>> (nI n &&& 31)) i = if n + i < 32 then bt x (n + i) else bt x 31 := by
  unfold bt
  rw [Int32.toBitVec_shiftRight]
  show (x.toBitVec.sshiftRight ((nI n &&& 31).toBitVec.smod 32).toNat).getLsbD i = _
  rw [s_l n hn, BitVec.getLsbD_sshiftRight, BitVec.msb_eq_getLsbD_last]
  simp [hi]
theorem nx_and (a b : Nat) : nI a &&& nI b = nI (a &&& b) := by
  apply Int32.toBitVec_inj.1
  show BitVec.ofNat 32 a &&& BitVec.ofNat 32 b = BitVec.ofNat 32 (a &&& b)
  apply BitVec.eq_of_getLsbD_eq
  intro i hi
  simp [hi]
theorem nx_xor (a b : Nat) : nI a ^^^ nI b = nI (a ^^^ b) := by
  apply Int32.toBitVec_inj.1
  show BitVec.ofNat 32 a ^^^ BitVec.ofNat 32 b = BitVec.ofNat 32 (a ^^^ b)
  apply BitVec.eq_of_getLsbD_eq
  intro i hi
  simp [hi]
theorem b_one (i : Nat) : bt 1 i = decide (i = 0) := by
  rcases Nat.lt_or_ge i 32 with h | h
  · exact (by decide +kernel : ∀ i, i < 32 → bt 1 i = decide (i = 0)) i h
  · rw [b_big h, decide_eq_false (by omega)]
theorem and_one (x : Int32) : x &&& 1 = 1 ↔ bt x 0 = true := by
  constructor
  · intro h
    have h1 : bt (x &&& 1) 0 = bt 1 0 := by rw [h]
    rw [b_and, b_one] at h1
    simpa using h1
  · intro h
    apply b_ext
    intro i hi
    rw [b_and, b_one]
    by_cases e : i = 0
    · subst e; simp [h]
    · simp [e]
theorem and_zero (x : Int32) : x &&& 1 = 0 ↔ bt x 0 = false := by
  constructor
  · intro h
    have h1 : bt (x &&& 1) 0 = bt 0 0 := by rw [h]
    rw [b_and, b_one, b_0] at h1
    simpa using h1
  · intro h
    apply b_ext
    intro i hi
    rw [b_and, b_one, b_0]
    by_cases e : i = 0
    · subst e; simp [h]
    · simp [e]
end
section
/-! the pure words: what the methods answer -/
section LOOPS
variable {Z : Zt} {X : Xt} {b : Mem} {pc : Nat} {L : List (Option Value)} {st : List Value}
/-- a counted loop: the state k rounds on -/
theorem g_loop (N : Nat) (B : Nat → Mem) (Lk : Nat → List (Option Value)) (h0 : b = B 0) (hL : L = Lk 0) (step : ∀ k, k < N → G Z X (B (k + 1)) pc (Lk (k + 1)) st → G Z X (B k) pc (Lk k) st) (out : G Z X (B N) pc (Lk N) st) : G Z X b pc L st := by
  subst h0; subst hL
  have key : ∀ j, j ≤ N → G Z X (B (N - j)) pc (Lk (N - j)) st := by
    intro j
    induction j with
    | zero => intro _; exact out
    | succ j ih =>
      intro hj
      have h1 := ih (by omega)
      have e : N - j = (N - (j + 1)) + 1 := by omega
      rw [e] at h1
      exact step _ (by omega) h1
  have := key N (Nat.le_refl N)
  rw [Nat.sub_self] at this
  exact this
end LOOPS
abbrev View : Type := Nat → Nat → Nat → Int32
/-- a Bus at the cell o -/
def cv (b : Mem) (o : Nat) : View := fun c l i => match c with
  | 0 => b (o + 1) l
  | 1 => b (o + 2) (l * 8 + i)
  | 2 => b (o + 3) (l * 8 + i)
  | 3 => b (o + 4) l
  | 4 => b (o + 5) l
  | 5 => b (o + 6) l
  | 6 => b o 6
  | _ => b o 7
/-- a row of the reference's numbers, from place q on -/
def kv (f : Nat → Int32) (q : Nat) : View := fun c l i => match c with
  | 0 => f (q + (9 + 17 * l))
  | 1 => f (q + (9 + 17 * l + 1 + i))
  | 2 => f (q + (9 + 17 * l + 9 + i))
  | 3 => f (q + (111 + 2 * l))
  | 4 => f (q + (111 + 2 * l + 1))
  | 5 => f (q + (2 + l))
  | 6 => f q
  | _ => f (q + 1)
def nl (v : View) : Nat := (v 6 0 0).toNatClampNeg
def np (v : View) : Nat := (v 7 0 0).toNatClampNeg
def rn (v : View) (l : Nat) : Nat := (v 0 l 0).toNatClampNeg
/-- what holds of every state: the numbers are as told -/
def Val (v : View) : Prop := (v 6 0 0 = nI (nl v) ∧ nl v ≤ 6) ∧ (v 7 0 0 = nI (np v) ∧ np v ≤ 6) ∧
  (∀ l, l < nl v → v 0 l 0 = nI (rn v l) ∧ 1 ≤ rn v l ∧ rn v l ≤ 8 ∧ (∀ i, i < rn v l → ¬ v 1 l i < 1 ∧ ¬ 60 < v 1 l i) ∧ ∀ i, 0 < i → i < rn v l → v 2 l i = 0 ∨ v 2 l i = 1) ∧
  (∀ p, p < np v → (¬ v 3 p 0 < 1 ∧ ¬ 60 < v 3 p 0) ∧ ¬ v 4 p 0 < 0 ∧ ¬ 63 < v 4 p 0) ∧
  ∀ k, k < 7 → ¬ v 5 k 0 < lowF k ∧ ¬ higF k < v 5 k 0
def sumI (f : Nat → Int32) : Nat → Int32
  | 0 => 0
  | n + 1 => sumI f n + f n
def cntI (f : Nat → Prop) [DecidablePred f] : Nat → Int32
  | 0 => 0
  | n + 1 => if f n then cntI f n + 1 else cntI f n
def bitsN (f : Nat → Bool) : Nat → Nat
  | 0 => 0
  | n + 1 => bitsN f n + (if f n then 2 ^ n else 0)
def maxI (f : Nat → Int32) : Nat → Int32
  | 0 => 0
  | n + 1 => if maxI f n < f n then f n else maxI f n
def gainS (v : View) : Int32 := 2 * (v 5 0 0 - v 5 1 0) - 4 * v 5 2 0
def pos0 (x : Int32) : Int32 := if 0 < x then x else 0
def baseS (v : View) (l : Nat) : Int32 := pos0 (sumI (v 1 l) (rn v l) - v 5 2 0 * (v 0 l 0 - 1))
def evenUp (x : Int32) : Int32 := x + (x &&& 1)
def lackS (v : View) (base t : Int32) : Int32 := evenUp (pos0 (t - v 5 3 0 - base))
def needS (v : View) (base t : Int32) : Int32 := if lackS v base t = 0 then 0 else if gainS v < 2 then 1000 else (lackS v base t + gainS v - 1) / gainS v
def humpsS (v : View) (p : Nat) : Int32 := if gainS v < 2 then 0 else (v 3 p 0 + v 5 1 0) / (2 * v 5 1 0)
def tbI (x : Int32) (k : Nat) : Bool := x.toBitVec.getLsbD k
def reachN (v : View) (l : Nat) : Nat := bitsN (fun p => tbI (v 4 p 0) l) (np v)
def turnsS (v : View) (l : Nat) (side : Int32) : Int32 := cntI (fun i => v 2 l (i + 1) = side) (rn v l - 1)
def skewS (v : View) (l n : Nat) : Int32 := sumI (fun i => if v 2 l (i + 1) = 1 then 2 else -2) n
def roomS (v : View) (l i : Nat) : Int32 := v 1 l i / v 5 6 0
def longestS (v : View) : Int32 := maxI (baseS v) (nl v)
theorem nI_toC (x : Int32) (h : ¬ x < 0) : x = nI x.toNatClampNeg := by
  obtain ⟨j, hj, rfl⟩ := nI_of h
  rw [nI_clamp hj]
theorem nI_ltN {a : Nat} {N : Nat} (h : a < N) (hN : N < 2 ^ 31) : nI a < nI N := nI_lt h hN
theorem bI_z {c : Prop} [Decidable c] : bI c = 0 ↔ ¬ c := by unfold bI; split <;> simp [*]
theorem bI_nz {c : Prop} [Decidable c] : ¬ bI c = 0 ↔ c := by unfold bI; split <;> simp [*]
theorem g_top {Z : Zt} {X : Xt} {b : Mem} {pc : Nat} {L : List (Option Value)} {st : List Value} {x : Int32} (x' : Int32) (h : x = x') (k : G Z X b pc L (.int x' :: st)) : G Z X b pc L (.int x :: st) := by subst h; exact k
theorem nI_sub1 {n : Nat} (h : 0 < n) : nI n - 1 = nI (n - 1) := by
  obtain ⟨m, rfl⟩ : ∃ m, n = m + 1 := ⟨n - 1, by omega⟩
  exact nI_pred m
end
section
/-! the static helpers -/
theorem vin {k n : Nat} (h : k < n) (hn : n < 2 ^ 31) : vp_in (nI k) n := vp_in_nI h hn
set_option maxRecDepth 100000 in
set_option maxHeartbeats 4000000 in
theorem c_X5_within {Z : Zt} {b : Mem} {v lo hi : Int32} : Con Z yX5_within cX5_within 3 (some .boolean) 0 [.int v, .int lo, .int hi] b (some (.int (bI (¬ v < lo ∧ ¬ hi < v)))) (b) := by
  refine con_z (by decide) (Nat.le_of_ble_eq_true rfl) rfl (bI_n _) (fun X hX hq => ?_)
  have hX : Ok Z X cX5_within 3 RX5 0 := hX
  show G Z X b 0 [some (.int v), some (.int lo), some (.int hi)] []
  refine g_iload_0 hX dX5_within_0 ?_
  refine g_iload_1 hX dX5_within_1 ?_
  refine g_icmp_lt hX 14 dX5_within_2 (by decide) (fun c2 => ?_) (fun c2 => ?_)
  · refine g_iconst hX 0 dX5_within_14 (by decide) ?_
    exact hq _ _ _ _ dX5_within_15 (by rfl) (by simp [bI, *])
  · refine g_iload_0 hX dX5_within_5 ?_
    refine g_iload_2 hX dX5_within_6 ?_
    refine g_icmp_gt hX 14 dX5_within_7 (by decide) (fun c7 => ?_) (fun c7 => ?_)
    · refine g_iconst hX 0 dX5_within_14 (by decide) ?_
      exact hq _ _ _ _ dX5_within_15 (by rfl) (by simp [bI, *])
    · refine g_iconst hX 1 dX5_within_10 (by decide) ?_
      refine g_goto hX 15 dX5_within_11 (by decide) ?_
      exact hq _ _ _ _ dX5_within_15 (by rfl) (by simp [bI, *])
set_option maxRecDepth 100000 in
set_option maxHeartbeats 4000000 in
theorem c_X6_in {Z : Zt} {b : Mem} {v lo hi : Int32} : Con Z yX6_in cX6_in 3 (some .boolean) 0 [.int v, .int lo, .int hi] b (some (.int (bI (¬ v < lo ∧ ¬ hi < v)))) (b) := by
  refine con_z (by decide) (Nat.le_of_ble_eq_true rfl) rfl (bI_n _) (fun X hX hq => ?_)
  have hX : Ok Z X cX6_in 3 RX6 0 := hX
  show G Z X b 0 [some (.int v), some (.int lo), some (.int hi)] []
  refine g_iload_0 hX dX6_in_0 ?_
  refine g_iload_1 hX dX6_in_1 ?_
  refine g_icmp_lt hX 14 dX6_in_2 (by decide) (fun c2 => ?_) (fun c2 => ?_)
  · refine g_iconst hX 0 dX6_in_14 (by decide) ?_
    exact hq _ _ _ _ dX6_in_15 (by rfl) (by simp [bI, *])
  · refine g_iload_0 hX dX6_in_5 ?_
    refine g_iload_2 hX dX6_in_6 ?_
    refine g_icmp_gt hX 14 dX6_in_7 (by decide) (fun c7 => ?_) (fun c7 => ?_)
    · refine g_iconst hX 0 dX6_in_14 (by decide) ?_
      exact hq _ _ _ _ dX6_in_15 (by rfl) (by simp [bI, *])
    · refine g_iconst hX 1 dX6_in_10 (by decide) ?_
      refine g_goto hX 15 dX6_in_11 (by decide) ?_
      exact hq _ _ _ _ dX6_in_15 (by rfl) (by simp [bI, *])
set_option maxRecDepth 100000 in
set_option maxHeartbeats 4000000 in
theorem c_X5_at {Z : Zt} {b : Mem} {j n k : Nat} (hA : isArr Z j n) (hk : k < n) (hn : n < 2 ^ 31) : Con Z yX5_at cX5_at 2 (some .int) 0 [.ref (zad Z j), .int (nI k)] b (some (.int (b j k))) (b) := by
  refine con_i (by decide) (Nat.le_of_ble_eq_true rfl) rfl (fun X hX hq => ?_)
  have hX : Ok Z X cX5_at 2 RX5 0 := hX
  show G Z X b 0 [some (.ref (zad Z j)), some (.int (nI k))] []
  refine g_iload_1 hX dX5_at_0 ?_
  refine g_if_lt hX 16 dX5_at_1 (by decide) (fun c1 => ?_) (fun c1 => ?_)
  · exact absurd c1 (nI_pos (by omega))
  · refine g_iload_1 hX dX5_at_4 ?_
    refine g_aload_0 hX dX5_at_5 ?_
    refine g_alen hX hA dX5_at_6 ?_
    refine g_icmp_ge hX 16 dX5_at_7 (by decide) (fun c7 => ?_) (fun c7 => ?_)
    · exact absurd c7 (not_not_intro (nI_lt hk hn))
    · refine g_aload_0 hX dX5_at_10 ?_
      refine g_iload_1 hX dX5_at_11 ?_
      refine g_iald hX hA (vin hk hn) dX5_at_12 ?_
      refine g_goto hX 17 dX5_at_13 (by decide) ?_
      exact hq _ _ _ _ dX5_at_17 (by rfl) (by rw [nI_clamp (by omega)])
set_option maxRecDepth 100000 in
set_option maxHeartbeats 4000000 in
theorem c_X5_put {Z : Zt} {b : Mem} {j n k : Nat} {x : Int32} (hA : isArr Z j n) (hk : k < n) (hn : n < 2 ^ 31) : Con Z yX5_put cX5_put 3 none 0 [.ref (zad Z j), .int (nI k), .int x] b none (up2 b j k x) := by
  refine con_v (by decide) (Nat.le_of_ble_eq_true rfl) rfl (fun X hX hq => ?_)
  have hX : Ok Z X cX5_put 3 RX5 0 := hX
  show G Z X b 0 [some (.ref (zad Z j)), some (.int (nI k)), some (.int x)] []
  refine g_iload_1 hX dX5_put_0 ?_
  refine g_if_lt hX 14 dX5_put_1 (by decide) (fun c1 => ?_) (fun c1 => ?_)
  · exact absurd c1 (nI_pos (by omega))
  · refine g_iload_1 hX dX5_put_4 ?_
    refine g_aload_0 hX dX5_put_5 ?_
    refine g_alen hX hA dX5_put_6 ?_
    refine g_icmp_ge hX 14 dX5_put_7 (by decide) (fun c7 => ?_) (fun c7 => ?_)
    · exact absurd c7 (not_not_intro (nI_lt hk hn))
    · refine g_aload_0 hX dX5_put_10 ?_
      refine g_iload_1 hX dX5_put_11 ?_
      refine g_iload_2 hX dX5_put_12 ?_
      refine g_iast hX hA (vin hk hn) dX5_put_13 ?_
      exact hq _ _ _ dX5_put_14 (by rw [nI_clamp (by omega)])
set_option maxRecDepth 100000 in
set_option maxHeartbeats 4000000 in
theorem c_X5_cell {Z : Zt} {b : Mem} {r k w : Nat} (hk : k < w) (hn : w < 2 ^ 31) : Con Z yX5_cell cX5_cell 3 (some .int) 0 [.int (nI r), .int (nI k), .int (nI w)] b (some (.int (nI (r * w + k)))) (b) := by
  refine con_i (by decide) (Nat.le_of_ble_eq_true rfl) rfl (fun X hX hq => ?_)
  have hX : Ok Z X cX5_cell 3 RX5 0 := hX
  show G Z X b 0 [some (.int (nI r)), some (.int (nI k)), some (.int (nI w))] []
  refine g_iload_1 hX dX5_cell_0 ?_
  refine g_if_lt hX 17 dX5_cell_1 (by decide) (fun c1 => ?_) (fun c1 => ?_)
  · exact absurd c1 (nI_pos (by omega))
  · refine g_iload_1 hX dX5_cell_4 ?_
    refine g_iload_2 hX dX5_cell_5 ?_
    refine g_icmp_ge hX 17 dX5_cell_6 (by decide) (fun c6 => ?_) (fun c6 => ?_)
    · exact absurd c6 (not_not_intro (nI_lt hk hn))
    · refine g_iload_0 hX dX5_cell_9 ?_
      refine g_iload_2 hX dX5_cell_10 ?_
      refine g_imul hX dX5_cell_11 ?_
      refine g_iload_1 hX dX5_cell_12 ?_
      refine g_iadd hX dX5_cell_13 ?_
      refine g_goto hX 18 dX5_cell_14 (by decide) ?_
      exact hq _ _ _ _ dX5_cell_18 (by rfl) (by rw [pk_mul, nI_add])
theorem tb_shr (x : Int32) {k : Nat} (hk : k < 31) : (x >>> (nI k &&& 31) &&& 1 = 1) ↔ tbI x k = true := by
  rw [and_one, b_sshr k (by omega) x (by omega)]
  simp only [Nat.add_zero, show k < 32 by omega, if_true]
  rfl
set_option maxRecDepth 100000 in
set_option maxHeartbeats 4000000 in
theorem c_X5_hasBit {Z : Zt} {b : Mem} {x : Int32} {k : Nat} (hk : k < 31) : Con Z yX5_hasBit cX5_hasBit 2 (some .boolean) 0 [.int x, .int (nI k)] b (some (.int (bI (tbI x k = true)))) (b) := by
  refine con_z (by decide) (Nat.le_of_ble_eq_true rfl) rfl (bI_n _) (fun X hX hq => ?_)
  have hX : Ok Z X cX5_hasBit 2 RX5 0 := hX
  show G Z X b 0 [some (.int x), some (.int (nI k))] []
  refine g_iload_0 hX dX5_hasBit_0 ?_
  refine g_iload_1 hX dX5_hasBit_1 ?_
  refine g_ishr hX dX5_hasBit_2 ?_
  refine g_iconst hX 1 dX5_hasBit_3 (by decide) ?_
  refine g_iand hX dX5_hasBit_4 ?_
  refine g_iconst hX 1 dX5_hasBit_5 (by decide) ?_
  refine g_icmp_ne hX 13 dX5_hasBit_6 (by decide) (fun c6 => ?_) (fun c6 => ?_)
  · refine g_iconst hX 0 dX5_hasBit_13 (by decide) ?_
    exact hq _ _ _ _ dX5_hasBit_14 (by rfl) (by simp [bI, (tb_shr x hk).symm, *])
  · refine g_iconst hX 1 dX5_hasBit_9 (by decide) ?_
    refine g_goto hX 14 dX5_hasBit_10 (by decide) ?_
    exact hq _ _ _ _ dX5_hasBit_14 (by rfl) (by simp [bI, (tb_shr x hk).symm, *])
set_option maxRecDepth 100000 in
set_option maxHeartbeats 4000000 in
theorem c_X5_copy {Z : Zt} {b : Mem} {i j n : Nat} (hA : isArr Z i n) (hB : isArr Z j n) (hn : n < 2 ^ 31) : Con Z yX5_copy cX5_copy 2 none 1 [.ref (zad Z i), .ref (zad Z j)] b none (up1 b j (va_cpy (b i) (b j) 0 0 n)) := by
  refine con_v (by decide) (Nat.le_of_ble_eq_true rfl) rfl (fun X hX hq => ?_)
  have hX : Ok Z X cX5_copy 2 RX5 1 := hX
  show G Z X b 0 [some (.ref (zad Z i)), some (.ref (zad Z j))] []
  refine g_aload_0 hX dX5_copy_0 ?_
  refine g_iconst hX 0 dX5_copy_1 (by decide) ?_
  refine g_aload_1 hX dX5_copy_2 ?_
  refine g_iconst hX 0 dX5_copy_3 (by decide) ?_
  refine g_aload_0 hX dX5_copy_4 ?_
  refine g_alen hX hA dX5_copy_5 ?_
  refine g_aload_1 hX dX5_copy_6 ?_
  refine g_alen hX hB dX5_copy_7 ?_
  refine g_min hX ml_X5_291 mm_min_s mm_ini mm_min_c dX5_copy_8 rfl (by decide) (Nat.le_of_ble_eq_true rfl) ?_
  have e0 : (if nI n < nI n then nI n else nI n) = nI n := by split <;> rfl
  refine g_cast (st' := [.int (nI n), .int 0, .ref (zad Z j), .int 0, .ref (zad Z i)]) ?_ rfl rfl (by rw [e0])
  refine g_copy hX hA hB ml_X5_296 sy_nat sy_sta sy_ini (nI_pos hn) (by rw [nI_clamp hn]; omega) (by rw [nI_clamp hn]; omega) rfl (by decide) (Nat.le_of_ble_eq_true rfl) dX5_copy_11 ?_
  exact hq _ _ _ dX5_copy_14 (by rw [nI_clamp hn])
set_option maxRecDepth 100000 in
set_option maxHeartbeats 4000000 in
theorem c_X5_at_low {Z : Zt} {b : Mem} {k : Nat} (hk : k < 7) : Con Z yX5_at cX5_at 2 (some .int) 0 [.ref (ztL Z), .int (nI k)] b (some (.int (lowF k))) (b) := by
  refine con_i (by decide) (Nat.le_of_ble_eq_true rfl) rfl (fun X hX hq => ?_)
  have hX : Ok Z X cX5_at 2 RX5 0 := hX
  show G Z X b 0 [some (.ref (ztL Z)), some (.int (nI k))] []
  refine g_iload_1 hX dX5_at_0 ?_
  refine g_if_lt hX 16 dX5_at_1 (by decide) (fun c1 => ?_) (fun c1 => ?_)
  · exact absurd c1 (nI_pos (by omega))
  · refine g_iload_1 hX dX5_at_4 ?_
    refine g_aload_0 hX dX5_at_5 ?_
    refine g_slenL hX dX5_at_6 ?_
    refine g_icmp_ge hX 16 dX5_at_7 (by decide) (fun c7 => ?_) (fun c7 => ?_)
    · exact absurd c7 (not_not_intro (nI_lt hk (by decide)))
    · refine g_aload_0 hX dX5_at_10 ?_
      refine g_iload_1 hX dX5_at_11 ?_
      refine g_sldL hX (vin hk (by decide)) dX5_at_12 ?_
      refine g_goto hX 17 dX5_at_13 (by decide) ?_
      exact hq _ _ _ _ dX5_at_17 (by rfl) (by rw [nI_clamp (by omega)])
set_option maxRecDepth 100000 in
set_option maxHeartbeats 4000000 in
theorem c_X5_at_hig {Z : Zt} {b : Mem} {k : Nat} (hk : k < 7) : Con Z yX5_at cX5_at 2 (some .int) 0 [.ref (ztH Z), .int (nI k)] b (some (.int (higF k))) (b) := by
  refine con_i (by decide) (Nat.le_of_ble_eq_true rfl) rfl (fun X hX hq => ?_)
  have hX : Ok Z X cX5_at 2 RX5 0 := hX
  show G Z X b 0 [some (.ref (ztH Z)), some (.int (nI k))] []
  refine g_iload_1 hX dX5_at_0 ?_
  refine g_if_lt hX 16 dX5_at_1 (by decide) (fun c1 => ?_) (fun c1 => ?_)
  · exact absurd c1 (nI_pos (by omega))
  · refine g_iload_1 hX dX5_at_4 ?_
    refine g_aload_0 hX dX5_at_5 ?_
    refine g_slenH hX dX5_at_6 ?_
    refine g_icmp_ge hX 16 dX5_at_7 (by decide) (fun c7 => ?_) (fun c7 => ?_)
    · exact absurd c7 (not_not_intro (nI_lt hk (by decide)))
    · refine g_aload_0 hX dX5_at_10 ?_
      refine g_iload_1 hX dX5_at_11 ?_
      refine g_sldH hX (vin hk (by decide)) dX5_at_12 ?_
      refine g_goto hX 17 dX5_at_13 (by decide) ?_
      exact hq _ _ _ _ dX5_at_17 (by rfl) (by rw [nI_clamp (by omega)])
end
section
/-! SnakedBus$Bus: what it answers, what it changes -/
theorem Val.l6 {v : View} (h : Val v) {l : Nat} (hl : l < nl v) : l < 6 := by have := h.1.2; omega
theorem Val.p6 {v : View} (h : Val v) {l : Nat} (hl : l < np v) : l < 6 := by have := h.2.1.2; omega
theorem Val.runs {v : View} (h : Val v) {l : Nat} (hl : l < nl v) : v 0 l 0 = nI (rn v l) := (h.2.2.1 l hl).1
theorem Val.r8 {v : View} (h : Val v) {l : Nat} (hl : l < nl v) : rn v l ≤ 8 := (h.2.2.1 l hl).2.2.1
theorem Val.r1 {v : View} (h : Val v) {l : Nat} (hl : l < nl v) : 1 ≤ rn v l := (h.2.2.1 l hl).2.1
theorem not_lt1 {x : Int32} (h : ¬ x < 1) : ¬ x = 0 := by rintro rfl; exact h (by decide)
theorem lt_trans32 {x y z : Int32} (h : x < y) (h2 : y < z) : x < z := Int32.lt_trans h h2
theorem in_of {x : Int32} {n : Nat} (h0 : ¬ x < 0) (h : x < nI n) (hn : n < 2 ^ 31) : ∃ k, k < n ∧ x = nI k := by
  obtain ⟨j, hj, rfl⟩ := nI_of h0
  exact ⟨j, (nI_ltI hj hn).mp h, rfl⟩
theorem in_of6 {x : Int32} {n : Nat} (h0 : ¬ x < 0) (h : ¬ nI n < x) (hn : n + 1 < 2 ^ 31) : ∃ k, k < n + 1 ∧ x = nI k := by
  obtain ⟨j, hj, rfl⟩ := nI_of h0
  refine ⟨j, ?_, rfl⟩
  rcases Nat.lt_or_ge n j with q | q
  · exact absurd (nI_lt q hj) h
  · omega
theorem two_mul_ne {x : Int32} (h : ¬ x < 1) (h2 : ¬ 4 < x) : ¬ 2 * x = 0 := by
  obtain ⟨j, hj, rfl⟩ := nI_of (x := x) (fun q => h (Int32.lt_trans q (by decide)))
  have h3 : j ≤ 4 := by
    rcases Nat.lt_or_ge 4 j with q | q
    · exact absurd (nI_lt q hj) h2
    · exact q
  have h1 : 1 ≤ j := by
    rcases Nat.lt_or_ge j 1 with q | q
    · exact absurd (nI_lt q (by decide)) h
    · exact q
  rw [show (2 : Int32) = nI 2 from rfl, pk_mul]
  exact nI_ne0 (by omega) (by omega)
set_option maxRecDepth 100000 in
set_option maxHeartbeats 4000000 in
theorem c_X0_lineCount {Z : Zt} {b : Mem} {o : Nat} (h_o : isBus Z o)  : Con Z yX0_lineCount cX0_lineCount 1 (some .int) 0 [.ref (zad Z o)] b (some (.int (b o 6))) (b) := by
  refine con_i (by decide) (Nat.le_of_ble_eq_true rfl) rfl (fun X hX hq => ?_)
  have hX : Ok Z X cX0_lineCount 1 RX0 0 := hX
  show G Z X b 0 [some (.ref (zad Z o))] []
  refine g_aload_0 hX dX0_lineCount_0 ?_
  refine gt_X0_lines hX h_o dX0_lineCount_1 ?_
  exact hq _ _ _ _ dX0_lineCount_4 (by rfl) (by rfl)
set_option maxRecDepth 100000 in
set_option maxHeartbeats 4000000 in
theorem c_X0_pocketCount {Z : Zt} {b : Mem} {o : Nat} (h_o : isBus Z o)  : Con Z yX0_pocketCount cX0_pocketCount 1 (some .int) 0 [.ref (zad Z o)] b (some (.int (b o 7))) (b) := by
  refine con_i (by decide) (Nat.le_of_ble_eq_true rfl) rfl (fun X hX hq => ?_)
  have hX : Ok Z X cX0_pocketCount 1 RX0 0 := hX
  show G Z X b 0 [some (.ref (zad Z o))] []
  refine g_aload_0 hX dX0_pocketCount_0 ?_
  refine gt_X0_pockets hX h_o dX0_pocketCount_1 ?_
  exact hq _ _ _ _ dX0_pocketCount_4 (by rfl) (by rfl)
set_option maxRecDepth 100000 in
set_option maxHeartbeats 4000000 in
theorem c_X0_hasLine {Z : Zt} {b : Mem} {o : Nat} (h_o : isBus Z o) {l : Int32} : Con Z yX0_hasLine cX0_hasLine 2 (some .boolean) 0 [.ref (zad Z o), .int l] b (some (.int (bI (¬ l < 0 ∧ l < b o 6)))) (b) := by
  refine con_z (by decide) (Nat.le_of_ble_eq_true rfl) rfl (bI_n _) (fun X hX hq => ?_)
  have hX : Ok Z X cX0_hasLine 2 RX0 0 := hX
  show G Z X b 0 [some (.ref (zad Z o)), some (.int l)] []
  refine g_iload_1 hX dX0_hasLine_0 ?_
  refine g_if_lt hX 16 dX0_hasLine_1 (by decide) (fun c1 => ?_) (fun c1 => ?_)
  · refine g_iconst hX 0 dX0_hasLine_16 (by decide) ?_
    exact hq _ _ _ _ dX0_hasLine_17 (by rfl) (by simp [bI, *])
  · refine g_iload_1 hX dX0_hasLine_4 ?_
    refine g_aload_0 hX dX0_hasLine_5 ?_
    refine gt_X0_lines hX h_o dX0_hasLine_6 ?_
    refine g_icmp_ge hX 16 dX0_hasLine_9 (by decide) (fun c9 => ?_) (fun c9 => ?_)
    · refine g_iconst hX 0 dX0_hasLine_16 (by decide) ?_
      exact hq _ _ _ _ dX0_hasLine_17 (by rfl) (by simp [bI, *])
    · refine g_iconst hX 1 dX0_hasLine_12 (by decide) ?_
      refine g_goto hX 17 dX0_hasLine_13 (by decide) ?_
      exact hq _ _ _ _ dX0_hasLine_17 (by rfl) (by simp [bI, *])
set_option maxRecDepth 100000 in
set_option maxHeartbeats 4000000 in
theorem c_X0_hasPocket {Z : Zt} {b : Mem} {o : Nat} (h_o : isBus Z o) {l : Int32} : Con Z yX0_hasPocket cX0_hasPocket 2 (some .boolean) 0 [.ref (zad Z o), .int l] b (some (.int (bI (¬ l < 0 ∧ l < b o 7)))) (b) := by
  refine con_z (by decide) (Nat.le_of_ble_eq_true rfl) rfl (bI_n _) (fun X hX hq => ?_)
  have hX : Ok Z X cX0_hasPocket 2 RX0 0 := hX
  show G Z X b 0 [some (.ref (zad Z o)), some (.int l)] []
  refine g_iload_1 hX dX0_hasPocket_0 ?_
  refine g_if_lt hX 16 dX0_hasPocket_1 (by decide) (fun c1 => ?_) (fun c1 => ?_)
  · refine g_iconst hX 0 dX0_hasPocket_16 (by decide) ?_
    exact hq _ _ _ _ dX0_hasPocket_17 (by rfl) (by simp [bI, *])
  · refine g_iload_1 hX dX0_hasPocket_4 ?_
    refine g_aload_0 hX dX0_hasPocket_5 ?_
    refine gt_X0_pockets hX h_o dX0_hasPocket_6 ?_
    refine g_icmp_ge hX 16 dX0_hasPocket_9 (by decide) (fun c9 => ?_) (fun c9 => ?_)
    · refine g_iconst hX 0 dX0_hasPocket_16 (by decide) ?_
      exact hq _ _ _ _ dX0_hasPocket_17 (by rfl) (by simp [bI, *])
    · refine g_iconst hX 1 dX0_hasPocket_12 (by decide) ?_
      refine g_goto hX 17 dX0_hasPocket_13 (by decide) ?_
      exact hq _ _ _ _ dX0_hasPocket_17 (by rfl) (by simp [bI, *])
set_option maxRecDepth 100000 in
set_option maxHeartbeats 4000000 in
theorem c_X0_settingAt {Z : Zt} {b : Mem} {o : Nat} (h_o : isBus Z o) {k : Nat} (hk : k < 7) : Con Z yX0_settingAt cX0_settingAt 2 (some .int) 1 [.ref (zad Z o), .int (nI k)] b (some (.int (b (o + 6) k))) (b) := by
  refine con_i (by decide) (Nat.le_of_ble_eq_true rfl) rfl (fun X hX hq => ?_)
  have hX : Ok Z X cX0_settingAt 2 RX0 1 := hX
  show G Z X b 0 [some (.ref (zad Z o)), some (.int (nI k))] []
  refine g_aload_0 hX dX0_settingAt_0 ?_
  refine gt_X0_chosen hX h_o dX0_settingAt_1 ?_
  refine g_iload_1 hX dX0_settingAt_4 ?_
  refine g_cN2r hX mkX5_at nl_X0_70 (c_X5_at h_o.2.2.2.2.2.2.2 hk (by decide)) dX0_settingAt_5 rfl (by decide) (Nat.le_of_ble_eq_true rfl) ?_
  exact hq _ _ _ _ dX0_settingAt_8 (by rfl) (by rfl)
set_option maxRecDepth 100000 in
set_option maxHeartbeats 4000000 in
theorem c_X0_runsOf {Z : Zt} {b : Mem} {o : Nat} (h_o : isBus Z o) {k : Nat} (hk : k < 6) : Con Z yX0_runsOf cX0_runsOf 2 (some .int) 1 [.ref (zad Z o), .int (nI k)] b (some (.int (b (o + 1) k))) (b) := by
  refine con_i (by decide) (Nat.le_of_ble_eq_true rfl) rfl (fun X hX hq => ?_)
  have hX : Ok Z X cX0_runsOf 2 RX0 1 := hX
  show G Z X b 0 [some (.ref (zad Z o)), some (.int (nI k))] []
  refine g_aload_0 hX dX0_runsOf_0 ?_
  refine gt_X0_runs hX h_o dX0_runsOf_1 ?_
  refine g_iload_1 hX dX0_runsOf_4 ?_
  refine g_cN2r hX mkX5_at nl_X0_70 (c_X5_at h_o.2.2.1 hk (by decide)) dX0_runsOf_5 rfl (by decide) (Nat.le_of_ble_eq_true rfl) ?_
  exact hq _ _ _ _ dX0_runsOf_8 (by rfl) (by rfl)
set_option maxRecDepth 100000 in
set_option maxHeartbeats 4000000 in
theorem c_X0_wideOf {Z : Zt} {b : Mem} {o : Nat} (h_o : isBus Z o) {k : Nat} (hk : k < 6) : Con Z yX0_wideOf cX0_wideOf 2 (some .int) 1 [.ref (zad Z o), .int (nI k)] b (some (.int (b (o + 4) k))) (b) := by
  refine con_i (by decide) (Nat.le_of_ble_eq_true rfl) rfl (fun X hX hq => ?_)
  have hX : Ok Z X cX0_wideOf 2 RX0 1 := hX
  show G Z X b 0 [some (.ref (zad Z o)), some (.int (nI k))] []
  refine g_aload_0 hX dX0_wideOf_0 ?_
  refine gt_X0_wides hX h_o dX0_wideOf_1 ?_
  refine g_iload_1 hX dX0_wideOf_4 ?_
  refine g_cN2r hX mkX5_at nl_X0_70 (c_X5_at h_o.2.2.2.2.2.1 hk (by decide)) dX0_wideOf_5 rfl (by decide) (Nat.le_of_ble_eq_true rfl) ?_
  exact hq _ _ _ _ dX0_wideOf_8 (by rfl) (by rfl)
set_option maxRecDepth 100000 in
set_option maxHeartbeats 4000000 in
theorem c_X0_longOf {Z : Zt} {b : Mem} {o : Nat} (h_o : isBus Z o) {l k : Nat} (hl : l < 6) (hk : k < 8) : Con Z yX0_longOf cX0_longOf 3 (some .int) 1 [.ref (zad Z o), .int (nI l), .int (nI k)] b (some (.int (b (o + 2) (l * 8 + k)))) (b) := by
  refine con_i (by decide) (Nat.le_of_ble_eq_true rfl) rfl (fun X hX hq => ?_)
  have hX : Ok Z X cX0_longOf 3 RX0 1 := hX
  show G Z X b 0 [some (.ref (zad Z o)), some (.int (nI l)), some (.int (nI k))] []
  refine g_aload_0 hX dX0_longOf_0 ?_
  refine gt_X0_longs hX h_o dX0_longOf_1 ?_
  refine g_iload_1 hX dX0_longOf_4 ?_
  refine g_iload_2 hX dX0_longOf_5 ?_
  refine g_bipush hX 8 dX0_longOf_6 (by decide) ?_
  refine g_cN3r hX mkX5_cell nl_X0_52 (c_X5_cell (w := 8) hk (by decide)) dX0_longOf_8 rfl (by decide) (Nat.le_of_ble_eq_true rfl) ?_
  refine g_cN2r hX mkX5_at nl_X0_70 (c_X5_at h_o.2.2.2.1 (by omega) (by decide)) dX0_longOf_11 rfl (by decide) (Nat.le_of_ble_eq_true rfl) ?_
  exact hq _ _ _ _ dX0_longOf_14 (by rfl) (by rfl)
set_option maxRecDepth 100000 in
set_option maxHeartbeats 4000000 in
theorem c_X0_turnAhead {Z : Zt} {b : Mem} {o : Nat} (h_o : isBus Z o) {l k : Nat} (hl : l < 6) (hk : k < 8) : Con Z yX0_turnAhead cX0_turnAhead 3 (some .int) 1 [.ref (zad Z o), .int (nI l), .int (nI k)] b (some (.int (b (o + 3) (l * 8 + k)))) (b) := by
  refine con_i (by decide) (Nat.le_of_ble_eq_true rfl) rfl (fun X hX hq => ?_)
  have hX : Ok Z X cX0_turnAhead 3 RX0 1 := hX
  show G Z X b 0 [some (.ref (zad Z o)), some (.int (nI l)), some (.int (nI k))] []
  refine g_aload_0 hX dX0_turnAhead_0 ?_
  refine gt_X0_turns hX h_o dX0_turnAhead_1 ?_
  refine g_iload_1 hX dX0_turnAhead_4 ?_
  refine g_iload_2 hX dX0_turnAhead_5 ?_
  refine g_bipush hX 8 dX0_turnAhead_6 (by decide) ?_
  refine g_cN3r hX mkX5_cell nl_X0_52 (c_X5_cell (w := 8) hk (by decide)) dX0_turnAhead_8 rfl (by decide) (Nat.le_of_ble_eq_true rfl) ?_
  refine g_cN2r hX mkX5_at nl_X0_70 (c_X5_at h_o.2.2.2.2.1 (by omega) (by decide)) dX0_turnAhead_11 rfl (by decide) (Nat.le_of_ble_eq_true rfl) ?_
  exact hq _ _ _ _ dX0_turnAhead_14 (by rfl) (by rfl)
set_option maxRecDepth 100000 in
set_option maxHeartbeats 4000000 in
theorem c_X0_hasRun {Z : Zt} {b : Mem} {o : Nat} (h_o : isBus Z o) {l i : Int32} (hV : Val (cv b o))  : Con Z yX0_hasRun cX0_hasRun 3 (some .boolean) 2 [.ref (zad Z o), .int l, .int i] b (some (.int (bI (¬ l < 0 ∧ l < b o 6 ∧ ¬ i < 0 ∧ i < b (o + 1) l.toNatClampNeg)))) (b) := by
  refine con_z (by decide) (Nat.le_of_ble_eq_true rfl) rfl (bI_n _) (fun X hX hq => ?_)
  have hX : Ok Z X cX0_hasRun 3 RX0 2 := hX
  show G Z X b 0 [some (.ref (zad Z o)), some (.int l), some (.int i)] []
  refine g_aload_0 hX dX0_hasRun_0 ?_
  refine g_iload_1 hX dX0_hasRun_1 ?_
  refine g_cV1r hX mkX0_hasLine ml_X0_56 (c_X0_hasLine h_o) (h_o.obj _) dX0_hasRun_2 rfl (by decide) (Nat.le_of_ble_eq_true rfl) ?_
  refine g_if_eq hX 25 dX0_hasRun_5 (by decide) (fun c5 => ?_) (fun c5 => ?_)
  · replace c5 := bI_z.mp c5
    refine g_iconst hX 0 dX0_hasRun_25 (by decide) ?_
    exact hq _ _ _ _ dX0_hasRun_26 (by rfl) (by clear hq hX; unfold bI; split <;> simp_all)
  · replace c5 := bI_nz.mp c5
    obtain ⟨j, hj, rfl⟩ := in_of c5.1 (by have := c5.2; rw [show b o 6 = nI (nl (cv b o)) from hV.1.1] at this; exact this) (by have := hV.1.2; omega)
    rw [nI_clamp (by have := hV.1.2; omega)] at hq
    refine g_iload_2 hX dX0_hasRun_8 ?_
    refine g_if_lt hX 25 dX0_hasRun_9 (by decide) (fun c9 => ?_) (fun c9 => ?_)
    · refine g_iconst hX 0 dX0_hasRun_25 (by decide) ?_
      exact hq _ _ _ _ dX0_hasRun_26 (by rfl) (by clear hq hX; unfold bI; split <;> simp_all)
    · refine g_iload_2 hX dX0_hasRun_12 ?_
      refine g_aload_0 hX dX0_hasRun_13 ?_
      refine g_iload_1 hX dX0_hasRun_14 ?_
      refine g_cV1r hX mkX0_runsOf ml_X0_60 (c_X0_runsOf h_o (hV.l6 hj)) (h_o.obj _) dX0_hasRun_15 rfl (by decide) (Nat.le_of_ble_eq_true rfl) ?_
      refine g_icmp_ge hX 25 dX0_hasRun_18 (by decide) (fun c18 => ?_) (fun c18 => ?_)
      · refine g_iconst hX 0 dX0_hasRun_25 (by decide) ?_
        exact hq _ _ _ _ dX0_hasRun_26 (by rfl) (by clear hq hX; unfold bI; split <;> simp_all)
      · refine g_iconst hX 1 dX0_hasRun_21 (by decide) ?_
        refine g_goto hX 26 dX0_hasRun_22 (by decide) ?_
        exact hq _ _ _ _ dX0_hasRun_26 (by rfl) (by clear hq hX; unfold bI; split <;> simp_all)
set_option maxRecDepth 100000 in
set_option maxHeartbeats 4000000 in
theorem c_X0_bumpRoom {Z : Zt} {b : Mem} {o : Nat} (h_o : isBus Z o) {l k : Nat} (hl : l < 6) (hk : k < 8) (hn : ¬ b (o + 6) 6 < 1) : Con Z yX0_bumpRoom cX0_bumpRoom 4 (some .int) 2 [.ref (zad Z o), .int (nI l), .int (nI k)] b (some (.int (roomS (cv b o) l k))) (b) := by
  refine con_i (by decide) (Nat.le_of_ble_eq_true rfl) rfl (fun X hX hq => ?_)
  have hX : Ok Z X cX0_bumpRoom 4 RX0 2 := hX
  show G Z X b 0 [some (.ref (zad Z o)), some (.int (nI l)), some (.int (nI k)), none] []
  refine g_aload_0 hX dX0_bumpRoom_0 ?_
  refine gt_X0_chosen hX h_o dX0_bumpRoom_1 ?_
  refine g_bipush hX 6 dX0_bumpRoom_4 (by decide) ?_
  refine g_cN2r hX mkX5_at nl_X0_70 (c_X5_at (k := 6) h_o.2.2.2.2.2.2.2 (by decide) (by decide)) dX0_bumpRoom_6 rfl (by decide) (Nat.le_of_ble_eq_true rfl) ?_
  refine g_istore_3 hX dX0_bumpRoom_9 rfl ?_
  refine g_iload_3 hX dX0_bumpRoom_10 ?_
  refine g_iconst hX 1 dX0_bumpRoom_11 (by decide) ?_
  refine g_icmp_ge hX 19 dX0_bumpRoom_12 (by decide) (fun c12 => ?_) (fun c12 => ?_)
  · refine g_aload_0 hX dX0_bumpRoom_19 ?_
    refine g_iload_1 hX dX0_bumpRoom_20 ?_
    refine g_iload_2 hX dX0_bumpRoom_21 ?_
    refine g_cV2r hX mkX0_longOf ml_X0_80 (c_X0_longOf h_o hl hk) (h_o.obj _) dX0_bumpRoom_22 rfl (by decide) (Nat.le_of_ble_eq_true rfl) ?_
    refine g_iload_3 hX dX0_bumpRoom_25 ?_
    refine g_idiv hX dX0_bumpRoom_26 (not_lt1 hn) ?_
    exact hq _ _ _ _ dX0_bumpRoom_27 (by rfl) (by rfl)
  · exact absurd c12 (hn)
set_option maxRecDepth 100000 in
set_option maxHeartbeats 4000000 in
theorem c_X0_turnsOf {Z : Zt} {b : Mem} {o : Nat} (h_o : isBus Z o) {l : Nat} {sd : Int32} (hV : Val (cv b o)) (hl : l < nl (cv b o)) : Con Z yX0_turnsOf cX0_turnsOf 5 (some .int) 2 [.ref (zad Z o), .int (nI l), .int sd] b (some (.int (turnsS (cv b o) l sd))) (b) := by
  have hr : b (o + 1) l = nI (rn (cv b o) l) := hV.runs hl
  have hr8 := hV.r8 hl
  have hr1 := hV.r1 hl
  have hl6 := hV.l6 hl
  refine con_i (by decide) (Nat.le_of_ble_eq_true rfl) rfl (fun X hX hq => ?_)
  have hX : Ok Z X cX0_turnsOf 5 RX0 2 := hX
  show G Z X b 0 [some (.ref (zad Z o)), some (.int (nI l)), some (.int sd), none, none] []
  refine g_iconst hX 0 dX0_turnsOf_0 (by decide) ?_
  refine g_istore_3 hX dX0_turnsOf_1 rfl ?_
  refine g_iconst hX 1 dX0_turnsOf_2 (by decide) ?_
  refine g_istore_4 hX dX0_turnsOf_3 rfl ?_
  refine g_loop (rn (cv b o) l - 1) (fun k => b) (fun k => [some (.ref (zad Z o)), some (.int (nI l)), some (.int sd), some (.int (cntI (fun i => cv b o 2 l (i + 1) = sd) k)), some (.int (nI (k + 1)))]) rfl rfl (fun k hk5 ih5 => ?_) ?_
  · show G Z X (b) 5 ([some (.ref (zad Z o)), some (.int (nI l)), some (.int sd), some (.int (cntI (fun i => cv b o 2 l (i + 1) = sd) k)), some (.int (nI (k + 1)))]) _
    refine g_iload_4 hX dX0_turnsOf_5 ?_
    refine g_aload_0 hX dX0_turnsOf_7 ?_
    refine g_iload_1 hX dX0_turnsOf_8 ?_
    refine g_cV1r hX mkX0_runsOf ml_X0_60 (c_X0_runsOf h_o hl6) (h_o.obj _) dX0_turnsOf_9 rfl (by decide) (Nat.le_of_ble_eq_true rfl) ?_
    refine g_icmp_ge hX 35 dX0_turnsOf_12 (by decide) (fun c12 => ?_) (fun c12 => ?_)
    · exact absurd c12 (not_not_intro (by rw [hr]; exact nI_lt (by omega) (by omega)))
    · refine g_aload_0 hX dX0_turnsOf_15 ?_
      refine g_iload_1 hX dX0_turnsOf_16 ?_
      refine g_iload_4 hX dX0_turnsOf_17 ?_
      refine g_cV2r hX mkX0_turnAhead ml_X0_84 (c_X0_turnAhead h_o hl6 (by omega)) (h_o.obj _) dX0_turnsOf_19 rfl (by decide) (Nat.le_of_ble_eq_true rfl) ?_
      refine g_iload_2 hX dX0_turnsOf_22 ?_
      refine g_icmp_ne hX 29 dX0_turnsOf_23 (by decide) (fun c23 => ?_) (fun c23 => ?_)
      · refine g_iinc_4 hX 1 dX0_turnsOf_29 (by decide) rfl ?_
        refine g_goto hX 5 dX0_turnsOf_32 (by decide) ?_
        exact g_cast ih5 rfl (by first | (simp only [nI_succ, cntI, if_pos (show cv b o 2 l (k + 1) = sd from c23)]) | (simp only [nI_succ, cntI, if_neg (show ¬ cv b o 2 l (k + 1) = sd from c23)])) rfl
      · refine g_iinc_3 hX 1 dX0_turnsOf_26 (by decide) rfl ?_
        refine g_iinc_4 hX 1 dX0_turnsOf_29 (by decide) rfl ?_
        refine g_goto hX 5 dX0_turnsOf_32 (by decide) ?_
        exact g_cast ih5 rfl (by first | (simp only [nI_succ, cntI, if_pos (show cv b o 2 l (k + 1) = sd from c23)]) | (simp only [nI_succ, cntI, if_neg (show ¬ cv b o 2 l (k + 1) = sd from c23)])) rfl
  · show G Z X (b) 5 ([some (.ref (zad Z o)), some (.int (nI l)), some (.int sd), some (.int (cntI (fun i => cv b o 2 l (i + 1) = sd) (rn (cv b o) l - 1))), some (.int (nI ((rn (cv b o) l - 1) + 1)))]) _
    refine g_iload_4 hX dX0_turnsOf_5 ?_
    refine g_aload_0 hX dX0_turnsOf_7 ?_
    refine g_iload_1 hX dX0_turnsOf_8 ?_
    refine g_cV1r hX mkX0_runsOf ml_X0_60 (c_X0_runsOf h_o hl6) (h_o.obj _) dX0_turnsOf_9 rfl (by decide) (Nat.le_of_ble_eq_true rfl) ?_
    refine g_icmp_ge hX 35 dX0_turnsOf_12 (by decide) (fun c12 => ?_) (fun c12 => ?_)
    · refine g_iload_3 hX dX0_turnsOf_35 ?_
      exact hq _ _ _ _ dX0_turnsOf_36 (by rfl) (by rfl)
    · exact absurd c12 (by rw [hr, Nat.sub_add_cancel hr1]; exact Int32.lt_irrefl)
set_option maxRecDepth 100000 in
set_option maxHeartbeats 4000000 in
theorem c_X0_plainSkew {Z : Zt} {b : Mem} {o : Nat} (h_o : isBus Z o) {l m : Nat} (hV : Val (cv b o)) (hl : l < nl (cv b o)) (hm : m < rn (cv b o) l) : Con Z yX0_plainSkew cX0_plainSkew 5 (some .int) 2 [.ref (zad Z o), .int (nI l), .int (nI m)] b (some (.int (skewS (cv b o) l m))) (b) := by
  have hr : b (o + 1) l = nI (rn (cv b o) l) := hV.runs hl
  have hr8 := hV.r8 hl
  have hr1 := hV.r1 hl
  have hl6 := hV.l6 hl
  refine con_i (by decide) (Nat.le_of_ble_eq_true rfl) rfl (fun X hX hq => ?_)
  have hX : Ok Z X cX0_plainSkew 5 RX0 2 := hX
  show G Z X b 0 [some (.ref (zad Z o)), some (.int (nI l)), some (.int (nI m)), none, none] []
  refine g_iconst hX 0 dX0_plainSkew_0 (by decide) ?_
  refine g_istore_3 hX dX0_plainSkew_1 rfl ?_
  refine g_iconst hX 1 dX0_plainSkew_2 (by decide) ?_
  refine g_istore_4 hX dX0_plainSkew_3 rfl ?_
  refine g_loop (m) (fun k => b) (fun k => [some (.ref (zad Z o)), some (.int (nI l)), some (.int (nI m)), some (.int (sumI (fun i => if cv b o 2 l (i + 1) = 1 then 2 else -2) k)), some (.int (nI (k + 1)))]) rfl rfl (fun k hk5 ih5 => ?_) ?_
  · show G Z X (b) 5 ([some (.ref (zad Z o)), some (.int (nI l)), some (.int (nI m)), some (.int (sumI (fun i => if cv b o 2 l (i + 1) = 1 then 2 else -2) k)), some (.int (nI (k + 1)))]) _
    refine g_iload_4 hX dX0_plainSkew_5 ?_
    refine g_iload_2 hX dX0_plainSkew_7 ?_
    refine g_icmp_gt hX 47 dX0_plainSkew_8 (by decide) (fun c8 => ?_) (fun c8 => ?_)
    · exact absurd c8 (nI_nlt (by omega) (by omega))
    · refine g_iload_4 hX dX0_plainSkew_11 ?_
      refine g_aload_0 hX dX0_plainSkew_13 ?_
      refine g_iload_1 hX dX0_plainSkew_14 ?_
      refine g_cV1r hX mkX0_runsOf ml_X0_60 (c_X0_runsOf h_o hl6) (h_o.obj _) dX0_plainSkew_15 rfl (by decide) (Nat.le_of_ble_eq_true rfl) ?_
      refine g_icmp_ge hX 47 dX0_plainSkew_18 (by decide) (fun c18 => ?_) (fun c18 => ?_)
      · exact absurd c18 (not_not_intro (by rw [hr]; exact nI_lt (by omega) (by omega)))
      · refine g_iload_3 hX dX0_plainSkew_21 ?_
        refine g_aload_0 hX dX0_plainSkew_22 ?_
        refine g_iload_1 hX dX0_plainSkew_23 ?_
        refine g_iload_4 hX dX0_plainSkew_24 ?_
        refine g_cV2r hX mkX0_turnAhead ml_X0_84 (c_X0_turnAhead h_o hl6 (by omega)) (h_o.obj _) dX0_plainSkew_26 rfl (by decide) (Nat.le_of_ble_eq_true rfl) ?_
        refine g_iconst hX 1 dX0_plainSkew_29 (by decide) ?_
        refine g_icmp_ne hX 37 dX0_plainSkew_30 (by decide) (fun c30 => ?_) (fun c30 => ?_)
        · refine g_bipush hX (-2) dX0_plainSkew_37 (by decide) ?_
          refine g_iadd hX dX0_plainSkew_39 ?_
          refine g_istore_3 hX dX0_plainSkew_40 rfl ?_
          refine g_iinc_4 hX 1 dX0_plainSkew_41 (by decide) rfl ?_
          refine g_goto hX 5 dX0_plainSkew_44 (by decide) ?_
          exact g_cast ih5 rfl (by first | (simp only [nI_succ, sumI, if_pos (show cv b o 2 l (k + 1) = 1 from c30)]) | (simp only [nI_succ, sumI, if_neg (show ¬ cv b o 2 l (k + 1) = 1 from c30)])) rfl
        · refine g_iconst hX 2 dX0_plainSkew_33 (by decide) ?_
          refine g_goto hX 39 dX0_plainSkew_34 (by decide) ?_
          refine g_iadd hX dX0_plainSkew_39 ?_
          refine g_istore_3 hX dX0_plainSkew_40 rfl ?_
          refine g_iinc_4 hX 1 dX0_plainSkew_41 (by decide) rfl ?_
          refine g_goto hX 5 dX0_plainSkew_44 (by decide) ?_
          exact g_cast ih5 rfl (by first | (simp only [nI_succ, sumI, if_pos (show cv b o 2 l (k + 1) = 1 from c30)]) | (simp only [nI_succ, sumI, if_neg (show ¬ cv b o 2 l (k + 1) = 1 from c30)])) rfl
  · show G Z X (b) 5 ([some (.ref (zad Z o)), some (.int (nI l)), some (.int (nI m)), some (.int (sumI (fun i => if cv b o 2 l (i + 1) = 1 then 2 else -2) (m))), some (.int (nI ((m) + 1)))]) _
    refine g_iload_4 hX dX0_plainSkew_5 ?_
    refine g_iload_2 hX dX0_plainSkew_7 ?_
    refine g_icmp_gt hX 47 dX0_plainSkew_8 (by decide) (fun c8 => ?_) (fun c8 => ?_)
    · refine g_iload_3 hX dX0_plainSkew_47 ?_
      exact hq _ _ _ _ dX0_plainSkew_48 (by rfl) (by rfl)
    · exact absurd c8 (not_not_intro (nI_lt (by omega) (by omega)))
set_option maxRecDepth 100000 in
set_option maxHeartbeats 4000000 in
theorem c_X0_baseOf {Z : Zt} {b : Mem} {o : Nat} (h_o : isBus Z o) {l : Nat} (hV : Val (cv b o)) (hl : l < nl (cv b o)) : Con Z yX0_baseOf cX0_baseOf 4 (some .int) 2 [.ref (zad Z o), .int (nI l)] b (some (.int (baseS (cv b o) l))) (b) := by
  have hr : b (o + 1) l = nI (rn (cv b o) l) := hV.runs hl
  have hr8 := hV.r8 hl
  have hr1 := hV.r1 hl
  have hl6 := hV.l6 hl
  refine con_i (by decide) (Nat.le_of_ble_eq_true rfl) rfl (fun X hX hq => ?_)
  have hX : Ok Z X cX0_baseOf 4 RX0 2 := hX
  show G Z X b 0 [some (.ref (zad Z o)), some (.int (nI l)), none, none] []
  refine g_iconst hX 0 dX0_baseOf_0 (by decide) ?_
  refine g_istore_2 hX dX0_baseOf_1 rfl ?_
  refine g_iconst hX 0 dX0_baseOf_2 (by decide) ?_
  refine g_istore_3 hX dX0_baseOf_3 rfl ?_
  refine g_loop (rn (cv b o) l) (fun k => b) (fun k => [some (.ref (zad Z o)), some (.int (nI l)), some (.int (sumI (cv b o 1 l) k)), some (.int (nI k))]) rfl rfl (fun k hk4 ih4 => ?_) ?_
  · show G Z X (b) 4 ([some (.ref (zad Z o)), some (.int (nI l)), some (.int (sumI (cv b o 1 l) k)), some (.int (nI k))]) _
    refine g_iload_3 hX dX0_baseOf_4 ?_
    refine g_aload_0 hX dX0_baseOf_5 ?_
    refine g_iload_1 hX dX0_baseOf_6 ?_
    refine g_cV1r hX mkX0_runsOf ml_X0_60 (c_X0_runsOf h_o hl6) (h_o.obj _) dX0_baseOf_7 rfl (by decide) (Nat.le_of_ble_eq_true rfl) ?_
    refine g_icmp_ge hX 28 dX0_baseOf_10 (by decide) (fun c10 => ?_) (fun c10 => ?_)
    · exact absurd c10 (not_not_intro (by rw [hr]; exact nI_lt hk4 (by omega)))
    · refine g_iload_2 hX dX0_baseOf_13 ?_
      refine g_aload_0 hX dX0_baseOf_14 ?_
      refine g_iload_1 hX dX0_baseOf_15 ?_
      refine g_iload_3 hX dX0_baseOf_16 ?_
      refine g_cV2r hX mkX0_longOf ml_X0_80 (c_X0_longOf h_o hl6 (by omega)) (h_o.obj _) dX0_baseOf_17 rfl (by decide) (Nat.le_of_ble_eq_true rfl) ?_
      refine g_iadd hX dX0_baseOf_20 ?_
      refine g_istore_2 hX dX0_baseOf_21 rfl ?_
      refine g_iinc_3 hX 1 dX0_baseOf_22 (by decide) rfl ?_
      refine g_goto hX 4 dX0_baseOf_25 (by decide) ?_
      exact g_cast ih4 rfl (by simp only [nI_succ, sumI] <;> rfl) rfl
  · show G Z X (b) 4 ([some (.ref (zad Z o)), some (.int (nI l)), some (.int (sumI (cv b o 1 l) (rn (cv b o) l))), some (.int (nI (rn (cv b o) l)))]) _
    refine g_iload_3 hX dX0_baseOf_4 ?_
    refine g_aload_0 hX dX0_baseOf_5 ?_
    refine g_iload_1 hX dX0_baseOf_6 ?_
    refine g_cV1r hX mkX0_runsOf ml_X0_60 (c_X0_runsOf h_o hl6) (h_o.obj _) dX0_baseOf_7 rfl (by decide) (Nat.le_of_ble_eq_true rfl) ?_
    refine g_icmp_ge hX 28 dX0_baseOf_10 (by decide) (fun c10 => ?_) (fun c10 => ?_)
    · refine g_iconst hX 0 dX0_baseOf_28 (by decide) ?_
      refine g_iload_2 hX dX0_baseOf_29 ?_
      refine g_aload_0 hX dX0_baseOf_30 ?_
      refine gt_X0_chosen hX h_o dX0_baseOf_31 ?_
      refine g_iconst hX 2 dX0_baseOf_34 (by decide) ?_
      refine g_cN2r hX mkX5_at nl_X0_70 (c_X5_at (k := 2) h_o.2.2.2.2.2.2.2 (by decide) (by decide)) dX0_baseOf_35 rfl (by decide) (Nat.le_of_ble_eq_true rfl) ?_
      refine g_aload_0 hX dX0_baseOf_38 ?_
      refine g_iload_1 hX dX0_baseOf_39 ?_
      refine g_cV1r hX mkX0_runsOf ml_X0_60 (c_X0_runsOf h_o hl6) (h_o.obj _) dX0_baseOf_40 rfl (by decide) (Nat.le_of_ble_eq_true rfl) ?_
      refine g_iconst hX 1 dX0_baseOf_43 (by decide) ?_
      refine g_isub hX dX0_baseOf_44 ?_
      refine g_imul hX dX0_baseOf_45 ?_
      refine g_isub hX dX0_baseOf_46 ?_
      refine g_max hX ml_X0_87 mm_max_s mm_ini mm_max_c dX0_baseOf_47 rfl (by decide) (Nat.le_of_ble_eq_true rfl) ?_
      exact hq _ _ _ _ dX0_baseOf_50 (by rfl) (by rfl)
    · exact absurd c10 (by rw [hr]; exact Int32.lt_irrefl)
set_option maxRecDepth 100000 in
set_option maxHeartbeats 4000000 in
theorem c_X0_longestBase {Z : Zt} {b : Mem} {o : Nat} (h_o : isBus Z o) (hV : Val (cv b o))  : Con Z yX0_longestBase cX0_longestBase 3 (some .int) 3 [.ref (zad Z o)] b (some (.int (longestS (cv b o)))) (b) := by
  have hn : b o 6 = nI (nl (cv b o)) := hV.1.1
  have hn6 := hV.1.2
  refine con_i (by decide) (Nat.le_of_ble_eq_true rfl) rfl (fun X hX hq => ?_)
  have hX : Ok Z X cX0_longestBase 3 RX0 3 := hX
  show G Z X b 0 [some (.ref (zad Z o)), none, none] []
  refine g_iconst hX 0 dX0_longestBase_0 (by decide) ?_
  refine g_istore_1 hX dX0_longestBase_1 rfl ?_
  refine g_iconst hX 0 dX0_longestBase_2 (by decide) ?_
  refine g_istore_2 hX dX0_longestBase_3 rfl ?_
  refine g_loop (nl (cv b o)) (fun k => b) (fun k => [some (.ref (zad Z o)), some (.int (maxI (baseS (cv b o)) k)), some (.int (nI k))]) rfl rfl (fun k hk4 ih4 => ?_) ?_
  · show G Z X (b) 4 ([some (.ref (zad Z o)), some (.int (maxI (baseS (cv b o)) k)), some (.int (nI k))]) _
    refine g_iload_2 hX dX0_longestBase_4 ?_
    refine g_aload_0 hX dX0_longestBase_5 ?_
    refine gt_X0_lines hX h_o dX0_longestBase_6 ?_
    refine g_icmp_ge hX 28 dX0_longestBase_9 (by decide) (fun c9 => ?_) (fun c9 => ?_)
    · exact absurd c9 (not_not_intro (by rw [hn]; exact nI_lt hk4 (by omega)))
    · refine g_iload_1 hX dX0_longestBase_12 ?_
      refine g_aload_0 hX dX0_longestBase_13 ?_
      refine g_iload_2 hX dX0_longestBase_14 ?_
      refine g_cV1r hX mkX0_baseOf ml_X0_92 (c_X0_baseOf h_o hV hk4) (h_o.obj _) dX0_longestBase_15 rfl (by decide) (Nat.le_of_ble_eq_true rfl) ?_
      refine g_max hX ml_X0_87 mm_max_s mm_ini mm_max_c dX0_longestBase_18 rfl (by decide) (Nat.le_of_ble_eq_true rfl) ?_
      refine g_istore_1 hX dX0_longestBase_21 rfl ?_
      refine g_iinc_2 hX 1 dX0_longestBase_22 (by decide) rfl ?_
      refine g_goto hX 4 dX0_longestBase_25 (by decide) ?_
      exact g_cast ih4 rfl (by simp only [nI_succ, maxI]) rfl
  · show G Z X (b) 4 ([some (.ref (zad Z o)), some (.int (maxI (baseS (cv b o)) (nl (cv b o)))), some (.int (nI (nl (cv b o))))]) _
    refine g_iload_2 hX dX0_longestBase_4 ?_
    refine g_aload_0 hX dX0_longestBase_5 ?_
    refine gt_X0_lines hX h_o dX0_longestBase_6 ?_
    refine g_icmp_ge hX 28 dX0_longestBase_9 (by decide) (fun c9 => ?_) (fun c9 => ?_)
    · refine g_iload_1 hX dX0_longestBase_28 ?_
      exact hq _ _ _ _ dX0_longestBase_29 (by rfl) (by rfl)
    · exact absurd c9 (by rw [hn]; exact Int32.lt_irrefl)
set_option maxRecDepth 100000 in
set_option maxHeartbeats 4000000 in
theorem c_X0_lackFor {Z : Zt} {b : Mem} {o : Nat} (h_o : isBus Z o) {bs t : Int32} : Con Z yX0_lackFor cX0_lackFor 4 (some .int) 1 [.ref (zad Z o), .int bs, .int t] b (some (.int (lackS (cv b o) bs t))) (b) := by
  refine con_i (by decide) (Nat.le_of_ble_eq_true rfl) rfl (fun X hX hq => ?_)
  have hX : Ok Z X cX0_lackFor 4 RX0 1 := hX
  show G Z X b 0 [some (.ref (zad Z o)), some (.int bs), some (.int t), none] []
  refine g_iconst hX 0 dX0_lackFor_0 (by decide) ?_
  refine g_iload_2 hX dX0_lackFor_1 ?_
  refine g_aload_0 hX dX0_lackFor_2 ?_
  refine gt_X0_chosen hX h_o dX0_lackFor_3 ?_
  refine g_iconst hX 3 dX0_lackFor_6 (by decide) ?_
  refine g_cN2r hX mkX5_at nl_X0_70 (c_X5_at (k := 3) h_o.2.2.2.2.2.2.2 (by decide) (by decide)) dX0_lackFor_7 rfl (by decide) (Nat.le_of_ble_eq_true rfl) ?_
  refine g_isub hX dX0_lackFor_10 ?_
  refine g_iload_1 hX dX0_lackFor_11 ?_
  refine g_isub hX dX0_lackFor_12 ?_
  refine g_max hX ml_X0_87 mm_max_s mm_ini mm_max_c dX0_lackFor_13 rfl (by decide) (Nat.le_of_ble_eq_true rfl) ?_
  refine g_istore_3 hX dX0_lackFor_16 rfl ?_
  refine g_iload_3 hX dX0_lackFor_17 ?_
  refine g_iload_3 hX dX0_lackFor_18 ?_
  refine g_iconst hX 1 dX0_lackFor_19 (by decide) ?_
  refine g_iand hX dX0_lackFor_20 ?_
  refine g_iadd hX dX0_lackFor_21 ?_
  exact hq _ _ _ _ dX0_lackFor_22 (by rfl) (by rfl)
set_option maxRecDepth 100000 in
set_option maxHeartbeats 4000000 in
theorem c_X0_gain {Z : Zt} {b : Mem} {o : Nat} (h_o : isBus Z o)  : Con Z yX0_gain cX0_gain 1 (some .int) 1 [.ref (zad Z o)] b (some (.int (gainS (cv b o)))) (b) := by
  refine con_i (by decide) (Nat.le_of_ble_eq_true rfl) rfl (fun X hX hq => ?_)
  have hX : Ok Z X cX0_gain 1 RX0 1 := hX
  show G Z X b 0 [some (.ref (zad Z o))] []
  refine g_iconst hX 2 dX0_gain_0 (by decide) ?_
  refine g_aload_0 hX dX0_gain_1 ?_
  refine gt_X0_chosen hX h_o dX0_gain_2 ?_
  refine g_iconst hX 0 dX0_gain_5 (by decide) ?_
  refine g_cN2r hX mkX5_at nl_X0_70 (c_X5_at (k := 0) h_o.2.2.2.2.2.2.2 (by decide) (by decide)) dX0_gain_6 rfl (by decide) (Nat.le_of_ble_eq_true rfl) ?_
  refine g_aload_0 hX dX0_gain_9 ?_
  refine gt_X0_chosen hX h_o dX0_gain_10 ?_
  refine g_iconst hX 1 dX0_gain_13 (by decide) ?_
  refine g_cN2r hX mkX5_at nl_X0_70 (c_X5_at (k := 1) h_o.2.2.2.2.2.2.2 (by decide) (by decide)) dX0_gain_14 rfl (by decide) (Nat.le_of_ble_eq_true rfl) ?_
  refine g_isub hX dX0_gain_17 ?_
  refine g_imul hX dX0_gain_18 ?_
  refine g_iconst hX 4 dX0_gain_19 (by decide) ?_
  refine g_aload_0 hX dX0_gain_20 ?_
  refine gt_X0_chosen hX h_o dX0_gain_21 ?_
  refine g_iconst hX 2 dX0_gain_24 (by decide) ?_
  refine g_cN2r hX mkX5_at nl_X0_70 (c_X5_at (k := 2) h_o.2.2.2.2.2.2.2 (by decide) (by decide)) dX0_gain_25 rfl (by decide) (Nat.le_of_ble_eq_true rfl) ?_
  refine g_imul hX dX0_gain_28 ?_
  refine g_isub hX dX0_gain_29 ?_
  exact hq _ _ _ _ dX0_gain_30 (by rfl) (by rfl)
set_option maxRecDepth 100000 in
set_option maxHeartbeats 4000000 in
theorem c_X0_needFor {Z : Zt} {b : Mem} {o : Nat} (h_o : isBus Z o) {bs t : Int32} : Con Z yX0_needFor cX0_needFor 5 (some .int) 2 [.ref (zad Z o), .int bs, .int t] b (some (.int (needS (cv b o) bs t))) (b) := by
  refine con_i (by decide) (Nat.le_of_ble_eq_true rfl) rfl (fun X hX hq => ?_)
  have hX : Ok Z X cX0_needFor 5 RX0 2 := hX
  show G Z X b 0 [some (.ref (zad Z o)), some (.int bs), some (.int t), none, none] []
  refine g_aload_0 hX dX0_needFor_0 ?_
  refine g_iload_1 hX dX0_needFor_1 ?_
  refine g_iload_2 hX dX0_needFor_2 ?_
  refine g_cV2r hX mkX0_lackFor ml_X0_95 (c_X0_lackFor h_o) (h_o.obj _) dX0_needFor_3 rfl (by decide) (Nat.le_of_ble_eq_true rfl) ?_
  refine g_istore_3 hX dX0_needFor_6 rfl ?_
  refine g_iload_3 hX dX0_needFor_7 ?_
  refine g_if_ne hX 13 dX0_needFor_8 (by decide) (fun c8 => ?_) (fun c8 => ?_)
  · refine g_aload_0 hX dX0_needFor_13 ?_
    refine g_cV0r hX mkX0_gain ml_X0_98 (c_X0_gain h_o) (h_o.obj _) dX0_needFor_14 rfl (by decide) (Nat.le_of_ble_eq_true rfl) ?_
    refine g_istore_4 hX dX0_needFor_17 rfl ?_
    refine g_iload_4 hX dX0_needFor_19 ?_
    refine g_iconst hX 2 dX0_needFor_21 (by decide) ?_
    refine g_icmp_ge hX 31 dX0_needFor_22 (by decide) (fun c22 => ?_) (fun c22 => ?_)
    · refine g_iload_3 hX dX0_needFor_31 ?_
      refine g_iload_4 hX dX0_needFor_32 ?_
      refine g_iadd hX dX0_needFor_34 ?_
      refine g_iconst hX 1 dX0_needFor_35 (by decide) ?_
      refine g_isub hX dX0_needFor_36 ?_
      refine g_iload_4 hX dX0_needFor_37 ?_
      refine g_idiv hX dX0_needFor_39 (by intro e; rw [e] at c22; exact c22 (by decide)) ?_
      exact hq _ _ _ _ dX0_needFor_40 (by rfl) (by first | rw [needS, if_neg c8, if_pos c22] | rw [needS, if_neg c8, if_neg c22])
    · refine g_sipush hX 1000 dX0_needFor_25 (by decide) ?_
      refine g_goto hX 40 dX0_needFor_28 (by decide) ?_
      exact hq _ _ _ _ dX0_needFor_40 (by rfl) (by first | rw [needS, if_neg c8, if_pos c22] | rw [needS, if_neg c8, if_neg c22])
  · refine g_iconst hX 0 dX0_needFor_11 (by decide) ?_
    exact hq _ _ _ _ dX0_needFor_12 (by rfl) (by rw [needS, if_pos c8])
set_option maxRecDepth 100000 in
set_option maxHeartbeats 4000000 in
theorem c_X0_allNeeds {Z : Zt} {b : Mem} {o : Nat} (h_o : isBus Z o) {t : Int32} (hV : Val (cv b o))  : Con Z yX0_allNeeds cX0_allNeeds 4 (some .int) 3 [.ref (zad Z o), .int t] b (some (.int (sumI (fun l => needS (cv b o) (baseS (cv b o) l) t) (nl (cv b o))))) (b) := by
  have hn : b o 6 = nI (nl (cv b o)) := hV.1.1
  have hn6 := hV.1.2
  refine con_i (by decide) (Nat.le_of_ble_eq_true rfl) rfl (fun X hX hq => ?_)
  have hX : Ok Z X cX0_allNeeds 4 RX0 3 := hX
  show G Z X b 0 [some (.ref (zad Z o)), some (.int t), none, none] []
  refine g_iconst hX 0 dX0_allNeeds_0 (by decide) ?_
  refine g_istore_2 hX dX0_allNeeds_1 rfl ?_
  refine g_iconst hX 0 dX0_allNeeds_2 (by decide) ?_
  refine g_istore_3 hX dX0_allNeeds_3 rfl ?_
  refine g_loop (nl (cv b o)) (fun k => b) (fun k => [some (.ref (zad Z o)), some (.int t), some (.int (sumI (fun l => needS (cv b o) (baseS (cv b o) l) t) k)), some (.int (nI k))]) rfl rfl (fun k hk4 ih4 => ?_) ?_
  · show G Z X (b) 4 ([some (.ref (zad Z o)), some (.int t), some (.int (sumI (fun l => needS (cv b o) (baseS (cv b o) l) t) k)), some (.int (nI k))]) _
    refine g_iload_3 hX dX0_allNeeds_4 ?_
    refine g_aload_0 hX dX0_allNeeds_5 ?_
    refine gt_X0_lines hX h_o dX0_allNeeds_6 ?_
    refine g_icmp_ge hX 31 dX0_allNeeds_9 (by decide) (fun c9 => ?_) (fun c9 => ?_)
    · exact absurd c9 (not_not_intro (by rw [hn]; exact nI_lt hk4 (by omega)))
    · refine g_iload_2 hX dX0_allNeeds_12 ?_
      refine g_aload_0 hX dX0_allNeeds_13 ?_
      refine g_aload_0 hX dX0_allNeeds_14 ?_
      refine g_iload_3 hX dX0_allNeeds_15 ?_
      refine g_cV1r hX mkX0_baseOf ml_X0_92 (c_X0_baseOf h_o hV hk4) (h_o.obj _) dX0_allNeeds_16 rfl (by decide) (Nat.le_of_ble_eq_true rfl) ?_
      refine g_iload_1 hX dX0_allNeeds_19 ?_
      refine g_cV2r hX mkX0_needFor ml_X0_102 (c_X0_needFor h_o) (h_o.obj _) dX0_allNeeds_20 rfl (by decide) (Nat.le_of_ble_eq_true rfl) ?_
      refine g_iadd hX dX0_allNeeds_23 ?_
      refine g_istore_2 hX dX0_allNeeds_24 rfl ?_
      refine g_iinc_3 hX 1 dX0_allNeeds_25 (by decide) rfl ?_
      refine g_goto hX 4 dX0_allNeeds_28 (by decide) ?_
      exact g_cast ih4 rfl (by simp only [nI_succ, sumI]) rfl
  · show G Z X (b) 4 ([some (.ref (zad Z o)), some (.int t), some (.int (sumI (fun l => needS (cv b o) (baseS (cv b o) l) t) (nl (cv b o)))), some (.int (nI (nl (cv b o))))]) _
    refine g_iload_3 hX dX0_allNeeds_4 ?_
    refine g_aload_0 hX dX0_allNeeds_5 ?_
    refine gt_X0_lines hX h_o dX0_allNeeds_6 ?_
    refine g_icmp_ge hX 31 dX0_allNeeds_9 (by decide) (fun c9 => ?_) (fun c9 => ?_)
    · refine g_iload_2 hX dX0_allNeeds_31 ?_
      exact hq _ _ _ _ dX0_allNeeds_32 (by rfl) (by rfl)
    · exact absurd c9 (by rw [hn]; exact Int32.lt_irrefl)
set_option maxRecDepth 100000 in
set_option maxHeartbeats 4000000 in
theorem c_X0_presentAt {Z : Zt} {b : Mem} {o : Nat} (h_o : isBus Z o) {k : Nat} (hk : k < 6) : Con Z yX0_presentAt cX0_presentAt 2 (some .int) 1 [.ref (zad Z o), .int (nI k)] b (some (.int (cv b o 4 k 0 &&& ((1 <<< (cv b o 6 0 0 &&& 31)) - 1)))) (b) := by
  refine con_i (by decide) (Nat.le_of_ble_eq_true rfl) rfl (fun X hX hq => ?_)
  have hX : Ok Z X cX0_presentAt 2 RX0 1 := hX
  show G Z X b 0 [some (.ref (zad Z o)), some (.int (nI k))] []
  refine g_aload_0 hX dX0_presentAt_0 ?_
  refine gt_X0_touching hX h_o dX0_presentAt_1 ?_
  refine g_iload_1 hX dX0_presentAt_4 ?_
  refine g_cN2r hX mkX5_at nl_X0_70 (c_X5_at h_o.2.2.2.2.2.2.1 hk (by decide)) dX0_presentAt_5 rfl (by decide) (Nat.le_of_ble_eq_true rfl) ?_
  refine g_iconst hX 1 dX0_presentAt_8 (by decide) ?_
  refine g_aload_0 hX dX0_presentAt_9 ?_
  refine gt_X0_lines hX h_o dX0_presentAt_10 ?_
  refine g_ishl hX dX0_presentAt_13 ?_
  refine g_iconst hX 1 dX0_presentAt_14 (by decide) ?_
  refine g_isub hX dX0_presentAt_15 ?_
  refine g_iand hX dX0_presentAt_16 ?_
  exact hq _ _ _ _ dX0_presentAt_17 (by rfl) (by rfl)
theorem bits_lt (f : Nat → Bool) (n : Nat) : bitsN f n < 2 ^ n := by
  induction n with
  | zero => simp [bitsN]
  | succ n ih =>
    simp only [bitsN]
    split <;> (rw [Nat.pow_succ]; omega)
theorem one_shl {n : Nat} (hn : n < 31) : (1 : Int32) <<< (nI n &&& 31) = nI (2 ^ n) := by
  exact (by decide +kernel : ∀ n, n < 31 → (1 : Int32) <<< (nI n &&& 31) = nI (2 ^ n)) n hn
theorem bt_nI {a i : Nat} (hi : i < 32) : bt (nI a) i = a.testBit i := by
  show (BitVec.ofNat 32 a).getLsbD i = _
  rw [BitVec.getLsbD_ofNat]
  simp [hi]
theorem or_bit {a n : Nat} (ha : a < 2 ^ n) (hn : n < 31) : nI a ||| nI (2 ^ n) = nI (a + 2 ^ n) := by
  apply b_ext
  intro i hi
  rw [b_or, bt_nI hi, bt_nI hi, bt_nI hi, Nat.testBit_two_pow, Nat.add_comm a]
  by_cases e : n = i
  · subst e
    rw [Nat.testBit_two_pow_add_eq, Nat.testBit_lt_two_pow ha]
    simp
  · rcases Nat.lt_or_ge i n with q | q
    · rw [Nat.testBit_two_pow_add_gt q]
      simp [e]
    · have hlt : n < i := by omega
      rw [Nat.testBit_lt_two_pow (Nat.lt_of_lt_of_le ha (Nat.pow_le_pow_right (by omega) q)), Nat.testBit_lt_two_pow (by
        have : 2 ^ (n + 1) ≤ 2 ^ i := Nat.pow_le_pow_right (by omega) hlt
        rw [Nat.pow_succ] at this
        omega)]
      simp [e]
set_option maxRecDepth 100000 in
set_option maxHeartbeats 4000000 in
theorem c_X0_reachOf {Z : Zt} {b : Mem} {o : Nat} (h_o : isBus Z o) {l : Nat} (hV : Val (cv b o)) (hl : l < 6) : Con Z yX0_reachOf cX0_reachOf 4 (some .int) 1 [.ref (zad Z o), .int (nI l)] b (some (.int (nI (reachN (cv b o) l)))) (b) := by
  have hn : b o 7 = nI (np (cv b o)) := hV.2.1.1
  have hn6 := hV.2.1.2
  refine con_i (by decide) (Nat.le_of_ble_eq_true rfl) rfl (fun X hX hq => ?_)
  have hX : Ok Z X cX0_reachOf 4 RX0 1 := hX
  show G Z X b 0 [some (.ref (zad Z o)), some (.int (nI l)), none, none] []
  refine g_iconst hX 0 dX0_reachOf_0 (by decide) ?_
  refine g_istore_2 hX dX0_reachOf_1 rfl ?_
  refine g_iconst hX 0 dX0_reachOf_2 (by decide) ?_
  refine g_istore_3 hX dX0_reachOf_3 rfl ?_
  refine g_loop (np (cv b o)) (fun k => b) (fun k => [some (.ref (zad Z o)), some (.int (nI l)), some (.int (nI (bitsN (fun p => tbI (cv b o 4 p 0) l) k))), some (.int (nI k))]) rfl rfl (fun k hk4 ih4 => ?_) ?_
  · show G Z X (b) 4 ([some (.ref (zad Z o)), some (.int (nI l)), some (.int (nI (bitsN (fun p => tbI (cv b o 4 p 0) l) k))), some (.int (nI k))]) _
    refine g_iload_3 hX dX0_reachOf_4 ?_
    refine g_aload_0 hX dX0_reachOf_5 ?_
    refine gt_X0_pockets hX h_o dX0_reachOf_6 ?_
    refine g_icmp_ge hX 39 dX0_reachOf_9 (by decide) (fun c9 => ?_) (fun c9 => ?_)
    · exact absurd c9 (not_not_intro (by rw [hn]; exact nI_lt hk4 (by omega)))
    · refine g_aload_0 hX dX0_reachOf_12 ?_
      refine gt_X0_touching hX h_o dX0_reachOf_13 ?_
      refine g_iload_3 hX dX0_reachOf_16 ?_
      refine g_cN2r hX mkX5_at nl_X0_70 (c_X5_at h_o.2.2.2.2.2.2.1 (by omega) (by decide)) dX0_reachOf_17 rfl (by decide) (Nat.le_of_ble_eq_true rfl) ?_
      refine g_iload_1 hX dX0_reachOf_20 ?_
      refine g_cN2r hX mkX5_hasBit nl_X0_105 (c_X5_hasBit (by omega)) dX0_reachOf_21 rfl (by decide) (Nat.le_of_ble_eq_true rfl) ?_
      refine g_if_eq hX 33 dX0_reachOf_24 (by decide) (fun c24 => ?_) (fun c24 => ?_)
      · replace c24 := bI_z.mp c24
        refine g_iinc_3 hX 1 dX0_reachOf_33 (by decide) rfl ?_
        refine g_goto hX 4 dX0_reachOf_36 (by decide) ?_
        exact g_cast ih4 rfl (by first | (simp only [nI_succ, bitsN, if_pos (show tbI (cv b o 4 k 0) l = true from c24)]; rw [one_shl (by omega), or_bit (bits_lt _ _) (by omega)]) | (simp only [nI_succ, bitsN, if_neg (show ¬ tbI (cv b o 4 k 0) l = true from c24), Nat.add_zero])) rfl
      · replace c24 := bI_nz.mp c24
        refine g_iload_2 hX dX0_reachOf_27 ?_
        refine g_iconst hX 1 dX0_reachOf_28 (by decide) ?_
        refine g_iload_3 hX dX0_reachOf_29 ?_
        refine g_ishl hX dX0_reachOf_30 ?_
        refine g_ior hX dX0_reachOf_31 ?_
        refine g_istore_2 hX dX0_reachOf_32 rfl ?_
        refine g_iinc_3 hX 1 dX0_reachOf_33 (by decide) rfl ?_
        refine g_goto hX 4 dX0_reachOf_36 (by decide) ?_
        exact g_cast ih4 rfl (by first | (simp only [nI_succ, bitsN, if_pos (show tbI (cv b o 4 k 0) l = true from c24)]; rw [one_shl (by omega), or_bit (bits_lt _ _) (by omega)]) | (simp only [nI_succ, bitsN, if_neg (show ¬ tbI (cv b o 4 k 0) l = true from c24), Nat.add_zero])) rfl
  · show G Z X (b) 4 ([some (.ref (zad Z o)), some (.int (nI l)), some (.int (nI (bitsN (fun p => tbI (cv b o 4 p 0) l) (np (cv b o))))), some (.int (nI (np (cv b o))))]) _
    refine g_iload_3 hX dX0_reachOf_4 ?_
    refine g_aload_0 hX dX0_reachOf_5 ?_
    refine gt_X0_pockets hX h_o dX0_reachOf_6 ?_
    refine g_icmp_ge hX 39 dX0_reachOf_9 (by decide) (fun c9 => ?_) (fun c9 => ?_)
    · refine g_iload_2 hX dX0_reachOf_39 ?_
      exact hq _ _ _ _ dX0_reachOf_40 (by rfl) (by rfl)
    · exact absurd c9 (by rw [hn]; exact Int32.lt_irrefl)
set_option maxRecDepth 100000 in
set_option maxHeartbeats 4000000 in
theorem c_X0_humpsOf {Z : Zt} {b : Mem} {o : Nat} (h_o : isBus Z o) {k : Nat} (hk : k < 6) (hs : ¬ b (o + 6) 1 < 1) (hs2 : ¬ 4 < b (o + 6) 1) : Con Z yX0_humpsOf cX0_humpsOf 3 (some .int) 2 [.ref (zad Z o), .int (nI k)] b (some (.int (humpsS (cv b o) k))) (b) := by
  refine con_i (by decide) (Nat.le_of_ble_eq_true rfl) rfl (fun X hX hq => ?_)
  have hX : Ok Z X cX0_humpsOf 3 RX0 2 := hX
  show G Z X b 0 [some (.ref (zad Z o)), some (.int (nI k)), none] []
  refine g_aload_0 hX dX0_humpsOf_0 ?_
  refine gt_X0_chosen hX h_o dX0_humpsOf_1 ?_
  refine g_iconst hX 1 dX0_humpsOf_4 (by decide) ?_
  refine g_cN2r hX mkX5_at nl_X0_70 (c_X5_at (k := 1) h_o.2.2.2.2.2.2.2 (by decide) (by decide)) dX0_humpsOf_5 rfl (by decide) (Nat.le_of_ble_eq_true rfl) ?_
  refine g_istore_2 hX dX0_humpsOf_8 rfl ?_
  refine g_iload_2 hX dX0_humpsOf_9 ?_
  refine g_iconst hX 1 dX0_humpsOf_10 (by decide) ?_
  refine g_icmp_lt hX 22 dX0_humpsOf_11 (by decide) (fun c11 => ?_) (fun c11 => ?_)
  · exact absurd c11 (hs)
  · refine g_aload_0 hX dX0_humpsOf_14 ?_
    refine g_cV0r hX mkX0_gain ml_X0_98 (c_X0_gain h_o) (h_o.obj _) dX0_humpsOf_15 rfl (by decide) (Nat.le_of_ble_eq_true rfl) ?_
    refine g_iconst hX 2 dX0_humpsOf_18 (by decide) ?_
    refine g_icmp_ge hX 26 dX0_humpsOf_19 (by decide) (fun c19 => ?_) (fun c19 => ?_)
    · refine g_aload_0 hX dX0_humpsOf_26 ?_
      refine g_iload_1 hX dX0_humpsOf_27 ?_
      refine g_cV1r hX mkX0_wideOf ml_X0_67 (c_X0_wideOf h_o hk) (h_o.obj _) dX0_humpsOf_28 rfl (by decide) (Nat.le_of_ble_eq_true rfl) ?_
      refine g_iload_2 hX dX0_humpsOf_31 ?_
      refine g_iadd hX dX0_humpsOf_32 ?_
      refine g_iconst hX 2 dX0_humpsOf_33 (by decide) ?_
      refine g_iload_2 hX dX0_humpsOf_34 ?_
      refine g_imul hX dX0_humpsOf_35 ?_
      refine g_idiv hX dX0_humpsOf_36 (two_mul_ne hs hs2) ?_
      exact hq _ _ _ _ dX0_humpsOf_37 (by rfl) (by first | rw [humpsS, if_pos c19] | (rw [humpsS, if_neg c19]; rfl))
    · refine g_iconst hX 0 dX0_humpsOf_22 (by decide) ?_
      refine g_goto hX 37 dX0_humpsOf_23 (by decide) ?_
      exact hq _ _ _ _ dX0_humpsOf_37 (by rfl) (by first | rw [humpsS, if_pos c19] | (rw [humpsS, if_neg c19]; rfl))
set_option maxRecDepth 100000 in
set_option maxHeartbeats 4000000 in
theorem c_X0_allHumps {Z : Zt} {b : Mem} {o : Nat} (h_o : isBus Z o) (hV : Val (cv b o))  : Con Z yX0_allHumps cX0_allHumps 3 (some .int) 3 [.ref (zad Z o)] b (some (.int (sumI (humpsS (cv b o)) (np (cv b o))))) (b) := by
  have hn : b o 7 = nI (np (cv b o)) := hV.2.1.1
  have hn6 := hV.2.1.2
  have hs := hV.2.2.2.2 1 (by decide)
  refine con_i (by decide) (Nat.le_of_ble_eq_true rfl) rfl (fun X hX hq => ?_)
  have hX : Ok Z X cX0_allHumps 3 RX0 3 := hX
  show G Z X b 0 [some (.ref (zad Z o)), none, none] []
  refine g_iconst hX 0 dX0_allHumps_0 (by decide) ?_
  refine g_istore_1 hX dX0_allHumps_1 rfl ?_
  refine g_iconst hX 0 dX0_allHumps_2 (by decide) ?_
  refine g_istore_2 hX dX0_allHumps_3 rfl ?_
  refine g_loop (np (cv b o)) (fun k => b) (fun k => [some (.ref (zad Z o)), some (.int (sumI (humpsS (cv b o)) k)), some (.int (nI k))]) rfl rfl (fun k hk4 ih4 => ?_) ?_
  · show G Z X (b) 4 ([some (.ref (zad Z o)), some (.int (sumI (humpsS (cv b o)) k)), some (.int (nI k))]) _
    refine g_iload_2 hX dX0_allHumps_4 ?_
    refine g_aload_0 hX dX0_allHumps_5 ?_
    refine gt_X0_pockets hX h_o dX0_allHumps_6 ?_
    refine g_icmp_ge hX 26 dX0_allHumps_9 (by decide) (fun c9 => ?_) (fun c9 => ?_)
    · exact absurd c9 (not_not_intro (by rw [hn]; exact nI_lt hk4 (by omega)))
    · refine g_iload_1 hX dX0_allHumps_12 ?_
      refine g_aload_0 hX dX0_allHumps_13 ?_
      refine g_iload_2 hX dX0_allHumps_14 ?_
      refine g_cV1r hX mkX0_humpsOf ml_X0_109 (c_X0_humpsOf h_o (by omega) hs.1 hs.2) (h_o.obj _) dX0_allHumps_15 rfl (by decide) (Nat.le_of_ble_eq_true rfl) ?_
      refine g_iadd hX dX0_allHumps_18 ?_
      refine g_istore_1 hX dX0_allHumps_19 rfl ?_
      refine g_iinc_2 hX 1 dX0_allHumps_20 (by decide) rfl ?_
      refine g_goto hX 4 dX0_allHumps_23 (by decide) ?_
      exact g_cast ih4 rfl (by simp only [nI_succ, sumI]) rfl
  · show G Z X (b) 4 ([some (.ref (zad Z o)), some (.int (sumI (humpsS (cv b o)) (np (cv b o)))), some (.int (nI (np (cv b o))))]) _
    refine g_iload_2 hX dX0_allHumps_4 ?_
    refine g_aload_0 hX dX0_allHumps_5 ?_
    refine gt_X0_pockets hX h_o dX0_allHumps_6 ?_
    refine g_icmp_ge hX 26 dX0_allHumps_9 (by decide) (fun c9 => ?_) (fun c9 => ?_)
    · refine g_iload_1 hX dX0_allHumps_26 ?_
      exact hq _ _ _ _ dX0_allHumps_27 (by rfl) (by rfl)
    · exact absurd c9 (by rw [hn]; exact Int32.lt_irrefl)
end
section
/-! SnakedBus$Bus: the changes -/
theorem u2s (b : Mem) (i k : Nat) (x : Int32) : up2 b i k x i k = x := by simp [up2, up1, upd]
theorem u2k (b : Mem) {i k m : Nat} (x : Int32) (h : m ≠ k) : up2 b i k x i m = b i m := by simp [up2, up1, upd, h]
theorem u2c (b : Mem) {i k j : Nat} (x : Int32) (h : j ≠ i) : up2 b i k x j = b j := by simp [up2, up1, h]
theorem u1s (b : Mem) (i : Nat) (f : Nat → Int32) : up1 b i f i = f := by simp [up1]
theorem u1c (b : Mem) {i j : Nat} (f : Nat → Int32) (h : j ≠ i) : up1 b i f j = b j := by simp [up1, h]
theorem cv0 (b : Mem) (o l i : Nat) : cv b o 0 l i = b (o + 1) l := rfl
theorem cv1 (b : Mem) (o l i : Nat) : cv b o 1 l i = b (o + 2) (l * 8 + i) := rfl
theorem cv2 (b : Mem) (o l i : Nat) : cv b o 2 l i = b (o + 3) (l * 8 + i) := rfl
theorem cv3 (b : Mem) (o l i : Nat) : cv b o 3 l i = b (o + 4) l := rfl
theorem cv4 (b : Mem) (o l i : Nat) : cv b o 4 l i = b (o + 5) l := rfl
theorem cv5 (b : Mem) (o l i : Nat) : cv b o 5 l i = b (o + 6) l := rfl
theorem cv6 (b : Mem) (o l i : Nat) : cv b o 6 l i = b o 6 := rfl
theorem cv7 (b : Mem) (o l i : Nat) : cv b o 7 l i = b o 7 := rfl
def addLineR (n a : Int32) : Int32 := if ¬ a < 1 ∧ ¬ 60 < a then (if n < 6 then n else -4) else -2
def addLineM (b : Mem) (o : Nat) (a : Int32) : Mem := if ¬ a < 1 ∧ ¬ 60 < a then (if b o 6 < 6 then up2 (up2 (up2 (up2 b (o + 1) (nl (cv b o)) 1) (o + 2) (nl (cv b o) * 8 + 0) a) (o + 3) (nl (cv b o) * 8 + 0) (-1)) o 6 (b o 6 + 1) else b) else b
def addRunR (n r l t a : Int32) : Int32 := if (¬ l < 0 ∧ l < n) ∧ (¬ t < 0 ∧ ¬ 1 < t) ∧ ¬ a < 1 ∧ ¬ 60 < a then (if r < 8 then r + 1 else -4) else -2
def addRunM (b : Mem) (o : Nat) (l t a : Int32) : Mem := if (¬ l < 0 ∧ l < b o 6) ∧ (¬ t < 0 ∧ ¬ 1 < t) ∧ ¬ a < 1 ∧ ¬ 60 < a then (if b (o + 1) l.toNatClampNeg < 8 then up2 (up2 (up2 b (o + 2) (l.toNatClampNeg * 8 + rn (cv b o) l.toNatClampNeg) a) (o + 3) (l.toNatClampNeg * 8 + rn (cv b o) l.toNatClampNeg) t) (o + 1) l.toNatClampNeg (b (o + 1) l.toNatClampNeg + 1) else b) else b
def dropRunR (n r l : Int32) : Int32 := if ¬ l < 0 ∧ l < n then (if r - 1 < 1 then -3 else r - 1) else -2
def dropRunM (b : Mem) (o : Nat) (l : Int32) : Mem := if ¬ l < 0 ∧ l < b o 6 then (if b (o + 1) l.toNatClampNeg - 1 < 1 then b else up2 b (o + 1) l.toNatClampNeg (b (o + 1) l.toNatClampNeg - 1)) else b
def addPocketR (n w t : Int32) : Int32 := if (¬ w < 1 ∧ ¬ 60 < w) ∧ ¬ t < 0 ∧ ¬ 63 < t then (if n < 6 then n else -4) else -2
def addPocketM (b : Mem) (o : Nat) (w t : Int32) : Mem := if (¬ w < 1 ∧ ¬ 60 < w) ∧ ¬ t < 0 ∧ ¬ 63 < t then (if b o 7 < 6 then up2 (up2 (up2 b (o + 4) (np (cv b o)) w) (o + 5) (np (cv b o)) t) o 7 (b o 7 + 1) else b) else b
def wideR (n x p w : Int32) : Int32 := if (¬ p < 0 ∧ p < n) ∧ ¬ w < 1 ∧ ¬ 60 < w then x else -2
def wideM (b : Mem) (o : Nat) (p w : Int32) : Mem := if (¬ p < 0 ∧ p < b o 7) ∧ ¬ w < 1 ∧ ¬ 60 < w then up2 b (o + 4) p.toNatClampNeg w else b
def touchR (n x p w : Int32) : Int32 := if (¬ p < 0 ∧ p < n) ∧ ¬ w < 0 ∧ ¬ 63 < w then x else -2
def touchM (b : Mem) (o : Nat) (p w : Int32) : Mem := if (¬ p < 0 ∧ p < b o 7) ∧ ¬ w < 0 ∧ ¬ 63 < w then up2 b (o + 5) p.toNatClampNeg w else b
def setR (y k x : Int32) : Int32 := if (¬ k < 0 ∧ ¬ 6 < k) ∧ ¬ x < lowF k.toNatClampNeg ∧ ¬ higF k.toNatClampNeg < x then y else -2
def setM (b : Mem) (o : Nat) (k x : Int32) : Mem := if (¬ k < 0 ∧ ¬ 6 < k) ∧ ¬ x < lowF k.toNatClampNeg ∧ ¬ higF k.toNatClampNeg < x then up2 b (o + 6) k.toNatClampNeg x else b
set_option maxRecDepth 100000 in
set_option maxHeartbeats 4000000 in
theorem c_X0_addLine {Z : Zt} {b : Mem} {o : Nat} (h_o : isBus Z o) {a : Int32} (hV : Val (cv b o))  : Con Z yX0_addLine cX0_addLine 2 (some .int) 1 [.ref (zad Z o), .int a] b (some (.int (addLineR (b o 6) a))) (addLineM b o a) := by
  have hn : b o 6 = nI (nl (cv b o)) := hV.1.1
  have hn6 := hV.1.2
  refine con_i (by decide) (Nat.le_of_ble_eq_true rfl) rfl (fun X hX hq => ?_)
  have hX : Ok Z X cX0_addLine 2 RX0 1 := hX
  show G Z X b 0 [some (.ref (zad Z o)), some (.int a)] []
  refine g_iload_1 hX dX0_addLine_0 ?_
  refine g_iconst hX 1 dX0_addLine_1 (by decide) ?_
  refine g_bipush hX 60 dX0_addLine_2 (by decide) ?_
  refine g_cN3r hX mkX5_within nl_X0_44 (c_X5_within) dX0_addLine_4 rfl (by decide) (Nat.le_of_ble_eq_true rfl) ?_
  refine g_if_ne hX 13 dX0_addLine_7 (by decide) (fun c7 => ?_) (fun c7 => ?_)
  · replace c7 := bI_nz.mp c7
    refine g_aload_0 hX dX0_addLine_13 ?_
    refine gt_X0_lines hX h_o dX0_addLine_14 ?_
    refine g_bipush hX 6 dX0_addLine_17 (by decide) ?_
    refine g_icmp_lt hX 25 dX0_addLine_19 (by decide) (fun c19 => ?_) (fun c19 => ?_)
    · have hl6 : nl (cv b o) < 6 := (nI_ltI (by omega) (by decide)).mp (by rw [← hn]; exact c19)
      refine g_aload_0 hX dX0_addLine_25 ?_
      refine gt_X0_runs hX h_o dX0_addLine_26 ?_
      refine g_aload_0 hX dX0_addLine_29 ?_
      refine gt_X0_lines hX h_o dX0_addLine_30 ?_
      refine g_top _ hn ?_
      refine g_iconst hX 1 dX0_addLine_33 (by decide) ?_
      refine g_cN3v hX mkX5_put nl_X0_48 (c_X5_put h_o.2.2.1 hl6 (by decide)) dX0_addLine_34 rfl (by decide) (Nat.le_of_ble_eq_true rfl) ?_
      refine g_aload_0 hX dX0_addLine_37 ?_
      refine gt_X0_longs hX h_o dX0_addLine_38 ?_
      refine g_aload_0 hX dX0_addLine_41 ?_
      refine gt_X0_lines hX h_o dX0_addLine_42 ?_
      refine g_top (nI (nl (cv b o))) (by simp [up2, up1, hn]) ?_
      refine g_iconst hX 0 dX0_addLine_45 (by decide) ?_
      refine g_bipush hX 8 dX0_addLine_46 (by decide) ?_
      refine g_cN3r hX mkX5_cell nl_X0_52 (c_X5_cell (k := 0) (w := 8) (by decide) (by decide)) dX0_addLine_48 rfl (by decide) (Nat.le_of_ble_eq_true rfl) ?_
      refine g_iload_1 hX dX0_addLine_51 ?_
      refine g_cN3v hX mkX5_put nl_X0_48 (c_X5_put h_o.2.2.2.1 (by omega) (by decide)) dX0_addLine_52 rfl (by decide) (Nat.le_of_ble_eq_true rfl) ?_
      refine g_aload_0 hX dX0_addLine_55 ?_
      refine gt_X0_turns hX h_o dX0_addLine_56 ?_
      refine g_aload_0 hX dX0_addLine_59 ?_
      refine gt_X0_lines hX h_o dX0_addLine_60 ?_
      refine g_top (nI (nl (cv b o))) (by simp [up2, up1, hn]) ?_
      refine g_iconst hX 0 dX0_addLine_63 (by decide) ?_
      refine g_bipush hX 8 dX0_addLine_64 (by decide) ?_
      refine g_cN3r hX mkX5_cell nl_X0_52 (c_X5_cell (k := 0) (w := 8) (by decide) (by decide)) dX0_addLine_66 rfl (by decide) (Nat.le_of_ble_eq_true rfl) ?_
      refine g_iconst hX (-1) dX0_addLine_69 (by decide) ?_
      refine g_cN3v hX mkX5_put nl_X0_48 (c_X5_put h_o.2.2.2.2.1 (by omega) (by decide)) dX0_addLine_70 rfl (by decide) (Nat.le_of_ble_eq_true rfl) ?_
      refine g_aload_0 hX dX0_addLine_73 ?_
      refine g_dup hX dX0_addLine_74 rfl ?_
      refine gt_X0_lines hX h_o dX0_addLine_75 ?_
      refine g_top (b o 6) (by simp [up2, up1, hn]) ?_
      refine g_iconst hX 1 dX0_addLine_78 (by decide) ?_
      refine g_iadd hX dX0_addLine_79 ?_
      refine pt_X0_lines hX h_o dX0_addLine_80 ?_
      refine g_aload_0 hX dX0_addLine_83 ?_
      refine gt_X0_lines hX h_o dX0_addLine_84 ?_
      refine g_top (b o 6 + 1) (u2s _ _ _ _) ?_
      refine g_iconst hX 1 dX0_addLine_87 (by decide) ?_
      refine g_isub hX dX0_addLine_88 ?_
      exact hq _ _ _ _ dX0_addLine_89 (by rw [addLineM, if_pos c7, if_pos c19]) (by rw [addLineR, if_pos c7, if_pos c19, Int32.add_sub_cancel])
    · refine g_bipush hX (-4) dX0_addLine_22 (by decide) ?_
      exact hq _ _ _ _ dX0_addLine_24 (by rw [addLineM, if_pos c7, if_neg c19]) (by rw [addLineR, if_pos c7, if_neg c19])
  · replace c7 := bI_z.mp c7
    refine g_bipush hX (-2) dX0_addLine_10 (by decide) ?_
    exact hq _ _ _ _ dX0_addLine_12 (by rw [addLineM, if_neg c7]) (by rw [addLineR, if_neg c7])
set_option maxRecDepth 100000 in
set_option maxHeartbeats 4000000 in
theorem c_X0_addRun {Z : Zt} {b : Mem} {o : Nat} (h_o : isBus Z o) {l t a : Int32} (hV : Val (cv b o))  : Con Z yX0_addRun cX0_addRun 5 (some .int) 2 [.ref (zad Z o), .int l, .int t, .int a] b (some (.int (addRunR (b o 6) (b (o + 1) l.toNatClampNeg) l t a))) (addRunM b o l t a) := by
  have hn : b o 6 = nI (nl (cv b o)) := hV.1.1
  have hn6 := hV.1.2
  refine con_i (by decide) (Nat.le_of_ble_eq_true rfl) rfl (fun X hX hq => ?_)
  have hX : Ok Z X cX0_addRun 5 RX0 2 := hX
  show G Z X b 0 [some (.ref (zad Z o)), some (.int l), some (.int t), some (.int a), none] []
  refine g_aload_0 hX dX0_addRun_0 ?_
  refine g_iload_1 hX dX0_addRun_1 ?_
  refine g_cV1r hX mkX0_hasLine ml_X0_56 (c_X0_hasLine h_o) (h_o.obj _) dX0_addRun_2 rfl (by decide) (Nat.le_of_ble_eq_true rfl) ?_
  refine g_if_eq hX 27 dX0_addRun_5 (by decide) (fun c5 => ?_) (fun c5 => ?_)
  · replace c5 := bI_z.mp c5
    refine g_bipush hX (-2) dX0_addRun_27 (by decide) ?_
    exact hq _ _ _ _ dX0_addRun_29 (by first | (rw [addRunM, if_neg]; intro hh; exact c5 hh.1) | (rw [addRunM, if_neg]; intro hh; exact c14 hh.2.1) | (rw [addRunM, if_neg]; intro hh; exact c24 hh.2.2)) (by first | (rw [addRunR, if_neg]; intro hh; exact c5 hh.1) | (rw [addRunR, if_neg]; intro hh; exact c14 hh.2.1) | (rw [addRunR, if_neg]; intro hh; exact c24 hh.2.2))
  · replace c5 := bI_nz.mp c5
    obtain ⟨j, hj, rfl⟩ := in_of c5.1 (by have := c5.2; rw [hn] at this; exact this) (by omega)
    have hjc : (nI j).toNatClampNeg = j := nI_clamp (by omega)
    have hj6 := hV.l6 hj
    have hr : b (o + 1) j = nI (rn (cv b o) j) := hV.runs hj
    have hr8 := hV.r8 hj
    have hr1 := hV.r1 hj
    refine g_iload_2 hX dX0_addRun_8 ?_
    refine g_iconst hX 0 dX0_addRun_9 (by decide) ?_
    refine g_iconst hX 1 dX0_addRun_10 (by decide) ?_
    refine g_cN3r hX mkX5_within nl_X0_44 (c_X5_within) dX0_addRun_11 rfl (by decide) (Nat.le_of_ble_eq_true rfl) ?_
    refine g_if_eq hX 27 dX0_addRun_14 (by decide) (fun c14 => ?_) (fun c14 => ?_)
    · replace c14 := bI_z.mp c14
      refine g_bipush hX (-2) dX0_addRun_27 (by decide) ?_
      exact hq _ _ _ _ dX0_addRun_29 (by first | (rw [addRunM, if_neg]; intro hh; exact c5 hh.1) | (rw [addRunM, if_neg]; intro hh; exact c14 hh.2.1) | (rw [addRunM, if_neg]; intro hh; exact c24 hh.2.2)) (by first | (rw [addRunR, if_neg]; intro hh; exact c5 hh.1) | (rw [addRunR, if_neg]; intro hh; exact c14 hh.2.1) | (rw [addRunR, if_neg]; intro hh; exact c24 hh.2.2))
    · replace c14 := bI_nz.mp c14
      refine g_iload_3 hX dX0_addRun_17 ?_
      refine g_iconst hX 1 dX0_addRun_18 (by decide) ?_
      refine g_bipush hX 60 dX0_addRun_19 (by decide) ?_
      refine g_cN3r hX mkX5_within nl_X0_44 (c_X5_within) dX0_addRun_21 rfl (by decide) (Nat.le_of_ble_eq_true rfl) ?_
      refine g_if_ne hX 30 dX0_addRun_24 (by decide) (fun c24 => ?_) (fun c24 => ?_)
      · replace c24 := bI_nz.mp c24
        refine g_aload_0 hX dX0_addRun_30 ?_
        refine g_iload_1 hX dX0_addRun_31 ?_
        refine g_cV1r hX mkX0_runsOf ml_X0_60 (c_X0_runsOf h_o hj6) (h_o.obj _) dX0_addRun_32 rfl (by decide) (Nat.le_of_ble_eq_true rfl) ?_
        refine g_istore_4 hX dX0_addRun_35 rfl ?_
        refine g_iload_4 hX dX0_addRun_37 ?_
        refine g_bipush hX 8 dX0_addRun_39 (by decide) ?_
        refine g_icmp_lt hX 47 dX0_addRun_41 (by decide) (fun c41 => ?_) (fun c41 => ?_)
        · have h8 : rn (cv b o) j < 8 := (nI_ltI (by omega) (by decide)).mp (by rw [← hr]; exact c41)
          refine g_aload_0 hX dX0_addRun_47 ?_
          refine gt_X0_longs hX h_o dX0_addRun_48 ?_
          refine g_iload_1 hX dX0_addRun_51 ?_
          refine g_iload_4 hX dX0_addRun_52 ?_
          refine g_top _ hr ?_
          refine g_bipush hX 8 dX0_addRun_54 (by decide) ?_
          refine g_cN3r hX mkX5_cell nl_X0_52 (c_X5_cell (w := 8) h8 (by decide)) dX0_addRun_56 rfl (by decide) (Nat.le_of_ble_eq_true rfl) ?_
          refine g_iload_3 hX dX0_addRun_59 ?_
          refine g_cN3v hX mkX5_put nl_X0_48 (c_X5_put h_o.2.2.2.1 (by omega) (by decide)) dX0_addRun_60 rfl (by decide) (Nat.le_of_ble_eq_true rfl) ?_
          refine g_aload_0 hX dX0_addRun_63 ?_
          refine gt_X0_turns hX h_o dX0_addRun_64 ?_
          refine g_iload_1 hX dX0_addRun_67 ?_
          refine g_iload_4 hX dX0_addRun_68 ?_
          refine g_top _ hr ?_
          refine g_bipush hX 8 dX0_addRun_70 (by decide) ?_
          refine g_cN3r hX mkX5_cell nl_X0_52 (c_X5_cell (w := 8) h8 (by decide)) dX0_addRun_72 rfl (by decide) (Nat.le_of_ble_eq_true rfl) ?_
          refine g_iload_2 hX dX0_addRun_75 ?_
          refine g_cN3v hX mkX5_put nl_X0_48 (c_X5_put h_o.2.2.2.2.1 (by omega) (by decide)) dX0_addRun_76 rfl (by decide) (Nat.le_of_ble_eq_true rfl) ?_
          refine g_aload_0 hX dX0_addRun_79 ?_
          refine gt_X0_runs hX h_o dX0_addRun_80 ?_
          refine g_iload_1 hX dX0_addRun_83 ?_
          refine g_iload_4 hX dX0_addRun_84 ?_
          refine g_iconst hX 1 dX0_addRun_86 (by decide) ?_
          refine g_iadd hX dX0_addRun_87 ?_
          refine g_cN3v hX mkX5_put nl_X0_48 (c_X5_put h_o.2.2.1 hj6 (by decide)) dX0_addRun_88 rfl (by decide) (Nat.le_of_ble_eq_true rfl) ?_
          refine g_iload_4 hX dX0_addRun_91 ?_
          refine g_iconst hX 1 dX0_addRun_93 (by decide) ?_
          refine g_iadd hX dX0_addRun_94 ?_
          exact hq _ _ _ _ dX0_addRun_95 (by rw [addRunM, if_pos ⟨c5, c14, c24⟩, hjc, if_pos c41]) (by rw [addRunR, if_pos ⟨c5, c14, c24⟩, hjc, if_pos c41])
        · refine g_bipush hX (-4) dX0_addRun_44 (by decide) ?_
          exact hq _ _ _ _ dX0_addRun_46 (by rw [addRunM, if_pos ⟨c5, c14, c24⟩, hjc, if_neg c41]) (by rw [addRunR, if_pos ⟨c5, c14, c24⟩, hjc, if_neg c41])
      · replace c24 := bI_z.mp c24
        refine g_bipush hX (-2) dX0_addRun_27 (by decide) ?_
        exact hq _ _ _ _ dX0_addRun_29 (by first | (rw [addRunM, if_neg]; intro hh; exact c5 hh.1) | (rw [addRunM, if_neg]; intro hh; exact c14 hh.2.1) | (rw [addRunM, if_neg]; intro hh; exact c24 hh.2.2)) (by first | (rw [addRunR, if_neg]; intro hh; exact c5 hh.1) | (rw [addRunR, if_neg]; intro hh; exact c14 hh.2.1) | (rw [addRunR, if_neg]; intro hh; exact c24 hh.2.2))
set_option maxRecDepth 100000 in
set_option maxHeartbeats 4000000 in
theorem c_X0_dropRun {Z : Zt} {b : Mem} {o : Nat} (h_o : isBus Z o) {l : Int32} (hV : Val (cv b o))  : Con Z yX0_dropRun cX0_dropRun 3 (some .int) 2 [.ref (zad Z o), .int l] b (some (.int (dropRunR (b o 6) (b (o + 1) l.toNatClampNeg) l))) (dropRunM b o l) := by
  have hn : b o 6 = nI (nl (cv b o)) := hV.1.1
  have hn6 := hV.1.2
  refine con_i (by decide) (Nat.le_of_ble_eq_true rfl) rfl (fun X hX hq => ?_)
  have hX : Ok Z X cX0_dropRun 3 RX0 2 := hX
  show G Z X b 0 [some (.ref (zad Z o)), some (.int l), none] []
  refine g_aload_0 hX dX0_dropRun_0 ?_
  refine g_iload_1 hX dX0_dropRun_1 ?_
  refine g_cV1r hX mkX0_hasLine ml_X0_56 (c_X0_hasLine h_o) (h_o.obj _) dX0_dropRun_2 rfl (by decide) (Nat.le_of_ble_eq_true rfl) ?_
  refine g_if_ne hX 11 dX0_dropRun_5 (by decide) (fun c5 => ?_) (fun c5 => ?_)
  · replace c5 := bI_nz.mp c5
    obtain ⟨j, hj, rfl⟩ := in_of c5.1 (by have := c5.2; rw [hn] at this; exact this) (by omega)
    have hjc : (nI j).toNatClampNeg = j := nI_clamp (by omega)
    have hj6 := hV.l6 hj
    have hr : b (o + 1) j = nI (rn (cv b o) j) := hV.runs hj
    have hr8 := hV.r8 hj
    have hr1 := hV.r1 hj
    refine g_aload_0 hX dX0_dropRun_11 ?_
    refine g_iload_1 hX dX0_dropRun_12 ?_
    refine g_cV1r hX mkX0_runsOf ml_X0_60 (c_X0_runsOf h_o hj6) (h_o.obj _) dX0_dropRun_13 rfl (by decide) (Nat.le_of_ble_eq_true rfl) ?_
    refine g_iconst hX 1 dX0_dropRun_16 (by decide) ?_
    refine g_isub hX dX0_dropRun_17 ?_
    refine g_istore_2 hX dX0_dropRun_18 rfl ?_
    refine g_iload_2 hX dX0_dropRun_19 ?_
    refine g_iconst hX 1 dX0_dropRun_20 (by decide) ?_
    refine g_icmp_ge hX 27 dX0_dropRun_21 (by decide) (fun c21 => ?_) (fun c21 => ?_)
    · refine g_aload_0 hX dX0_dropRun_27 ?_
      refine gt_X0_runs hX h_o dX0_dropRun_28 ?_
      refine g_iload_1 hX dX0_dropRun_31 ?_
      refine g_iload_2 hX dX0_dropRun_32 ?_
      refine g_cN3v hX mkX5_put nl_X0_48 (c_X5_put h_o.2.2.1 hj6 (by decide)) dX0_dropRun_33 rfl (by decide) (Nat.le_of_ble_eq_true rfl) ?_
      refine g_iload_2 hX dX0_dropRun_36 ?_
      exact hq _ _ _ _ dX0_dropRun_37 (by rw [dropRunM, if_pos c5, hjc, if_neg c21]) (by rw [dropRunR, if_pos c5, hjc, if_neg c21])
    · refine g_bipush hX (-3) dX0_dropRun_24 (by decide) ?_
      exact hq _ _ _ _ dX0_dropRun_26 (by rw [dropRunM, if_pos c5, hjc, if_pos c21]) (by rw [dropRunR, if_pos c5, hjc, if_pos c21])
  · replace c5 := bI_z.mp c5
    refine g_bipush hX (-2) dX0_dropRun_8 (by decide) ?_
    exact hq _ _ _ _ dX0_dropRun_10 (by rw [dropRunM, if_neg c5]) (by rw [dropRunR, if_neg c5])
set_option maxRecDepth 100000 in
set_option maxHeartbeats 4000000 in
theorem c_X0_addPocket {Z : Zt} {b : Mem} {o : Nat} (h_o : isBus Z o) {w t : Int32} (hV : Val (cv b o))  : Con Z yX0_addPocket cX0_addPocket 3 (some .int) 1 [.ref (zad Z o), .int w, .int t] b (some (.int (addPocketR (b o 7) w t))) (addPocketM b o w t) := by
  have hn : b o 7 = nI (np (cv b o)) := hV.2.1.1
  have hn6 := hV.2.1.2
  refine con_i (by decide) (Nat.le_of_ble_eq_true rfl) rfl (fun X hX hq => ?_)
  have hX : Ok Z X cX0_addPocket 3 RX0 1 := hX
  show G Z X b 0 [some (.ref (zad Z o)), some (.int w), some (.int t)] []
  refine g_iload_1 hX dX0_addPocket_0 ?_
  refine g_iconst hX 1 dX0_addPocket_1 (by decide) ?_
  refine g_bipush hX 60 dX0_addPocket_2 (by decide) ?_
  refine g_cN3r hX mkX5_within nl_X0_44 (c_X5_within) dX0_addPocket_4 rfl (by decide) (Nat.le_of_ble_eq_true rfl) ?_
  refine g_if_eq hX 20 dX0_addPocket_7 (by decide) (fun c7 => ?_) (fun c7 => ?_)
  · replace c7 := bI_z.mp c7
    refine g_bipush hX (-2) dX0_addPocket_20 (by decide) ?_
    exact hq _ _ _ _ dX0_addPocket_22 (by first | (rw [addPocketM, if_neg]; intro hh; exact c7 hh.1) | (rw [addPocketM, if_neg]; intro hh; exact c17 hh.2)) (by first | (rw [addPocketR, if_neg]; intro hh; exact c7 hh.1) | (rw [addPocketR, if_neg]; intro hh; exact c17 hh.2))
  · replace c7 := bI_nz.mp c7
    refine g_iload_2 hX dX0_addPocket_10 ?_
    refine g_iconst hX 0 dX0_addPocket_11 (by decide) ?_
    refine g_bipush hX 63 dX0_addPocket_12 (by decide) ?_
    refine g_cN3r hX mkX5_within nl_X0_44 (c_X5_within) dX0_addPocket_14 rfl (by decide) (Nat.le_of_ble_eq_true rfl) ?_
    refine g_if_ne hX 23 dX0_addPocket_17 (by decide) (fun c17 => ?_) (fun c17 => ?_)
    · replace c17 := bI_nz.mp c17
      refine g_aload_0 hX dX0_addPocket_23 ?_
      refine gt_X0_pockets hX h_o dX0_addPocket_24 ?_
      refine g_bipush hX 6 dX0_addPocket_27 (by decide) ?_
      refine g_icmp_lt hX 35 dX0_addPocket_29 (by decide) (fun c29 => ?_) (fun c29 => ?_)
      · have hl6 : np (cv b o) < 6 := (nI_ltI (by omega) (by decide)).mp (by rw [← hn]; exact c29)
        refine g_aload_0 hX dX0_addPocket_35 ?_
        refine gt_X0_wides hX h_o dX0_addPocket_36 ?_
        refine g_aload_0 hX dX0_addPocket_39 ?_
        refine gt_X0_pockets hX h_o dX0_addPocket_40 ?_
        refine g_top _ hn ?_
        refine g_iload_1 hX dX0_addPocket_43 ?_
        refine g_cN3v hX mkX5_put nl_X0_48 (c_X5_put h_o.2.2.2.2.2.1 hl6 (by decide)) dX0_addPocket_44 rfl (by decide) (Nat.le_of_ble_eq_true rfl) ?_
        refine g_aload_0 hX dX0_addPocket_47 ?_
        refine gt_X0_touching hX h_o dX0_addPocket_48 ?_
        refine g_aload_0 hX dX0_addPocket_51 ?_
        refine gt_X0_pockets hX h_o dX0_addPocket_52 ?_
        refine g_top (nI (np (cv b o))) (by simp [up2, up1, hn]) ?_
        refine g_iload_2 hX dX0_addPocket_55 ?_
        refine g_cN3v hX mkX5_put nl_X0_48 (c_X5_put h_o.2.2.2.2.2.2.1 hl6 (by decide)) dX0_addPocket_56 rfl (by decide) (Nat.le_of_ble_eq_true rfl) ?_
        refine g_aload_0 hX dX0_addPocket_59 ?_
        refine g_dup hX dX0_addPocket_60 rfl ?_
        refine gt_X0_pockets hX h_o dX0_addPocket_61 ?_
        refine g_top (b o 7) (by simp [up2, up1, hn]) ?_
        refine g_iconst hX 1 dX0_addPocket_64 (by decide) ?_
        refine g_iadd hX dX0_addPocket_65 ?_
        refine pt_X0_pockets hX h_o dX0_addPocket_66 ?_
        refine g_aload_0 hX dX0_addPocket_69 ?_
        refine gt_X0_pockets hX h_o dX0_addPocket_70 ?_
        refine g_top (b o 7 + 1) (u2s _ _ _ _) ?_
        refine g_iconst hX 1 dX0_addPocket_73 (by decide) ?_
        refine g_isub hX dX0_addPocket_74 ?_
        exact hq _ _ _ _ dX0_addPocket_75 (by rw [addPocketM, if_pos ⟨c7, c17⟩, if_pos c29]) (by rw [addPocketR, if_pos ⟨c7, c17⟩, if_pos c29, Int32.add_sub_cancel])
      · refine g_bipush hX (-4) dX0_addPocket_32 (by decide) ?_
        exact hq _ _ _ _ dX0_addPocket_34 (by rw [addPocketM, if_pos ⟨c7, c17⟩, if_neg c29]) (by rw [addPocketR, if_pos ⟨c7, c17⟩, if_neg c29])
    · replace c17 := bI_z.mp c17
      refine g_bipush hX (-2) dX0_addPocket_20 (by decide) ?_
      exact hq _ _ _ _ dX0_addPocket_22 (by first | (rw [addPocketM, if_neg]; intro hh; exact c7 hh.1) | (rw [addPocketM, if_neg]; intro hh; exact c17 hh.2)) (by first | (rw [addPocketR, if_neg]; intro hh; exact c7 hh.1) | (rw [addPocketR, if_neg]; intro hh; exact c17 hh.2))
set_option maxRecDepth 100000 in
set_option maxHeartbeats 4000000 in
theorem c_X0_changeWide {Z : Zt} {b : Mem} {o : Nat} (h_o : isBus Z o) {p w : Int32} (hV : Val (cv b o))  : Con Z yX0_changeWide cX0_changeWide 4 (some .int) 2 [.ref (zad Z o), .int p, .int w] b (some (.int (wideR (b o 7) (b (o + 4) p.toNatClampNeg) p w))) (wideM b o p w) := by
  have hn : b o 7 = nI (np (cv b o)) := hV.2.1.1
  have hn6 := hV.2.1.2
  refine con_i (by decide) (Nat.le_of_ble_eq_true rfl) rfl (fun X hX hq => ?_)
  have hX : Ok Z X cX0_changeWide 4 RX0 2 := hX
  show G Z X b 0 [some (.ref (zad Z o)), some (.int p), some (.int w), none] []
  refine g_aload_0 hX dX0_changeWide_0 ?_
  refine g_iload_1 hX dX0_changeWide_1 ?_
  refine g_cV1r hX mkX0_hasPocket ml_X0_64 (c_X0_hasPocket h_o) (h_o.obj _) dX0_changeWide_2 rfl (by decide) (Nat.le_of_ble_eq_true rfl) ?_
  refine g_if_eq hX 18 dX0_changeWide_5 (by decide) (fun c5 => ?_) (fun c5 => ?_)
  · replace c5 := bI_z.mp c5
    refine g_bipush hX (-2) dX0_changeWide_18 (by decide) ?_
    exact hq _ _ _ _ dX0_changeWide_20 (by first | (rw [wideM, if_neg]; intro hh; exact c5 hh.1) | (rw [wideM, if_neg]; intro hh; exact c15 hh.2)) (by first | (rw [wideR, if_neg]; intro hh; exact c5 hh.1) | (rw [wideR, if_neg]; intro hh; exact c15 hh.2))
  · replace c5 := bI_nz.mp c5
    refine g_iload_2 hX dX0_changeWide_8 ?_
    refine g_iconst hX 1 dX0_changeWide_9 (by decide) ?_
    refine g_bipush hX 60 dX0_changeWide_10 (by decide) ?_
    refine g_cN3r hX mkX5_within nl_X0_44 (c_X5_within) dX0_changeWide_12 rfl (by decide) (Nat.le_of_ble_eq_true rfl) ?_
    refine g_if_ne hX 21 dX0_changeWide_15 (by decide) (fun c15 => ?_) (fun c15 => ?_)
    · replace c15 := bI_nz.mp c15
      obtain ⟨j, hj, rfl⟩ := in_of c5.1 (by have := c5.2; rw [hn] at this; exact this) (by omega)
      have hjc : (nI j).toNatClampNeg = j := nI_clamp (by omega)
      have hj6 := hV.p6 hj
      refine g_aload_0 hX dX0_changeWide_21 ?_
      refine g_iload_1 hX dX0_changeWide_22 ?_
      refine g_cV1r hX mkX0_wideOf ml_X0_67 (c_X0_wideOf h_o hj6) (h_o.obj _) dX0_changeWide_23 rfl (by decide) (Nat.le_of_ble_eq_true rfl) ?_
      refine g_istore_3 hX dX0_changeWide_26 rfl ?_
      refine g_aload_0 hX dX0_changeWide_27 ?_
      refine gt_X0_wides hX h_o dX0_changeWide_28 ?_
      refine g_iload_1 hX dX0_changeWide_31 ?_
      refine g_iload_2 hX dX0_changeWide_32 ?_
      refine g_cN3v hX mkX5_put nl_X0_48 (c_X5_put h_o.2.2.2.2.2.1 hj6 (by decide)) dX0_changeWide_33 rfl (by decide) (Nat.le_of_ble_eq_true rfl) ?_
      refine g_iload_3 hX dX0_changeWide_36 ?_
      exact hq _ _ _ _ dX0_changeWide_37 (by rw [wideM, if_pos ⟨c5, c15⟩, hjc]) (by rw [wideR, if_pos ⟨c5, c15⟩, hjc])
    · replace c15 := bI_z.mp c15
      refine g_bipush hX (-2) dX0_changeWide_18 (by decide) ?_
      exact hq _ _ _ _ dX0_changeWide_20 (by first | (rw [wideM, if_neg]; intro hh; exact c5 hh.1) | (rw [wideM, if_neg]; intro hh; exact c15 hh.2)) (by first | (rw [wideR, if_neg]; intro hh; exact c5 hh.1) | (rw [wideR, if_neg]; intro hh; exact c15 hh.2))
set_option maxRecDepth 100000 in
set_option maxHeartbeats 4000000 in
theorem c_X0_changeTouch {Z : Zt} {b : Mem} {o : Nat} (h_o : isBus Z o) {p w : Int32} (hV : Val (cv b o))  : Con Z yX0_changeTouch cX0_changeTouch 4 (some .int) 1 [.ref (zad Z o), .int p, .int w] b (some (.int (touchR (b o 7) (b (o + 5) p.toNatClampNeg) p w))) (touchM b o p w) := by
  have hn : b o 7 = nI (np (cv b o)) := hV.2.1.1
  have hn6 := hV.2.1.2
  refine con_i (by decide) (Nat.le_of_ble_eq_true rfl) rfl (fun X hX hq => ?_)
  have hX : Ok Z X cX0_changeTouch 4 RX0 1 := hX
  show G Z X b 0 [some (.ref (zad Z o)), some (.int p), some (.int w), none] []
  refine g_aload_0 hX dX0_changeTouch_0 ?_
  refine g_iload_1 hX dX0_changeTouch_1 ?_
  refine g_cV1r hX mkX0_hasPocket ml_X0_64 (c_X0_hasPocket h_o) (h_o.obj _) dX0_changeTouch_2 rfl (by decide) (Nat.le_of_ble_eq_true rfl) ?_
  refine g_if_eq hX 18 dX0_changeTouch_5 (by decide) (fun c5 => ?_) (fun c5 => ?_)
  · replace c5 := bI_z.mp c5
    refine g_bipush hX (-2) dX0_changeTouch_18 (by decide) ?_
    exact hq _ _ _ _ dX0_changeTouch_20 (by first | (rw [touchM, if_neg]; intro hh; exact c5 hh.1) | (rw [touchM, if_neg]; intro hh; exact c15 hh.2)) (by first | (rw [touchR, if_neg]; intro hh; exact c5 hh.1) | (rw [touchR, if_neg]; intro hh; exact c15 hh.2))
  · replace c5 := bI_nz.mp c5
    refine g_iload_2 hX dX0_changeTouch_8 ?_
    refine g_iconst hX 0 dX0_changeTouch_9 (by decide) ?_
    refine g_bipush hX 63 dX0_changeTouch_10 (by decide) ?_
    refine g_cN3r hX mkX5_within nl_X0_44 (c_X5_within) dX0_changeTouch_12 rfl (by decide) (Nat.le_of_ble_eq_true rfl) ?_
    refine g_if_ne hX 21 dX0_changeTouch_15 (by decide) (fun c15 => ?_) (fun c15 => ?_)
    · replace c15 := bI_nz.mp c15
      obtain ⟨j, hj, rfl⟩ := in_of c5.1 (by have := c5.2; rw [hn] at this; exact this) (by omega)
      have hjc : (nI j).toNatClampNeg = j := nI_clamp (by omega)
      have hj6 := hV.p6 hj
      refine g_aload_0 hX dX0_changeTouch_21 ?_
      refine gt_X0_touching hX h_o dX0_changeTouch_22 ?_
      refine g_iload_1 hX dX0_changeTouch_25 ?_
      refine g_cN2r hX mkX5_at nl_X0_70 (c_X5_at h_o.2.2.2.2.2.2.1 hj6 (by decide)) dX0_changeTouch_26 rfl (by decide) (Nat.le_of_ble_eq_true rfl) ?_
      refine g_istore_3 hX dX0_changeTouch_29 rfl ?_
      refine g_aload_0 hX dX0_changeTouch_30 ?_
      refine gt_X0_touching hX h_o dX0_changeTouch_31 ?_
      refine g_iload_1 hX dX0_changeTouch_34 ?_
      refine g_iload_2 hX dX0_changeTouch_35 ?_
      refine g_cN3v hX mkX5_put nl_X0_48 (c_X5_put h_o.2.2.2.2.2.2.1 hj6 (by decide)) dX0_changeTouch_36 rfl (by decide) (Nat.le_of_ble_eq_true rfl) ?_
      refine g_iload_3 hX dX0_changeTouch_39 ?_
      exact hq _ _ _ _ dX0_changeTouch_40 (by rw [touchM, if_pos ⟨c5, c15⟩, hjc]) (by rw [touchR, if_pos ⟨c5, c15⟩, hjc])
    · replace c15 := bI_z.mp c15
      refine g_bipush hX (-2) dX0_changeTouch_18 (by decide) ?_
      exact hq _ _ _ _ dX0_changeTouch_20 (by first | (rw [touchM, if_neg]; intro hh; exact c5 hh.1) | (rw [touchM, if_neg]; intro hh; exact c15 hh.2)) (by first | (rw [touchR, if_neg]; intro hh; exact c5 hh.1) | (rw [touchR, if_neg]; intro hh; exact c15 hh.2))
set_option maxRecDepth 100000 in
set_option maxHeartbeats 4000000 in
theorem c_X0_changeSetting {Z : Zt} {b : Mem} {o : Nat} (h_o : isBus Z o) {k x : Int32} : Con Z yX0_changeSetting cX0_changeSetting 4 (some .int) 1 [.ref (zad Z o), .int k, .int x] b (some (.int (setR (b (o + 6) k.toNatClampNeg) k x))) (setM b o k x) := by
  refine con_i (by decide) (Nat.le_of_ble_eq_true rfl) rfl (fun X hX hq => ?_)
  have hX : Ok Z X cX0_changeSetting 4 RX0 1 := hX
  show G Z X b 0 [some (.ref (zad Z o)), some (.int k), some (.int x), none] []
  refine g_iload_1 hX dX0_changeSetting_0 ?_
  refine g_iconst hX 0 dX0_changeSetting_1 (by decide) ?_
  refine g_bipush hX 6 dX0_changeSetting_2 (by decide) ?_
  refine g_cN3r hX mkX5_within nl_X0_44 (c_X5_within) dX0_changeSetting_4 rfl (by decide) (Nat.le_of_ble_eq_true rfl) ?_
  refine g_if_eq hX 31 dX0_changeSetting_7 (by decide) (fun c7 => ?_) (fun c7 => ?_)
  · replace c7 := bI_z.mp c7
    refine g_bipush hX (-2) dX0_changeSetting_31 (by decide) ?_
    exact hq _ _ _ _ dX0_changeSetting_33 (by first | (rw [setM, if_neg]; intro hh; exact c7 hh.1) | (rw [setM, if_neg]; intro hh; exact c28 (by rw [hjc] at hh; exact hh.2))) (by first | (rw [setR, if_neg]; intro hh; exact c7 hh.1) | (rw [setR, if_neg]; intro hh; exact c28 (by rw [hjc] at hh; exact hh.2)))
  · replace c7 := bI_nz.mp c7
    obtain ⟨j, hj, rfl⟩ := in_of6 (n := 6) c7.1 c7.2 (by decide)
    have hjc : (nI j).toNatClampNeg = j := nI_clamp (by omega)
    refine g_iload_2 hX dX0_changeSetting_10 ?_
    refine g_getsL hX dX0_changeSetting_11 ?_
    refine g_iload_1 hX dX0_changeSetting_14 ?_
    refine g_cN2r hX mkX5_at nl_X0_70 (c_X5_at_low hj) dX0_changeSetting_15 rfl (by decide) (Nat.le_of_ble_eq_true rfl) ?_
    refine g_getsH hX dX0_changeSetting_18 ?_
    refine g_iload_1 hX dX0_changeSetting_21 ?_
    refine g_cN2r hX mkX5_at nl_X0_70 (c_X5_at_hig hj) dX0_changeSetting_22 rfl (by decide) (Nat.le_of_ble_eq_true rfl) ?_
    refine g_cN3r hX mkX5_within nl_X0_44 (c_X5_within) dX0_changeSetting_25 rfl (by decide) (Nat.le_of_ble_eq_true rfl) ?_
    refine g_if_ne hX 34 dX0_changeSetting_28 (by decide) (fun c28 => ?_) (fun c28 => ?_)
    · replace c28 := bI_nz.mp c28
      refine g_aload_0 hX dX0_changeSetting_34 ?_
      refine gt_X0_chosen hX h_o dX0_changeSetting_35 ?_
      refine g_iload_1 hX dX0_changeSetting_38 ?_
      refine g_cN2r hX mkX5_at nl_X0_70 (c_X5_at h_o.2.2.2.2.2.2.2 hj (by decide)) dX0_changeSetting_39 rfl (by decide) (Nat.le_of_ble_eq_true rfl) ?_
      refine g_istore_3 hX dX0_changeSetting_42 rfl ?_
      refine g_aload_0 hX dX0_changeSetting_43 ?_
      refine gt_X0_chosen hX h_o dX0_changeSetting_44 ?_
      refine g_iload_1 hX dX0_changeSetting_47 ?_
      refine g_iload_2 hX dX0_changeSetting_48 ?_
      refine g_cN3v hX mkX5_put nl_X0_48 (c_X5_put h_o.2.2.2.2.2.2.2 hj (by decide)) dX0_changeSetting_49 rfl (by decide) (Nat.le_of_ble_eq_true rfl) ?_
      refine g_iload_3 hX dX0_changeSetting_52 ?_
      exact hq _ _ _ _ dX0_changeSetting_53 (by rw [setM, if_pos ⟨c7, by rw [hjc]; exact c28⟩, hjc]) (by rw [setR, if_pos ⟨c7, by rw [hjc]; exact c28⟩, hjc])
    · replace c28 := bI_z.mp c28
      refine g_bipush hX (-2) dX0_changeSetting_31 (by decide) ?_
      exact hq _ _ _ _ dX0_changeSetting_33 (by first | (rw [setM, if_neg]; intro hh; exact c7 hh.1) | (rw [setM, if_neg]; intro hh; exact c28 (by rw [hjc] at hh; exact hh.2))) (by first | (rw [setR, if_neg]; intro hh; exact c7 hh.1) | (rw [setR, if_neg]; intro hh; exact c28 (by rw [hjc] at hh; exact hh.2)))
def cp6 (b : Mem) (o p j n : Nat) : Mem := up1 b (o + j) (va_cpy (b (p + j)) (b (o + j)) 0 0 n)
def tk (b : Mem) (o p : Nat) : Mem := up2 (up2 (cp6 (cp6 (cp6 (cp6 (cp6 (cp6 b o p 1 6) o p 2 48) o p 3 48) o p 4 6) o p 5 6) o p 6 7) o 6 (b p 6)) o 7 (b p 7)
set_option maxRecDepth 100000 in
set_option maxHeartbeats 4000000 in
theorem c_X0_takeFrom {Z : Zt} {b : Mem} {o p : Nat} (h_o : isBus Z o) (h_p : isBus Z p) (hd : p + 6 < o ∨ o + 6 < p) : Con Z yX0_takeFrom cX0_takeFrom 2 none 2 [.ref (zad Z o), .ref (zad Z p)] b none (tk b o p) := by
  refine con_v (by decide) (Nat.le_of_ble_eq_true rfl) rfl (fun X hX hq => ?_)
  have hX : Ok Z X cX0_takeFrom 2 RX0 2 := hX
  show G Z X b 0 [some (.ref (zad Z o)), some (.ref (zad Z p))] []
  refine g_aload_1 hX dX0_takeFrom_0 ?_
  refine gt_X0_runs hX h_p dX0_takeFrom_1 ?_
  refine g_aload_0 hX dX0_takeFrom_4 ?_
  refine gt_X0_runs hX h_o dX0_takeFrom_5 ?_
  refine g_cN2v hX mkX5_copy nl_X0_40 (c_X5_copy h_p.2.2.1 h_o.2.2.1 (by decide)) dX0_takeFrom_8 rfl (by decide) (Nat.le_of_ble_eq_true rfl) ?_
  refine g_aload_1 hX dX0_takeFrom_11 ?_
  refine gt_X0_longs hX h_p dX0_takeFrom_12 ?_
  refine g_aload_0 hX dX0_takeFrom_15 ?_
  refine gt_X0_longs hX h_o dX0_takeFrom_16 ?_
  refine g_cN2v hX mkX5_copy nl_X0_40 (c_X5_copy h_p.2.2.2.1 h_o.2.2.2.1 (by decide)) dX0_takeFrom_19 rfl (by decide) (Nat.le_of_ble_eq_true rfl) ?_
  refine g_aload_1 hX dX0_takeFrom_22 ?_
  refine gt_X0_turns hX h_p dX0_takeFrom_23 ?_
  refine g_aload_0 hX dX0_takeFrom_26 ?_
  refine gt_X0_turns hX h_o dX0_takeFrom_27 ?_
  refine g_cN2v hX mkX5_copy nl_X0_40 (c_X5_copy h_p.2.2.2.2.1 h_o.2.2.2.2.1 (by decide)) dX0_takeFrom_30 rfl (by decide) (Nat.le_of_ble_eq_true rfl) ?_
  refine g_aload_1 hX dX0_takeFrom_33 ?_
  refine gt_X0_wides hX h_p dX0_takeFrom_34 ?_
  refine g_aload_0 hX dX0_takeFrom_37 ?_
  refine gt_X0_wides hX h_o dX0_takeFrom_38 ?_
  refine g_cN2v hX mkX5_copy nl_X0_40 (c_X5_copy h_p.2.2.2.2.2.1 h_o.2.2.2.2.2.1 (by decide)) dX0_takeFrom_41 rfl (by decide) (Nat.le_of_ble_eq_true rfl) ?_
  refine g_aload_1 hX dX0_takeFrom_44 ?_
  refine gt_X0_touching hX h_p dX0_takeFrom_45 ?_
  refine g_aload_0 hX dX0_takeFrom_48 ?_
  refine gt_X0_touching hX h_o dX0_takeFrom_49 ?_
  refine g_cN2v hX mkX5_copy nl_X0_40 (c_X5_copy h_p.2.2.2.2.2.2.1 h_o.2.2.2.2.2.2.1 (by decide)) dX0_takeFrom_52 rfl (by decide) (Nat.le_of_ble_eq_true rfl) ?_
  refine g_aload_1 hX dX0_takeFrom_55 ?_
  refine gt_X0_chosen hX h_p dX0_takeFrom_56 ?_
  refine g_aload_0 hX dX0_takeFrom_59 ?_
  refine gt_X0_chosen hX h_o dX0_takeFrom_60 ?_
  refine g_cN2v hX mkX5_copy nl_X0_40 (c_X5_copy h_p.2.2.2.2.2.2.2 h_o.2.2.2.2.2.2.2 (by decide)) dX0_takeFrom_63 rfl (by decide) (Nat.le_of_ble_eq_true rfl) ?_
  refine g_aload_0 hX dX0_takeFrom_66 ?_
  refine g_aload_1 hX dX0_takeFrom_67 ?_
  refine gt_X0_lines hX h_p dX0_takeFrom_68 ?_
  refine g_top (b p 6) (by simp only [u1c _ _ (show p ≠ o + 1 by omega), u1c _ _ (show p ≠ o + 2 by omega), u1c _ _ (show p ≠ o + 3 by omega), u1c _ _ (show p ≠ o + 4 by omega), u1c _ _ (show p ≠ o + 5 by omega), u1c _ _ (show p ≠ o + 6 by omega)]) ?_
  refine pt_X0_lines hX h_o dX0_takeFrom_71 ?_
  refine g_aload_0 hX dX0_takeFrom_74 ?_
  refine g_aload_1 hX dX0_takeFrom_75 ?_
  refine gt_X0_pockets hX h_p dX0_takeFrom_76 ?_
  refine g_top (b p 7) (by simp only [u2c _ _ (show p ≠ o by omega), u1c _ _ (show p ≠ o + 1 by omega), u1c _ _ (show p ≠ o + 2 by omega), u1c _ _ (show p ≠ o + 3 by omega), u1c _ _ (show p ≠ o + 4 by omega), u1c _ _ (show p ≠ o + 5 by omega), u1c _ _ (show p ≠ o + 6 by omega)]) ?_
  refine pt_X0_pockets hX h_o dX0_takeFrom_79 ?_
  exact hq _ _ _ dX0_takeFrom_82 (by rfl)
end
section
/-! locals forgotten at a loop's head; the memory beside -/
def lvw (L L' : List (Option Value)) : Prop := L.length = L'.length ∧ ∀ (i : Nat) (v : Value), L'[i]? = some (some v) → L[i]? = some (some v)
theorem lvw_nil : lvw [] [] := ⟨rfl, fun _ _ h => by simp at h⟩
theorem lvw_c {a : Option Value} {L L' : List (Option Value)} (h : lvw L L') : lvw (a :: L) (a :: L') := ⟨by simp [h.1], fun i v hv => by
  cases i with
  | zero => exact hv
  | succ i => exact h.2 i v hv⟩
theorem lvw_n {a : Option Value} {L L' : List (Option Value)} (h : lvw L L') : lvw (a :: L) (none :: L') := ⟨by simp [h.1], fun i v hv => by
  cases i with
  | zero => simp at hv
  | succ i => exact h.2 i v hv⟩
section MORE
variable {Z : Zt} {X : Xt} {b b' : Mem} {pc : Nat} {L L' L2 : List (Option Value)} {st : List Value}
theorem g_weak (hw : lvw L L') (k : G Z X b pc L' st) : G Z X b pc L st := fun H locs ls hP hS hl => k H locs ls hP hS ⟨hl.1.trans hw.1, hl.2.1, fun i v h => hl.2.2 i v (hw.2 i v h)⟩
theorem g_back (k : G Z X b' pc L2 st) (hb : b = b') (hL : L' = L2) (hw : lvw L L') : G Z X b pc L st := by
  subst hb; subst hL
  exact g_weak hw k
theorem g_loopW (hw : lvw L L') (N : Nat) (B : Nat → Mem) (Lk : Nat → List (Option Value)) (h0 : b = B 0) (hL : L' = Lk 0) (step : ∀ k, k < N → G Z X (B (k + 1)) pc (Lk (k + 1)) st → G Z X (B k) pc (Lk k) st) (out : G Z X (B N) pc (Lk N) st) : G Z X b pc L st := g_weak hw (g_loop N B Lk h0 hL step out)
end MORE
theorem cv_same {m b : Mem} {o : Nat} (h : ∀ j, o ≤ j → j ≤ o + 6 → m j = b j) : cv m o = cv b o := by
  funext c l i
  unfold cv
  split <;> rw [h _ (by omega) (by omega)]
theorem cv_up2 (m : Mem) {j o : Nat} (i : Nat) (x : Int32) (h : j < o ∨ o + 6 < j) : cv (up2 m j i x) o = cv m o := cv_same (fun k h1 h2 => u2c _ _ (by omega))
theorem up2_id (b : Mem) (i k : Nat) (x : Int32) : up2 (up2 b i k x) i k (b i k) = b := by
  funext j m
  by_cases h : j = i
  · subst h
    by_cases h2 : m = k
    · subst h2; rw [u2s]
    · rw [u2k _ _ h2, u2k _ _ h2]
  · rw [u2c _ _ h, u2c _ _ h]
theorem ltN {a b : Nat} (h : a < b) (hb : b ≤ 64) : nI a < nI b := nI_lt h (by omega)
theorem pow64 {n : Nat} (h : n ≤ 6) : 2 ^ n ≤ 64 := Nat.pow_le_pow_right (by omega) h
theorem pow1 (n : Nat) : 1 ≤ 2 ^ n := Nat.one_le_two_pow
def minI (x y : Int32) : Int32 := if y < x then y else x
def fillM (b : Mem) (j k : Nat) (v : Int32) : Mem := up1 b j (fun i => if i < k then v else b j i)
theorem fillM_0 (b : Mem) (j : Nat) (v : Int32) : b = fillM b j 0 v := by
  funext i m
  unfold fillM
  by_cases h : i = j
  · subst h; rw [u1s]; simp
  · rw [u1c _ _ h]
theorem fillM_s (b : Mem) (j k : Nat) (v : Int32) : up2 (fillM b j k v) j k v = fillM b j (k + 1) v := by
  funext i m
  unfold fillM
  by_cases h : i = j
  · subst h
    by_cases h2 : m = k
    · subst h2; rw [u2s, u1s]; simp
    · rw [u2k _ _ h2, u1s, u1s]
      by_cases h3 : m < k
      · simp [h3, Nat.lt_succ_of_lt h3]
      · simp [h3, show ¬ m < k + 1 by omega]
  · rw [u2c _ _ h, u1c _ _ h, u1c _ _ h]
def popN (s : Nat) : Nat := s % 2 + s / 2 % 2 + s / 4 % 2 + s / 8 % 2 + s / 16 % 2 + s / 32 % 2
def bc1 (x : Int32) : Int32 := x - (jushr x 1 &&& 1431655765)
def bc2 (x : Int32) : Int32 := (x &&& 858993459) + (jushr x 2 &&& 858993459)
def bc3 (x : Int32) : Int32 := x + jushr x 4 &&& 252645135
def bc4 (x : Int32) : Int32 := x + jushr x 8
def bc5 (x : Int32) : Int32 := x + jushr x 16
theorem bc_ok : ∀ s, s < 64 → bc5 (bc4 (bc3 (bc2 (bc1 (nI s))))) &&& 63 = nI (popN s) := by decide +kernel
end
section
/-! the two methods of the JDK that are walked -/
set_option maxRecDepth 100000 in
set_option maxHeartbeats 4000000 in
theorem c_J6_bitCount_0f7a4 {Z : Zt} {b : Mem} {s : Nat} (hs : s < 64) : Con Z yJ6_bitCount_0f7a4 cJ6_bitCount_0f7a4 1 (some .int) 0 [.int (nI s)] b (some (.int (nI (popN s)))) (b) := by
  refine con_i (by decide) (Nat.le_of_ble_eq_true rfl) rfl (fun X hX hq => ?_)
  have hX : Ok Z X cJ6_bitCount_0f7a4 1 RJ6 0 := hX
  show G Z X b 0 [some (.int (nI s))] []
  refine g_iload_0 hX dJ6_bitCount_0f7a4_0 ?_
  refine g_iload_0 hX dJ6_bitCount_0f7a4_1 ?_
  refine g_iconst hX 1 dJ6_bitCount_0f7a4_2 (by decide) ?_
  refine g_iushr hX dJ6_bitCount_0f7a4_3 ?_
  refine g_ldcw hX 1431655765 co_J6_265 dJ6_bitCount_0f7a4_4 ?_
  refine g_iand hX dJ6_bitCount_0f7a4_7 ?_
  refine g_isub hX dJ6_bitCount_0f7a4_8 ?_
  refine g_top (bc1 (nI s)) rfl ?_
  refine g_istore_0 hX dJ6_bitCount_0f7a4_9 ?_
  refine g_iload_0 hX dJ6_bitCount_0f7a4_10 ?_
  refine g_ldcw hX 858993459 co_J6_266 dJ6_bitCount_0f7a4_11 ?_
  refine g_iand hX dJ6_bitCount_0f7a4_14 ?_
  refine g_iload_0 hX dJ6_bitCount_0f7a4_15 ?_
  refine g_iconst hX 2 dJ6_bitCount_0f7a4_16 (by decide) ?_
  refine g_iushr hX dJ6_bitCount_0f7a4_17 ?_
  refine g_ldcw hX 858993459 co_J6_266 dJ6_bitCount_0f7a4_18 ?_
  refine g_iand hX dJ6_bitCount_0f7a4_21 ?_
  refine g_iadd hX dJ6_bitCount_0f7a4_22 ?_
  refine g_top (bc2 (bc1 (nI s))) rfl ?_
  refine g_istore_0 hX dJ6_bitCount_0f7a4_23 ?_
  refine g_iload_0 hX dJ6_bitCount_0f7a4_24 ?_
  refine g_iload_0 hX dJ6_bitCount_0f7a4_25 ?_
  refine g_iconst hX 4 dJ6_bitCount_0f7a4_26 (by decide) ?_
  refine g_iushr hX dJ6_bitCount_0f7a4_27 ?_
  refine g_iadd hX dJ6_bitCount_0f7a4_28 ?_
  refine g_ldcw hX 252645135 co_J6_267 dJ6_bitCount_0f7a4_29 ?_
  refine g_iand hX dJ6_bitCount_0f7a4_32 ?_
  refine g_top (bc3 (bc2 (bc1 (nI s)))) rfl ?_
  refine g_istore_0 hX dJ6_bitCount_0f7a4_33 ?_
  refine g_iload_0 hX dJ6_bitCount_0f7a4_34 ?_
  refine g_iload_0 hX dJ6_bitCount_0f7a4_35 ?_
  refine g_bipush hX 8 dJ6_bitCount_0f7a4_36 (by decide) ?_
  refine g_iushr hX dJ6_bitCount_0f7a4_38 ?_
  refine g_iadd hX dJ6_bitCount_0f7a4_39 ?_
  refine g_top (bc4 (bc3 (bc2 (bc1 (nI s))))) rfl ?_
  refine g_istore_0 hX dJ6_bitCount_0f7a4_40 ?_
  refine g_iload_0 hX dJ6_bitCount_0f7a4_41 ?_
  refine g_iload_0 hX dJ6_bitCount_0f7a4_42 ?_
  refine g_bipush hX 16 dJ6_bitCount_0f7a4_43 (by decide) ?_
  refine g_iushr hX dJ6_bitCount_0f7a4_45 ?_
  refine g_iadd hX dJ6_bitCount_0f7a4_46 ?_
  refine g_top (bc5 (bc4 (bc3 (bc2 (bc1 (nI s)))))) rfl ?_
  refine g_istore_0 hX dJ6_bitCount_0f7a4_47 ?_
  refine g_iload_0 hX dJ6_bitCount_0f7a4_48 ?_
  refine g_bipush hX 63 dJ6_bitCount_0f7a4_49 (by decide) ?_
  refine g_iand hX dJ6_bitCount_0f7a4_51 ?_
  exact hq _ _ _ _ dJ6_bitCount_0f7a4_52 (by rfl) (bc_ok s hs)
set_option maxRecDepth 100000 in
set_option maxHeartbeats 4000000 in
theorem c_J7_fill_53178 {Z : Zt} {b : Mem} {j n : Nat} {v : Int32} (hA : isArr Z j n) (hn : n < 2 ^ 31) : Con Z yJ7_fill_53178 cJ7_fill_53178 4 none 0 [.ref (zad Z j), .int v] b none (fillM b j n v) := by
  refine con_v (by decide) (Nat.le_of_ble_eq_true rfl) rfl (fun X hX hq => ?_)
  have hX : Ok Z X cJ7_fill_53178 4 RJ7 0 := hX
  show G Z X b 0 [some (.ref (zad Z j)), some (.int v), none, none] []
  refine g_iconst hX 0 dJ7_fill_53178_0 (by decide) ?_
  refine g_istore_2 hX dJ7_fill_53178_1 rfl ?_
  refine g_aload_0 hX dJ7_fill_53178_2 ?_
  refine g_alen hX hA dJ7_fill_53178_3 ?_
  refine g_istore_3 hX dJ7_fill_53178_4 rfl ?_
  refine g_loop (n) (fun k => fillM b j k v) (fun k => [some (.ref (zad Z j)), some (.int v), some (.int (nI k)), some (.int (nI n))]) (fillM_0 b j v) rfl (fun k hk5 ih5 => ?_) ?_
  · show G Z X (fillM b j k v) 5 ([some (.ref (zad Z j)), some (.int v), some (.int (nI k)), some (.int (nI n))]) _
    refine g_iload_2 hX dJ7_fill_53178_5 ?_
    refine g_iload_3 hX dJ7_fill_53178_6 ?_
    refine g_icmp_ge hX 20 dJ7_fill_53178_7 (by decide) (fun c7 => ?_) (fun c7 => ?_)
    · exact absurd c7 (not_not_intro (nI_lt hk5 hn))
    · refine g_aload_0 hX dJ7_fill_53178_10 ?_
      refine g_iload_2 hX dJ7_fill_53178_11 ?_
      refine g_iload_1 hX dJ7_fill_53178_12 ?_
      refine g_iast hX hA (vin hk5 hn) dJ7_fill_53178_13 ?_
      refine g_iinc_2 hX 1 dJ7_fill_53178_14 (by decide) rfl ?_
      refine g_goto hX 5 dJ7_fill_53178_17 (by decide) ?_
      exact g_cast ih5 (by rw [nI_clamp (by omega)]; exact fillM_s b j k v) (by simp only [nI_succ]) rfl
  · show G Z X (fillM b j (n) v) 5 ([some (.ref (zad Z j)), some (.int v), some (.int (nI (n))), some (.int (nI n))]) _
    refine g_iload_2 hX dJ7_fill_53178_5 ?_
    refine g_iload_3 hX dJ7_fill_53178_6 ?_
    refine g_icmp_ge hX 20 dJ7_fill_53178_7 (by decide) (fun c7 => ?_) (fun c7 => ?_)
    · exact hq _ _ _ dJ7_fill_53178_20 (by rfl)
    · exact absurd c7 (Int32.lt_irrefl)
end
section
/-! SnakedBus$Sharing -/
def spv (b : Mem) (q np s : Nat) : Int32 := -b (q + 1) s + sumI (fun p => if tbI (b (q + 2) s) p = true then b (q + 3) p else 0) np
def crS (sp : Nat → Int32) : Nat → Nat × Nat
  | 0 => (0, 7)
  | k + 1 => if popN (k + 1) < (crS sp k).2 ∧ sp (k + 1) < 0 then (k + 1, popN (k + 1)) else crS sp k
theorem pop_le (s : Nat) : popN s ≤ 6 := by unfold popN; omega
theorem crS_b (sp : Nat → Int32) (k : Nat) : (crS sp k).1 ≤ k ∧ (crS sp k).2 ≤ 7 := by
  induction k with
  | zero => simp [crS]
  | succ k ih =>
    simp only [crS]
    split
    · have := pop_le (k + 1); simp; omega
    · omega
def moS (b : Mem) (q np st p : Nat) : Nat → Int32
  | 0 => b (q + 3) p
  | k + 1 => if tbI (b (q + 2) (st * (k + 1))) p = true then minI (moS b q np st p k) (spv b q np (st * (k + 1))) else moS b q np st p k
def pkS (m : Mem) (q n np l : Nat) (nd : Int32) (k : Nat) : Int32 := if tbI (m (q + 2) (2 ^ l)) k = true then minI nd (moS m q np (2 ^ (l + 1)) k (2 ^ (n - (l + 1)) - 1)) else 0
def drT (m : Mem) (q n np l : Nat) (nd : Int32) (k : Nat) : Mem × Int32 := (up2 (up2 m (q + 4) (l * 6 + k) (pkS m q n np l nd k)) (q + 3) k (m (q + 3) k - pkS m q n np l nd k), nd - pkS m q n np l nd k)
def drS (b : Mem) (q n np l : Nat) : Nat → Mem × Int32
  | 0 => (b, b (q + 1) (2 ^ l))
  | k + 1 => drT (drS b q n np l k).1 q n np l (drS b q n np l k).2 k
theorem drS_c (b : Mem) (q n np l k : Nat) {j : Nat} (h : j ≠ q + 3) (h2 : j ≠ q + 4) : (drS b q n np l k).1 j = b j := by
  induction k with
  | zero => rfl
  | succ k ih => simp only [drS, drT]; rw [u2c _ _ h, u2c _ _ h2, ih]
def lk0 (b : Mem) (q o : Nat) : Mem := up2 (up2 (up2 b q 4 (b o 6)) q 5 (b o 7)) q 6 0
def lkS (m : Mem) (v : View) (q : Nat) (t : Int32) (k : Nat) : Mem := up2 (up2 m (q + 1) (2 ^ k) (needS v (baseS v k) t)) (q + 2) (2 ^ k) (nI (reachN v k))
def lkT (m : Mem) (v : View) (q : Nat) (t : Int32) (k : Nat) : Mem := if t < baseS v k then up2 (lkS m v q t k) q 6 (m q 6 ||| nI (2 ^ k)) else lkS m v q t k
def lkL (b : Mem) (q o : Nat) (t : Int32) : Nat → Mem
  | 0 => lk0 b q o
  | k + 1 => lkT (lkL b q o t k) (cv b o) q t k
def lkR (m : Mem) (v : View) (q : Nat) : Nat → Mem
  | 0 => m
  | k + 1 => up2 (lkR m v q k) (q + 3) k (humpsS v k)
def jnS (m : Mem) (q k : Nat) : Mem := up2 (up2 m (q + 1) (k + 1) (m (q + 1) ((k + 1) &&& k) + m (q + 1) ((k + 1) ^^^ ((k + 1) &&& k)))) (q + 2) (k + 1) (m (q + 2) ((k + 1) &&& k) ||| m (q + 2) ((k + 1) ^^^ ((k + 1) &&& k)))
def jn (m : Mem) (q : Nat) : Nat → Mem
  | 0 => m
  | k + 1 => jnS (jn m q k) q k
theorem lkS_c (m : Mem) (v : View) (q : Nat) (t : Int32) (k : Nat) {j : Nat} (h1 : j ≠ q + 1) (h2 : j ≠ q + 2) : lkS m v q t k j = m j := by
  unfold lkS; rw [u2c _ _ h2, u2c _ _ h1]
theorem lkT_c (m : Mem) (v : View) (q : Nat) (t : Int32) (k : Nat) {j : Nat} (h0 : j ≠ q) (h1 : j ≠ q + 1) (h2 : j ≠ q + 2) : lkT m v q t k j = m j := by
  unfold lkT
  split
  · rw [u2c _ _ h0, lkS_c _ _ _ _ _ h1 h2]
  · rw [lkS_c _ _ _ _ _ h1 h2]
theorem lkT_q (m : Mem) (v : View) (q : Nat) (t : Int32) (k : Nat) {i : Nat} (h : i ≠ 6) : lkT m v q t k q i = m q i := by
  unfold lkT
  split
  · rw [u2k _ _ h, lkS_c _ _ _ _ _ (by omega) (by omega)]
  · rw [lkS_c _ _ _ _ _ (by omega) (by omega)]
theorem lkL_c (b : Mem) (q o : Nat) (t : Int32) (k : Nat) {j : Nat} (h0 : j ≠ q) (h1 : j ≠ q + 1) (h2 : j ≠ q + 2) : lkL b q o t k j = b j := by
  induction k with
  | zero => simp only [lkL, lk0]; rw [u2c _ _ h0, u2c _ _ h0, u2c _ _ h0]
  | succ k ih => simp only [lkL]; rw [lkT_c _ _ _ _ _ h0 h1 h2, ih]
theorem lkL_q (b : Mem) (q o : Nat) (t : Int32) (k : Nat) {i : Nat} (h : i ≠ 6) : lkL b q o t k q i = lk0 b q o q i := by
  induction k with
  | zero => rfl
  | succ k ih => simp only [lkL]; rw [lkT_q _ _ _ _ _ h, ih]
theorem lkR_c (m : Mem) (v : View) (q k : Nat) {j : Nat} (h : j ≠ q + 3) : lkR m v q k j = m j := by
  induction k with
  | zero => rfl
  | succ k ih => simp only [lkR]; rw [u2c _ _ h, ih]
theorem jn_c (m : Mem) (q k : Nat) {j : Nat} (h1 : j ≠ q + 1) (h2 : j ≠ q + 2) : jn m q k j = m j := by
  induction k with
  | zero => rfl
  | succ k ih => simp only [jn, jnS]; rw [u2c _ _ h2, u2c _ _ h1, ih]
theorem lkL_cv (b : Mem) (q o : Nat) (t : Int32) (k : Nat) (hd : q + 4 < o ∨ o + 6 < q) : cv (lkL b q o t k) o = cv b o := cv_same (fun j h1 h2 => lkL_c b q o t k (by omega) (by omega) (by omega))
theorem lkR_cv (m : Mem) (v : View) (q o k : Nat) (hd : q + 4 < o ∨ o + 6 < q) : cv (lkR m v q k) o = cv m o := cv_same (fun j h1 h2 => lkR_c m v q k (by omega))
theorem xor64 {a b : Nat} (ha : a < 64) (hb : b < 64) : a ^^^ b < 64 := Nat.xor_lt_two_pow (n := 6) ha hb
def lookM (b : Mem) (q o : Nat) (t : Int32) : Mem := jn (lkR (lkL b q o t (nl (cv b o))) (cv b o) q (np (cv b o))) q (2 ^ nl (cv b o) - 1)
set_option maxRecDepth 100000 in
set_option maxHeartbeats 4000000 in
theorem c_X3_allFit {Z : Zt} {b : Mem} {q : Nat} (h_q : isShr Z q)  : Con Z yX3_allFit cX3_allFit 1 (some .boolean) 0 [.ref (zad Z q)] b (some (.int (bI (b q 7 = 0)))) (b) := by
  refine con_z (by decide) (Nat.le_of_ble_eq_true rfl) rfl (bI_n _) (fun X hX hq => ?_)
  have hX : Ok Z X cX3_allFit 1 RX3 0 := hX
  show G Z X b 0 [some (.ref (zad Z q))] []
  refine g_aload_0 hX dX3_allFit_0 ?_
  refine gt_X3_inTheWay hX h_q dX3_allFit_1 ?_
  refine g_if_ne hX 11 dX3_allFit_4 (by decide) (fun c4 => ?_) (fun c4 => ?_)
  · refine g_iconst hX 0 dX3_allFit_11 (by decide) ?_
    exact hq _ _ _ _ dX3_allFit_12 (by rfl) (by simp [bI, *])
  · refine g_iconst hX 1 dX3_allFit_7 (by decide) ?_
    refine g_goto hX 12 dX3_allFit_8 (by decide) ?_
    exact hq _ _ _ _ dX3_allFit_12 (by rfl) (by simp [bI, *])
set_option maxRecDepth 100000 in
set_option maxHeartbeats 4000000 in
theorem c_X3_blockedLines {Z : Zt} {b : Mem} {q : Nat} (h_q : isShr Z q)  : Con Z yX3_blockedLines cX3_blockedLines 1 (some .int) 0 [.ref (zad Z q)] b (some (.int (b q 7))) (b) := by
  refine con_i (by decide) (Nat.le_of_ble_eq_true rfl) rfl (fun X hX hq => ?_)
  have hX : Ok Z X cX3_blockedLines 1 RX3 0 := hX
  show G Z X b 0 [some (.ref (zad Z q))] []
  refine g_aload_0 hX dX3_blockedLines_0 ?_
  refine gt_X3_inTheWay hX h_q dX3_blockedLines_1 ?_
  exact hq _ _ _ _ dX3_blockedLines_4 (by rfl) (by rfl)
set_option maxRecDepth 100000 in
set_option maxHeartbeats 4000000 in
theorem c_X3_freeOf {Z : Zt} {b : Mem} {q : Nat} (h_q : isShr Z q) {k : Nat} (hk : k < 6) : Con Z yX3_freeOf cX3_freeOf 2 (some .int) 1 [.ref (zad Z q), .int (nI k)] b (some (.int (b (q + 3) k))) (b) := by
  refine con_i (by decide) (Nat.le_of_ble_eq_true rfl) rfl (fun X hX hq => ?_)
  have hX : Ok Z X cX3_freeOf 2 RX3 1 := hX
  show G Z X b 0 [some (.ref (zad Z q)), some (.int (nI k))] []
  refine g_aload_0 hX dX3_freeOf_0 ?_
  refine gt_X3_rooms hX h_q dX3_freeOf_1 ?_
  refine g_iload_1 hX dX3_freeOf_4 ?_
  refine g_cN2r hX mkX5_at nl_X3_67 (c_X5_at h_q.2.2.2.2.1 hk (by decide)) dX3_freeOf_5 rfl (by decide) (Nat.le_of_ble_eq_true rfl) ?_
  exact hq _ _ _ _ dX3_freeOf_8 (by rfl) (by rfl)
set_option maxRecDepth 100000 in
set_option maxHeartbeats 4000000 in
theorem c_X3_drawnBy {Z : Zt} {b : Mem} {q : Nat} (h_q : isShr Z q) {l k : Nat} (hl : l < 6) (hk : k < 6) : Con Z yX3_drawnBy cX3_drawnBy 3 (some .int) 1 [.ref (zad Z q), .int (nI l), .int (nI k)] b (some (.int (b (q + 4) (l * 6 + k)))) (b) := by
  refine con_i (by decide) (Nat.le_of_ble_eq_true rfl) rfl (fun X hX hq => ?_)
  have hX : Ok Z X cX3_drawnBy 3 RX3 1 := hX
  show G Z X b 0 [some (.ref (zad Z q)), some (.int (nI l)), some (.int (nI k))] []
  refine g_aload_0 hX dX3_drawnBy_0 ?_
  refine gt_X3_drawn hX h_q dX3_drawnBy_1 ?_
  refine g_iload_1 hX dX3_drawnBy_4 ?_
  refine g_iload_2 hX dX3_drawnBy_5 ?_
  refine g_bipush hX 6 dX3_drawnBy_6 (by decide) ?_
  refine g_cN3r hX mkX5_cell nl_X3_90 (c_X5_cell (w := 6) hk (by decide)) dX3_drawnBy_8 rfl (by decide) (Nat.le_of_ble_eq_true rfl) ?_
  refine g_cN2r hX mkX5_at nl_X3_67 (c_X5_at h_q.2.2.2.2.2 (by omega) (by decide)) dX3_drawnBy_11 rfl (by decide) (Nat.le_of_ble_eq_true rfl) ?_
  exact hq _ _ _ _ dX3_drawnBy_14 (by rfl) (by rfl)
set_option maxRecDepth 100000 in
set_option maxHeartbeats 4000000 in
theorem c_X3_spare {Z : Zt} {b : Mem} {q : Nat} (h_q : isShr Z q) {s : Nat} (hs : s < 64) {np : Nat} (hp : b q 5 = nI np) (hp6 : np ≤ 6)  : Con Z yX3_spare cX3_spare 4 (some .int) 1 [.ref (zad Z q), .int (nI s)] b (some (.int (spv b q np s))) (b) := by
  refine con_i (by decide) (Nat.le_of_ble_eq_true rfl) rfl (fun X hX hq => ?_)
  have hX : Ok Z X cX3_spare 4 RX3 1 := hX
  show G Z X b 0 [some (.ref (zad Z q)), some (.int (nI s)), none, none] []
  refine g_aload_0 hX dX3_spare_0 ?_
  refine gt_X3_needs hX h_q dX3_spare_1 ?_
  refine g_iload_1 hX dX3_spare_4 ?_
  refine g_cN2r hX mkX5_at nl_X3_67 (c_X5_at h_q.2.2.1 hs (by decide)) dX3_spare_5 rfl (by decide) (Nat.le_of_ble_eq_true rfl) ?_
  refine g_ineg hX dX3_spare_8 ?_
  refine g_istore_2 hX dX3_spare_9 rfl ?_
  refine g_iconst hX 0 dX3_spare_10 (by decide) ?_
  refine g_istore_3 hX dX3_spare_11 rfl ?_
  refine g_loop (np) (fun k => b) (fun k => [some (.ref (zad Z q)), some (.int (nI s)), some (.int (spv b q k s)), some (.int (nI k))]) rfl (by simp only [spv, sumI, Int32.add_zero] <;> rfl) (fun k hk12 ih12 => ?_) ?_
  · show G Z X (b) 12 ([some (.ref (zad Z q)), some (.int (nI s)), some (.int (spv b q k s)), some (.int (nI k))]) _
    refine g_iload_3 hX dX3_spare_12 ?_
    refine g_aload_0 hX dX3_spare_13 ?_
    refine gt_X3_pockets hX h_q dX3_spare_14 ?_
    refine g_icmp_ge hX 52 dX3_spare_17 (by decide) (fun c17 => ?_) (fun c17 => ?_)
    · exact absurd c17 (not_not_intro (by rw [hp]; exact nI_lt hk12 (by omega)))
    · refine g_aload_0 hX dX3_spare_20 ?_
      refine gt_X3_reach hX h_q dX3_spare_21 ?_
      refine g_iload_1 hX dX3_spare_24 ?_
      refine g_cN2r hX mkX5_at nl_X3_67 (c_X5_at h_q.2.2.2.1 hs (by decide)) dX3_spare_25 rfl (by decide) (Nat.le_of_ble_eq_true rfl) ?_
      refine g_iload_3 hX dX3_spare_28 ?_
      refine g_cN2r hX mkX5_hasBit nl_X3_78 (c_X5_hasBit (by omega)) dX3_spare_29 rfl (by decide) (Nat.le_of_ble_eq_true rfl) ?_
      refine g_if_eq hX 46 dX3_spare_32 (by decide) (fun c32 => ?_) (fun c32 => ?_)
      · replace c32 := bI_z.mp c32
        refine g_iinc_3 hX 1 dX3_spare_46 (by decide) rfl ?_
        refine g_goto hX 12 dX3_spare_49 (by decide) ?_
        exact g_cast ih12 rfl (by first | (simp only [nI_succ, spv, sumI, if_pos c32, Int32.add_assoc]; done) | (simp only [nI_succ, spv, sumI, if_neg c32, Int32.add_zero]; done)) rfl
      · replace c32 := bI_nz.mp c32
        refine g_iload_2 hX dX3_spare_35 ?_
        refine g_aload_0 hX dX3_spare_36 ?_
        refine gt_X3_rooms hX h_q dX3_spare_37 ?_
        refine g_iload_3 hX dX3_spare_40 ?_
        refine g_cN2r hX mkX5_at nl_X3_67 (c_X5_at h_q.2.2.2.2.1 (by omega) (by decide)) dX3_spare_41 rfl (by decide) (Nat.le_of_ble_eq_true rfl) ?_
        refine g_iadd hX dX3_spare_44 ?_
        refine g_istore_2 hX dX3_spare_45 rfl ?_
        refine g_iinc_3 hX 1 dX3_spare_46 (by decide) rfl ?_
        refine g_goto hX 12 dX3_spare_49 (by decide) ?_
        exact g_cast ih12 rfl (by first | (simp only [nI_succ, spv, sumI, if_pos c32, Int32.add_assoc]; done) | (simp only [nI_succ, spv, sumI, if_neg c32, Int32.add_zero]; done)) rfl
  · show G Z X (b) 12 ([some (.ref (zad Z q)), some (.int (nI s)), some (.int (spv b q (np) s)), some (.int (nI (np)))]) _
    refine g_iload_3 hX dX3_spare_12 ?_
    refine g_aload_0 hX dX3_spare_13 ?_
    refine gt_X3_pockets hX h_q dX3_spare_14 ?_
    refine g_icmp_ge hX 52 dX3_spare_17 (by decide) (fun c17 => ?_) (fun c17 => ?_)
    · refine g_iload_2 hX dX3_spare_52 ?_
      exact hq _ _ _ _ dX3_spare_53 (by rfl) (by rfl)
    · exact absurd c17 (by rw [hp]; exact Int32.lt_irrefl)
set_option maxRecDepth 100000 in
set_option maxHeartbeats 4000000 in
theorem c_X3_crowd {Z : Zt} {b : Mem} {q : Nat} (h_q : isShr Z q) {n np : Nat} (hn : b q 4 = nI n) (hn6 : n ≤ 6) (hp : b q 5 = nI np) (hp6 : np ≤ 6)  : Con Z yX3_crowd cX3_crowd 5 (some .int) 2 [.ref (zad Z q)] b (some (.int (nI (crS (spv b q np) (2 ^ n - 1)).1))) (b) := by
  have h64 := pow64 hn6
  have h1 := pow1 n
  refine con_i (by decide) (Nat.le_of_ble_eq_true rfl) rfl (fun X hX hq => ?_)
  have hX : Ok Z X cX3_crowd 5 RX3 2 := hX
  show G Z X b 0 [some (.ref (zad Z q)), none, none, none, none] []
  refine g_iconst hX 0 dX3_crowd_0 (by decide) ?_
  refine g_istore_1 hX dX3_crowd_1 rfl ?_
  refine g_bipush hX 7 dX3_crowd_2 (by decide) ?_
  refine g_istore_2 hX dX3_crowd_4 rfl ?_
  refine g_iconst hX 1 dX3_crowd_5 (by decide) ?_
  refine g_istore_3 hX dX3_crowd_6 rfl ?_
  refine g_loopW (lvw_c (lvw_c (lvw_c (lvw_c (lvw_n lvw_nil))))) (2 ^ n - 1) (fun k => b) (fun k => [some (.ref (zad Z q)), some (.int (nI (crS (spv b q np) k).1)), some (.int (nI (crS (spv b q np) k).2)), some (.int (nI (k + 1))), none]) rfl rfl (fun k hk7 ih7 => ?_) ?_
  · show G Z X (b) 7 ([some (.ref (zad Z q)), some (.int (nI (crS (spv b q np) k).1)), some (.int (nI (crS (spv b q np) k).2)), some (.int (nI (k + 1))), none]) _
    have hb7 := crS_b (spv b q np) k
    have hpl := pop_le (k + 1)
    have hc26 : nI (popN (k + 1)) < nI (crS (spv b q np) k).2 ↔ popN (k + 1) < (crS (spv b q np) k).2 := nI_ltI (by omega) (by omega)
    refine g_iload_3 hX dX3_crowd_7 ?_
    refine g_iconst hX 1 dX3_crowd_8 (by decide) ?_
    refine g_aload_0 hX dX3_crowd_9 ?_
    refine gt_X3_lines hX h_q dX3_crowd_10 ?_
    refine g_ishl hX dX3_crowd_13 ?_
    refine g_top (nI (2 ^ n)) (by rw [hn, one_shl (by omega)]) ?_
    refine g_icmp_ge hX 48 dX3_crowd_14 (by decide) (fun c14 => ?_) (fun c14 => ?_)
    · exact absurd c14 (not_not_intro (ltN (by omega) h64))
    · refine g_iload_3 hX dX3_crowd_17 ?_
      refine g_cS1r hX mkJ6_bitCount_0f7a4 ml_X3_94 (c_J6_bitCount_0f7a4 (by omega)) dX3_crowd_18 rfl (by decide) (Nat.le_of_ble_eq_true rfl) ?_
      refine g_istore_4 hX dX3_crowd_21 rfl ?_
      refine g_iload_4 hX dX3_crowd_23 ?_
      refine g_iload_2 hX dX3_crowd_25 ?_
      refine g_icmp_ge hX 42 dX3_crowd_26 (by decide) (fun c26 => ?_) (fun c26 => ?_)
      · refine g_iinc_3 hX 1 dX3_crowd_42 (by decide) rfl ?_
        refine g_goto hX 7 dX3_crowd_45 (by decide) ?_
        exact g_back ih7 rfl (by first | (simp only [nI_succ, crS, if_pos (And.intro (hc26.mp c26) c34)]; done) | (simp only [nI_succ, crS, if_neg (fun hh : popN (k + 1) < (crS (spv b q np) k).2 ∧ spv b q np (k + 1) < 0 => c34 hh.2)]; done) | (simp only [nI_succ, crS, if_neg (fun hh : popN (k + 1) < (crS (spv b q np) k).2 ∧ spv b q np (k + 1) < 0 => c26 (hc26.mpr hh.1))]; done)) (lvw_c (lvw_c (lvw_c (lvw_c (lvw_n lvw_nil)))))
      · refine g_aload_0 hX dX3_crowd_29 ?_
        refine g_iload_3 hX dX3_crowd_30 ?_
        refine g_cV1r hX mkX3_spare ml_X3_99 (c_X3_spare h_q (by omega) hp hp6) (h_q.obj _) dX3_crowd_31 rfl (by decide) (Nat.le_of_ble_eq_true rfl) ?_
        refine g_if_ge hX 42 dX3_crowd_34 (by decide) (fun c34 => ?_) (fun c34 => ?_)
        · refine g_iinc_3 hX 1 dX3_crowd_42 (by decide) rfl ?_
          refine g_goto hX 7 dX3_crowd_45 (by decide) ?_
          exact g_back ih7 rfl (by first | (simp only [nI_succ, crS, if_pos (And.intro (hc26.mp c26) c34)]; done) | (simp only [nI_succ, crS, if_neg (fun hh : popN (k + 1) < (crS (spv b q np) k).2 ∧ spv b q np (k + 1) < 0 => c34 hh.2)]; done) | (simp only [nI_succ, crS, if_neg (fun hh : popN (k + 1) < (crS (spv b q np) k).2 ∧ spv b q np (k + 1) < 0 => c26 (hc26.mpr hh.1))]; done)) (lvw_c (lvw_c (lvw_c (lvw_c (lvw_n lvw_nil)))))
        · refine g_iload_3 hX dX3_crowd_37 ?_
          refine g_istore_1 hX dX3_crowd_38 rfl ?_
          refine g_iload_4 hX dX3_crowd_39 ?_
          refine g_istore_2 hX dX3_crowd_41 rfl ?_
          refine g_iinc_3 hX 1 dX3_crowd_42 (by decide) rfl ?_
          refine g_goto hX 7 dX3_crowd_45 (by decide) ?_
          exact g_back ih7 rfl (by first | (simp only [nI_succ, crS, if_pos (And.intro (hc26.mp c26) c34)]; done) | (simp only [nI_succ, crS, if_neg (fun hh : popN (k + 1) < (crS (spv b q np) k).2 ∧ spv b q np (k + 1) < 0 => c34 hh.2)]; done) | (simp only [nI_succ, crS, if_neg (fun hh : popN (k + 1) < (crS (spv b q np) k).2 ∧ spv b q np (k + 1) < 0 => c26 (hc26.mpr hh.1))]; done)) (lvw_c (lvw_c (lvw_c (lvw_c (lvw_n lvw_nil)))))
  · show G Z X (b) 7 ([some (.ref (zad Z q)), some (.int (nI (crS (spv b q np) (2 ^ n - 1)).1)), some (.int (nI (crS (spv b q np) (2 ^ n - 1)).2)), some (.int (nI ((2 ^ n - 1) + 1))), none]) _
    refine g_iload_3 hX dX3_crowd_7 ?_
    refine g_iconst hX 1 dX3_crowd_8 (by decide) ?_
    refine g_aload_0 hX dX3_crowd_9 ?_
    refine gt_X3_lines hX h_q dX3_crowd_10 ?_
    refine g_ishl hX dX3_crowd_13 ?_
    refine g_top (nI (2 ^ n)) (by rw [hn, one_shl (by omega)]) ?_
    refine g_icmp_ge hX 48 dX3_crowd_14 (by decide) (fun c14 => ?_) (fun c14 => ?_)
    · refine g_iload_1 hX dX3_crowd_48 ?_
      exact hq _ _ _ _ dX3_crowd_49 (by rfl) (by rfl)
    · exact absurd c14 (by rw [Nat.sub_add_cancel h1]; exact Int32.lt_irrefl)
theorem nI0 {n : Nat} (h : n < 2 ^ 31) : nI n = 0 ↔ n = 0 := nI_eq (b := 0) h (by decide)
theorem crS_lt (sp : Nat → Int32) (k : Nat) (h : k ≤ 64) : (crS sp k).1 < 2 ^ 31 := by have := crS_b sp k; omega
set_option maxRecDepth 100000 in
set_option maxHeartbeats 4000000 in
theorem c_X3_fits {Z : Zt} {b : Mem} {q : Nat} (h_q : isShr Z q) {n np : Nat} (hn : b q 4 = nI n) (hn6 : n ≤ 6) (hp : b q 5 = nI np) (hp6 : np ≤ 6)  : Con Z yX3_fits cX3_fits 1 (some .boolean) 3 [.ref (zad Z q)] b (some (.int (bI (b q 6 = 0 ∧ (crS (spv b q np) (2 ^ n - 1)).1 = 0)))) (b) := by
  have h64 := pow64 hn6
  have h1 := pow1 n
  have hz := nI0 (crS_lt (spv b q np) (2 ^ n - 1) (by omega))
  refine con_z (by decide) (Nat.le_of_ble_eq_true rfl) rfl (bI_n _) (fun X hX hq => ?_)
  have hX : Ok Z X cX3_fits 1 RX3 3 := hX
  show G Z X b 0 [some (.ref (zad Z q))] []
  refine g_aload_0 hX dX3_fits_0 ?_
  refine gt_X3_tooLong hX h_q dX3_fits_1 ?_
  refine g_if_ne hX 18 dX3_fits_4 (by decide) (fun c4 => ?_) (fun c4 => ?_)
  · try rw [hz] at c11
    refine g_iconst hX 0 dX3_fits_18 (by decide) ?_
    exact hq _ _ _ _ dX3_fits_19 (by rfl) (by clear hq hX; unfold bI; split <;> simp_all)
  · refine g_aload_0 hX dX3_fits_7 ?_
    refine g_cV0r hX mkX3_crowd ml_X3_71 (c_X3_crowd h_q hn hn6 hp hp6) (h_q.obj _) dX3_fits_8 rfl (by decide) (Nat.le_of_ble_eq_true rfl) ?_
    refine g_if_ne hX 18 dX3_fits_11 (by decide) (fun c11 => ?_) (fun c11 => ?_)
    · try rw [hz] at c11
      refine g_iconst hX 0 dX3_fits_18 (by decide) ?_
      exact hq _ _ _ _ dX3_fits_19 (by rfl) (by clear hq hX; unfold bI; split <;> simp_all)
    · rw [hz] at c11
      refine g_iconst hX 1 dX3_fits_14 (by decide) ?_
      refine g_goto hX 19 dX3_fits_15 (by decide) ?_
      exact hq _ _ _ _ dX3_fits_19 (by rfl) (by clear hq hX; unfold bI; split <;> simp_all)
set_option maxRecDepth 100000 in
set_option maxHeartbeats 4000000 in
theorem c_X3_findBlocked {Z : Zt} {b : Mem} {q : Nat} (h_q : isShr Z q) {n np : Nat} (hn : b q 4 = nI n) (hn6 : n ≤ 6) (hp : b q 5 = nI np) (hp6 : np ≤ 6)  : Con Z yX3_findBlocked cX3_findBlocked 1 none 3 [.ref (zad Z q)] b none (up2 b q 7 (if b q 6 = 0 then nI (crS (spv b q np) (2 ^ n - 1)).1 else b q 6)) := by
  refine con_v (by decide) (Nat.le_of_ble_eq_true rfl) rfl (fun X hX hq => ?_)
  have hX : Ok Z X cX3_findBlocked 1 RX3 3 := hX
  show G Z X b 0 [some (.ref (zad Z q))] []
  refine g_aload_0 hX dX3_findBlocked_0 ?_
  refine g_aload_0 hX dX3_findBlocked_1 ?_
  refine gt_X3_tooLong hX h_q dX3_findBlocked_2 ?_
  refine g_if_eq hX 15 dX3_findBlocked_5 (by decide) (fun c5 => ?_) (fun c5 => ?_)
  · refine g_aload_0 hX dX3_findBlocked_15 ?_
    refine g_cV0r hX mkX3_crowd ml_X3_71 (c_X3_crowd h_q hn hn6 hp hp6) (h_q.obj _) dX3_findBlocked_16 rfl (by decide) (Nat.le_of_ble_eq_true rfl) ?_
    refine pt_X3_inTheWay hX h_q dX3_findBlocked_19 ?_
    exact hq _ _ _ dX3_findBlocked_22 (by first | rw [if_pos c5] | rw [if_neg c5])
  · refine g_aload_0 hX dX3_findBlocked_8 ?_
    refine gt_X3_tooLong hX h_q dX3_findBlocked_9 ?_
    refine g_goto hX 19 dX3_findBlocked_12 (by decide) ?_
    refine pt_X3_inTheWay hX h_q dX3_findBlocked_19 ?_
    exact hq _ _ _ dX3_findBlocked_22 (by first | rw [if_pos c5] | rw [if_neg c5])
set_option maxRecDepth 100000 in
set_option maxHeartbeats 4000000 in
theorem c_X3_fitsWithOneMore {Z : Zt} {b : Mem} {q : Nat} (h_q : isShr Z q) {p : Nat} (hk : p < 6) {n np : Nat} (hn : b q 4 = nI n) (hn6 : n ≤ 6) (hp : b q 5 = nI np) (hp6 : np ≤ 6)  : Con Z yX3_fitsWithOneMore cX3_fitsWithOneMore 4 (some .boolean) 4 [.ref (zad Z q), .int (nI p)] b (some (.int (bI (b q 6 = 0 ∧ (crS (spv (up2 b (q + 3) p (b (q + 3) p + 1)) q np) (2 ^ n - 1)).1 = 0)))) (b) := by
  refine con_z (by decide) (Nat.le_of_ble_eq_true rfl) rfl (bI_n _) (fun X hX hq => ?_)
  have hX : Ok Z X cX3_fitsWithOneMore 4 RX3 4 := hX
  show G Z X b 0 [some (.ref (zad Z q)), some (.int (nI p)), none, none] []
  refine g_aload_0 hX dX3_fitsWithOneMore_0 ?_
  refine gt_X3_rooms hX h_q dX3_fitsWithOneMore_1 ?_
  refine g_iload_1 hX dX3_fitsWithOneMore_4 ?_
  refine g_cN2r hX mkX5_at nl_X3_67 (c_X5_at h_q.2.2.2.2.1 hk (by decide)) dX3_fitsWithOneMore_5 rfl (by decide) (Nat.le_of_ble_eq_true rfl) ?_
  refine g_istore_2 hX dX3_fitsWithOneMore_8 rfl ?_
  refine g_aload_0 hX dX3_fitsWithOneMore_9 ?_
  refine gt_X3_rooms hX h_q dX3_fitsWithOneMore_10 ?_
  refine g_iload_1 hX dX3_fitsWithOneMore_13 ?_
  refine g_iload_2 hX dX3_fitsWithOneMore_14 ?_
  refine g_iconst hX 1 dX3_fitsWithOneMore_15 (by decide) ?_
  refine g_iadd hX dX3_fitsWithOneMore_16 ?_
  refine g_cN3v hX mkX5_put nl_X3_54 (c_X5_put h_q.2.2.2.2.1 hk (by decide)) dX3_fitsWithOneMore_17 rfl (by decide) (Nat.le_of_ble_eq_true rfl) ?_
  refine g_aload_0 hX dX3_fitsWithOneMore_20 ?_
  refine g_cV0r hX mkX3_fits ml_X3_74 (c_X3_fits h_q (n := n) (np := np) (by rw [u2c _ _ (by omega)]; exact hn) hn6 (by rw [u2c _ _ (by omega)]; exact hp) hp6) (h_q.obj _) dX3_fitsWithOneMore_21 rfl (by decide) (Nat.le_of_ble_eq_true rfl) ?_
  refine g_istore_3 hX dX3_fitsWithOneMore_24 rfl ?_
  refine g_aload_0 hX dX3_fitsWithOneMore_25 ?_
  refine gt_X3_rooms hX h_q dX3_fitsWithOneMore_26 ?_
  refine g_iload_1 hX dX3_fitsWithOneMore_29 ?_
  refine g_iload_2 hX dX3_fitsWithOneMore_30 ?_
  refine g_cN3v hX mkX5_put nl_X3_54 (c_X5_put h_q.2.2.2.2.1 hk (by decide)) dX3_fitsWithOneMore_31 rfl (by decide) (Nat.le_of_ble_eq_true rfl) ?_
  refine g_iload_3 hX dX3_fitsWithOneMore_34 ?_
  exact hq _ _ _ _ dX3_fitsWithOneMore_35 (up2_id _ _ _ _) (by rw [u2c _ _ (show q ≠ q + 3 by omega)])
set_option maxRecDepth 100000 in
set_option maxHeartbeats 4000000 in
theorem c_X3_mostFor {Z : Zt} {b : Mem} {q : Nat} (h_q : isShr Z q) {l p : Nat} (hk : p < 6) {n np : Nat} (hn : b q 4 = nI n) (hn6 : n ≤ 6) (hp : b q 5 = nI np) (hp6 : np ≤ 6) (hl : l < n) : Con Z yX3_mostFor cX3_mostFor 6 (some .int) 2 [.ref (zad Z q), .int (nI l), .int (nI p)] b (some (.int (moS b q np (2 ^ (l + 1)) p (2 ^ (n - (l + 1)) - 1)))) (b) := by
  have h64 := pow64 hn6
  have h1 := pow1 n
  have hpw : 2 ^ (l + 1) * 2 ^ (n - (l + 1)) = 2 ^ n := by rw [← Nat.pow_add]; congr 1; omega
  have h1b := pow1 (n - (l + 1))
  have hmul : ∀ k, k < 2 ^ (n - (l + 1)) - 1 → 2 ^ (l + 1) * (k + 1) < 2 ^ n := fun k hk0 => by rw [← hpw]; exact Nat.mul_lt_mul_of_pos_left (by omega) (pow1 _)
  have h2l : (2 : Int32) <<< (nI l &&& 31) = nI (2 ^ (l + 1)) := (by decide +kernel : ∀ l, l < 6 → (2 : Int32) <<< (nI l &&& 31) = nI (2 ^ (l + 1))) l (by omega)
  refine con_i (by decide) (Nat.le_of_ble_eq_true rfl) rfl (fun X hX hq => ?_)
  have hX : Ok Z X cX3_mostFor 6 RX3 2 := hX
  show G Z X b 0 [some (.ref (zad Z q)), some (.int (nI l)), some (.int (nI p)), none, none, none] []
  refine g_aload_0 hX dX3_mostFor_0 ?_
  refine gt_X3_rooms hX h_q dX3_mostFor_1 ?_
  refine g_iload_2 hX dX3_mostFor_4 ?_
  refine g_cN2r hX mkX5_at nl_X3_67 (c_X5_at h_q.2.2.2.2.1 hk (by decide)) dX3_mostFor_5 rfl (by decide) (Nat.le_of_ble_eq_true rfl) ?_
  refine g_istore_3 hX dX3_mostFor_8 rfl ?_
  refine g_iconst hX 2 dX3_mostFor_9 (by decide) ?_
  refine g_iload_1 hX dX3_mostFor_10 ?_
  refine g_ishl hX dX3_mostFor_11 ?_
  refine g_top _ h2l ?_
  refine g_istore_4 hX dX3_mostFor_12 rfl ?_
  refine g_iload_4 hX dX3_mostFor_14 ?_
  refine g_istore_5 hX dX3_mostFor_16 rfl ?_
  refine g_loop (2 ^ (n - (l + 1)) - 1) (fun k => b) (fun k => [some (.ref (zad Z q)), some (.int (nI l)), some (.int (nI p)), some (.int (moS b q np (2 ^ (l + 1)) p k)), some (.int (nI (2 ^ (l + 1)))), some (.int (nI (2 ^ (l + 1) * (k + 1))))]) rfl (by simp only [Nat.zero_add, Nat.mul_one] <;> rfl) (fun k hk18 ih18 => ?_) ?_
  · show G Z X (b) 18 ([some (.ref (zad Z q)), some (.int (nI l)), some (.int (nI p)), some (.int (moS b q np (2 ^ (l + 1)) p k)), some (.int (nI (2 ^ (l + 1)))), some (.int (nI (2 ^ (l + 1) * (k + 1))))]) _
    have hm := hmul k hk18
    have hst : nI (2 ^ (l + 1) * (k + 1)) + nI (2 ^ (l + 1)) = nI (2 ^ (l + 1) * (k + 1 + 1)) := by rw [nI_add]; rfl
    refine g_iload_5 hX dX3_mostFor_18 ?_
    refine g_iconst hX 1 dX3_mostFor_20 (by decide) ?_
    refine g_aload_0 hX dX3_mostFor_21 ?_
    refine gt_X3_lines hX h_q dX3_mostFor_22 ?_
    refine g_ishl hX dX3_mostFor_25 ?_
    refine g_top (nI (2 ^ n)) (by rw [hn, one_shl (by omega)]) ?_
    refine g_icmp_ge hX 66 dX3_mostFor_26 (by decide) (fun c26 => ?_) (fun c26 => ?_)
    · exact absurd c26 (not_not_intro (ltN (hmul k hk18) h64))
    · refine g_aload_0 hX dX3_mostFor_29 ?_
      refine gt_X3_reach hX h_q dX3_mostFor_30 ?_
      refine g_iload_5 hX dX3_mostFor_33 ?_
      refine g_cN2r hX mkX5_at nl_X3_67 (c_X5_at h_q.2.2.2.1 (by omega) (by decide)) dX3_mostFor_35 rfl (by decide) (Nat.le_of_ble_eq_true rfl) ?_
      refine g_iload_2 hX dX3_mostFor_38 ?_
      refine g_cN2r hX mkX5_hasBit nl_X3_78 (c_X5_hasBit (by omega)) dX3_mostFor_39 rfl (by decide) (Nat.le_of_ble_eq_true rfl) ?_
      refine g_if_eq hX 56 dX3_mostFor_42 (by decide) (fun c42 => ?_) (fun c42 => ?_)
      · replace c42 := bI_z.mp c42
        refine g_iload_5 hX dX3_mostFor_56 ?_
        refine g_iload_4 hX dX3_mostFor_58 ?_
        refine g_iadd hX dX3_mostFor_60 ?_
        refine g_istore_5 hX dX3_mostFor_61 rfl ?_
        refine g_goto hX 18 dX3_mostFor_63 (by decide) ?_
        exact g_cast ih18 rfl (by first | (simp only [moS, if_pos c42, minI, hst]; done) | (simp only [moS, if_neg c42, hst]; done)) rfl
      · replace c42 := bI_nz.mp c42
        refine g_iload_3 hX dX3_mostFor_45 ?_
        refine g_aload_0 hX dX3_mostFor_46 ?_
        refine g_iload_5 hX dX3_mostFor_47 ?_
        refine g_cV1r hX mkX3_spare ml_X3_99 (c_X3_spare h_q (by omega) hp hp6) (h_q.obj _) dX3_mostFor_49 rfl (by decide) (Nat.le_of_ble_eq_true rfl) ?_
        refine g_min hX ml_X3_85 mm_min_s mm_ini mm_min_c dX3_mostFor_52 rfl (by decide) (Nat.le_of_ble_eq_true rfl) ?_
        refine g_istore_3 hX dX3_mostFor_55 rfl ?_
        refine g_iload_5 hX dX3_mostFor_56 ?_
        refine g_iload_4 hX dX3_mostFor_58 ?_
        refine g_iadd hX dX3_mostFor_60 ?_
        refine g_istore_5 hX dX3_mostFor_61 rfl ?_
        refine g_goto hX 18 dX3_mostFor_63 (by decide) ?_
        exact g_cast ih18 rfl (by first | (simp only [moS, if_pos c42, minI, hst]; done) | (simp only [moS, if_neg c42, hst]; done)) rfl
  · show G Z X (b) 18 ([some (.ref (zad Z q)), some (.int (nI l)), some (.int (nI p)), some (.int (moS b q np (2 ^ (l + 1)) p (2 ^ (n - (l + 1)) - 1))), some (.int (nI (2 ^ (l + 1)))), some (.int (nI (2 ^ (l + 1) * ((2 ^ (n - (l + 1)) - 1) + 1))))]) _
    refine g_iload_5 hX dX3_mostFor_18 ?_
    refine g_iconst hX 1 dX3_mostFor_20 (by decide) ?_
    refine g_aload_0 hX dX3_mostFor_21 ?_
    refine gt_X3_lines hX h_q dX3_mostFor_22 ?_
    refine g_ishl hX dX3_mostFor_25 ?_
    refine g_top (nI (2 ^ n)) (by rw [hn, one_shl (by omega)]) ?_
    refine g_icmp_ge hX 66 dX3_mostFor_26 (by decide) (fun c26 => ?_) (fun c26 => ?_)
    · refine g_iload_3 hX dX3_mostFor_66 ?_
      exact hq _ _ _ _ dX3_mostFor_67 (by rfl) (by rfl)
    · exact absurd c26 (by rw [Nat.sub_add_cancel h1b, hpw]; exact Int32.lt_irrefl)
set_option maxRecDepth 100000 in
set_option maxHeartbeats 4000000 in
theorem c_X3_drawLine {Z : Zt} {b : Mem} {q : Nat} (h_q : isShr Z q) {l : Nat} {n np : Nat} (hn : b q 4 = nI n) (hn6 : n ≤ 6) (hp : b q 5 = nI np) (hp6 : np ≤ 6) (hl : l < n) : Con Z yX3_drawLine cX3_drawLine 6 none 3 [.ref (zad Z q), .int (nI l)] b none ((drS b q n np l np).1) := by
  have h2l : 2 ^ l < 64 := Nat.lt_of_lt_of_le (Nat.pow_lt_pow_right (by omega) hl) (pow64 hn6)
  refine con_v (by decide) (Nat.le_of_ble_eq_true rfl) rfl (fun X hX hq => ?_)
  have hX : Ok Z X cX3_drawLine 6 RX3 3 := hX
  show G Z X b 0 [some (.ref (zad Z q)), some (.int (nI l)), none, none, none, none] []
  refine g_aload_0 hX dX3_drawLine_0 ?_
  refine gt_X3_needs hX h_q dX3_drawLine_1 ?_
  refine g_iconst hX 1 dX3_drawLine_4 (by decide) ?_
  refine g_iload_1 hX dX3_drawLine_5 ?_
  refine g_ishl hX dX3_drawLine_6 ?_
  refine g_top _ (one_shl (by omega)) ?_
  refine g_cN2r hX mkX5_at nl_X3_67 (c_X5_at h_q.2.2.1 h2l (by decide)) dX3_drawLine_7 rfl (by decide) (Nat.le_of_ble_eq_true rfl) ?_
  refine g_istore_2 hX dX3_drawLine_10 rfl ?_
  refine g_iconst hX 0 dX3_drawLine_11 (by decide) ?_
  refine g_istore_3 hX dX3_drawLine_12 rfl ?_
  refine g_loopW (lvw_c (lvw_c (lvw_c (lvw_c (lvw_n (lvw_n lvw_nil)))))) (np) (fun k => (drS b q n np l k).1) (fun k => [some (.ref (zad Z q)), some (.int (nI l)), some (.int (drS b q n np l k).2), some (.int (nI k)), none, none]) rfl rfl (fun k hk13 ih13 => ?_) ?_
  · show G Z X ((drS b q n np l k).1) 13 ([some (.ref (zad Z q)), some (.int (nI l)), some (.int (drS b q n np l k).2), some (.int (nI k)), none, none]) _
    have hq4 : (drS b q n np l k).1 q 4 = nI n := by rw [drS_c _ _ _ _ _ _ (by omega) (by omega)]; exact hn
    have hq5 : (drS b q n np l k).1 q 5 = nI np := by rw [drS_c _ _ _ _ _ _ (by omega) (by omega)]; exact hp
    refine g_iload_3 hX dX3_drawLine_13 ?_
    refine g_aload_0 hX dX3_drawLine_14 ?_
    refine gt_X3_pockets hX h_q dX3_drawLine_15 ?_
    refine g_icmp_ge hX 104 dX3_drawLine_18 (by decide) (fun c18 => ?_) (fun c18 => ?_)
    · exact absurd c18 (not_not_intro (by rw [hq5]; exact nI_lt hk13 (by omega)))
    · refine g_aload_0 hX dX3_drawLine_21 ?_
      refine gt_X3_reach hX h_q dX3_drawLine_22 ?_
      refine g_iconst hX 1 dX3_drawLine_25 (by decide) ?_
      refine g_iload_1 hX dX3_drawLine_26 ?_
      refine g_ishl hX dX3_drawLine_27 ?_
      refine g_top _ (one_shl (by omega)) ?_
      refine g_cN2r hX mkX5_at nl_X3_67 (c_X5_at h_q.2.2.2.1 h2l (by decide)) dX3_drawLine_28 rfl (by decide) (Nat.le_of_ble_eq_true rfl) ?_
      refine g_iload_3 hX dX3_drawLine_31 ?_
      refine g_cN2r hX mkX5_hasBit nl_X3_78 (c_X5_hasBit (by omega)) dX3_drawLine_32 rfl (by decide) (Nat.le_of_ble_eq_true rfl) ?_
      refine g_istore_4 hX dX3_drawLine_35 rfl ?_
      refine g_iload_4 hX dX3_drawLine_37 ?_
      refine g_if_eq hX 55 dX3_drawLine_39 (by decide) (fun c39 => ?_) (fun c39 => ?_)
      · replace c39 := bI_z.mp c39
        refine g_iconst hX 0 dX3_drawLine_55 (by decide) ?_
        refine g_istore_5 hX dX3_drawLine_56 rfl ?_
        refine g_aload_0 hX dX3_drawLine_58 ?_
        refine gt_X3_drawn hX h_q dX3_drawLine_59 ?_
        refine g_iload_1 hX dX3_drawLine_62 ?_
        refine g_iload_3 hX dX3_drawLine_63 ?_
        refine g_bipush hX 6 dX3_drawLine_64 (by decide) ?_
        refine g_cN3r hX mkX5_cell nl_X3_90 (c_X5_cell (w := 6) (by omega) (by decide)) dX3_drawLine_66 rfl (by decide) (Nat.le_of_ble_eq_true rfl) ?_
        refine g_iload_5 hX dX3_drawLine_69 ?_
        refine g_cN3v hX mkX5_put nl_X3_54 (c_X5_put h_q.2.2.2.2.2 (by omega) (by decide)) dX3_drawLine_71 rfl (by decide) (Nat.le_of_ble_eq_true rfl) ?_
        refine g_aload_0 hX dX3_drawLine_74 ?_
        refine gt_X3_rooms hX h_q dX3_drawLine_75 ?_
        refine g_iload_3 hX dX3_drawLine_78 ?_
        refine g_aload_0 hX dX3_drawLine_79 ?_
        refine gt_X3_rooms hX h_q dX3_drawLine_80 ?_
        refine g_iload_3 hX dX3_drawLine_83 ?_
        refine g_cN2r hX mkX5_at nl_X3_67 (c_X5_at h_q.2.2.2.2.1 (by omega) (by decide)) dX3_drawLine_84 rfl (by decide) (Nat.le_of_ble_eq_true rfl) ?_
        refine g_top ((drS b q n np l k).1 (q + 3) k) (by rw [u2c _ _ (by omega)]) ?_
        refine g_iload_5 hX dX3_drawLine_87 ?_
        refine g_isub hX dX3_drawLine_89 ?_
        refine g_cN3v hX mkX5_put nl_X3_54 (c_X5_put h_q.2.2.2.2.1 (by omega) (by decide)) dX3_drawLine_90 rfl (by decide) (Nat.le_of_ble_eq_true rfl) ?_
        refine g_iload_2 hX dX3_drawLine_93 ?_
        refine g_iload_5 hX dX3_drawLine_94 ?_
        refine g_isub hX dX3_drawLine_96 ?_
        refine g_istore_2 hX dX3_drawLine_97 rfl ?_
        refine g_iinc_3 hX 1 dX3_drawLine_98 (by decide) rfl ?_
        refine g_goto hX 13 dX3_drawLine_101 (by decide) ?_
        exact g_back ih13 (by first | (simp only [drS, drT, pkS, if_pos c39, minI]; done) | (simp only [drS, drT, pkS, if_neg c39]; done)) (by first | (simp only [nI_succ, drS, drT, pkS, if_pos c39, minI]; done) | (simp only [nI_succ, drS, drT, pkS, if_neg c39]; done)) (lvw_c (lvw_c (lvw_c (lvw_c (lvw_n (lvw_n lvw_nil))))))
      · replace c39 := bI_nz.mp c39
        refine g_iload_2 hX dX3_drawLine_42 ?_
        refine g_aload_0 hX dX3_drawLine_43 ?_
        refine g_iload_1 hX dX3_drawLine_44 ?_
        refine g_iload_3 hX dX3_drawLine_45 ?_
        refine g_cV2r hX mkX3_mostFor ml_X3_82 (c_X3_mostFor h_q (by omega) hq4 hn6 hq5 hp6 hl) (h_q.obj _) dX3_drawLine_46 rfl (by decide) (Nat.le_of_ble_eq_true rfl) ?_
        refine g_min hX ml_X3_85 mm_min_s mm_ini mm_min_c dX3_drawLine_49 rfl (by decide) (Nat.le_of_ble_eq_true rfl) ?_
        refine g_goto hX 56 dX3_drawLine_52 (by decide) ?_
        refine g_istore_5 hX dX3_drawLine_56 rfl ?_
        refine g_aload_0 hX dX3_drawLine_58 ?_
        refine gt_X3_drawn hX h_q dX3_drawLine_59 ?_
        refine g_iload_1 hX dX3_drawLine_62 ?_
        refine g_iload_3 hX dX3_drawLine_63 ?_
        refine g_bipush hX 6 dX3_drawLine_64 (by decide) ?_
        refine g_cN3r hX mkX5_cell nl_X3_90 (c_X5_cell (w := 6) (by omega) (by decide)) dX3_drawLine_66 rfl (by decide) (Nat.le_of_ble_eq_true rfl) ?_
        refine g_iload_5 hX dX3_drawLine_69 ?_
        refine g_cN3v hX mkX5_put nl_X3_54 (c_X5_put h_q.2.2.2.2.2 (by omega) (by decide)) dX3_drawLine_71 rfl (by decide) (Nat.le_of_ble_eq_true rfl) ?_
        refine g_aload_0 hX dX3_drawLine_74 ?_
        refine gt_X3_rooms hX h_q dX3_drawLine_75 ?_
        refine g_iload_3 hX dX3_drawLine_78 ?_
        refine g_aload_0 hX dX3_drawLine_79 ?_
        refine gt_X3_rooms hX h_q dX3_drawLine_80 ?_
        refine g_iload_3 hX dX3_drawLine_83 ?_
        refine g_cN2r hX mkX5_at nl_X3_67 (c_X5_at h_q.2.2.2.2.1 (by omega) (by decide)) dX3_drawLine_84 rfl (by decide) (Nat.le_of_ble_eq_true rfl) ?_
        refine g_top ((drS b q n np l k).1 (q + 3) k) (by rw [u2c _ _ (by omega)]) ?_
        refine g_iload_5 hX dX3_drawLine_87 ?_
        refine g_isub hX dX3_drawLine_89 ?_
        refine g_cN3v hX mkX5_put nl_X3_54 (c_X5_put h_q.2.2.2.2.1 (by omega) (by decide)) dX3_drawLine_90 rfl (by decide) (Nat.le_of_ble_eq_true rfl) ?_
        refine g_iload_2 hX dX3_drawLine_93 ?_
        refine g_iload_5 hX dX3_drawLine_94 ?_
        refine g_isub hX dX3_drawLine_96 ?_
        refine g_istore_2 hX dX3_drawLine_97 rfl ?_
        refine g_iinc_3 hX 1 dX3_drawLine_98 (by decide) rfl ?_
        refine g_goto hX 13 dX3_drawLine_101 (by decide) ?_
        exact g_back ih13 (by first | (simp only [drS, drT, pkS, if_pos c39, minI]; done) | (simp only [drS, drT, pkS, if_neg c39]; done)) (by first | (simp only [nI_succ, drS, drT, pkS, if_pos c39, minI]; done) | (simp only [nI_succ, drS, drT, pkS, if_neg c39]; done)) (lvw_c (lvw_c (lvw_c (lvw_c (lvw_n (lvw_n lvw_nil))))))
  · show G Z X ((drS b q n np l (np)).1) 13 ([some (.ref (zad Z q)), some (.int (nI l)), some (.int (drS b q n np l (np)).2), some (.int (nI (np))), none, none]) _
    refine g_iload_3 hX dX3_drawLine_13 ?_
    refine g_aload_0 hX dX3_drawLine_14 ?_
    refine gt_X3_pockets hX h_q dX3_drawLine_15 ?_
    refine g_icmp_ge hX 104 dX3_drawLine_18 (by decide) (fun c18 => ?_) (fun c18 => ?_)
    · exact hq _ _ _ dX3_drawLine_104 (by rfl)
    · exact absurd c18 (by rw [drS_c _ _ _ _ _ _ (by omega) (by omega), hp]; exact Int32.lt_irrefl)
set_option maxRecDepth 100000 in
set_option maxHeartbeats 4000000 in
theorem c_X3_joinSets {Z : Zt} {b : Mem} {q : Nat} (h_q : isShr Z q) {n : Nat} (hn : b q 4 = nI n) (hn6 : n ≤ 6) : Con Z yX3_joinSets cX3_joinSets 4 none 1 [.ref (zad Z q)] b none (jn b q (2 ^ n - 1)) := by
  have h64 := pow64 hn6
  have h1 := pow1 n
  refine con_v (by decide) (Nat.le_of_ble_eq_true rfl) rfl (fun X hX hq => ?_)
  have hX : Ok Z X cX3_joinSets 4 RX3 1 := hX
  show G Z X b 0 [some (.ref (zad Z q)), none, none, none] []
  refine g_iconst hX 1 dX3_joinSets_0 (by decide) ?_
  refine g_istore_1 hX dX3_joinSets_1 rfl ?_
  refine g_loopW (lvw_c (lvw_c (lvw_n (lvw_n lvw_nil)))) (2 ^ n - 1) (fun k => jn b q k) (fun k => [some (.ref (zad Z q)), some (.int (nI (k + 1))), none, none]) rfl rfl (fun k hk2 ih2 => ?_) ?_
  · show G Z X (jn b q k) 2 ([some (.ref (zad Z q)), some (.int (nI (k + 1))), none, none]) _
    have ha : (k + 1) &&& k < 64 := Nat.lt_of_le_of_lt Nat.and_le_left (by omega)
    have hx : (k + 1) ^^^ ((k + 1) &&& k) < 64 := xor64 (by omega) ha
    refine g_iload_1 hX dX3_joinSets_2 ?_
    refine g_iconst hX 1 dX3_joinSets_3 (by decide) ?_
    refine g_aload_0 hX dX3_joinSets_4 ?_
    refine gt_X3_lines hX h_q dX3_joinSets_5 ?_
    refine g_ishl hX dX3_joinSets_8 ?_
    refine g_top (nI (2 ^ n)) (by rw [jn_c _ _ _ (by omega) (by omega), hn, one_shl (by omega)]) ?_
    refine g_icmp_ge hX 78 dX3_joinSets_9 (by decide) (fun c9 => ?_) (fun c9 => ?_)
    · exact absurd c9 (not_not_intro (ltN (by omega) h64))
    · refine g_iload_1 hX dX3_joinSets_12 ?_
      refine g_iload_1 hX dX3_joinSets_13 ?_
      refine g_iconst hX 1 dX3_joinSets_14 (by decide) ?_
      refine g_isub hX dX3_joinSets_15 ?_
      refine g_iand hX dX3_joinSets_16 ?_
      refine g_top (nI ((k + 1) &&& k)) (by rw [nI_pred, nx_and]) ?_
      refine g_istore_2 hX dX3_joinSets_17 rfl ?_
      refine g_iload_1 hX dX3_joinSets_18 ?_
      refine g_iload_2 hX dX3_joinSets_19 ?_
      refine g_ixor hX dX3_joinSets_20 ?_
      refine g_top (nI ((k + 1) ^^^ ((k + 1) &&& k))) (by rw [nx_xor]) ?_
      refine g_istore_3 hX dX3_joinSets_21 rfl ?_
      refine g_aload_0 hX dX3_joinSets_22 ?_
      refine gt_X3_needs hX h_q dX3_joinSets_23 ?_
      refine g_iload_1 hX dX3_joinSets_26 ?_
      refine g_aload_0 hX dX3_joinSets_27 ?_
      refine gt_X3_needs hX h_q dX3_joinSets_28 ?_
      refine g_iload_2 hX dX3_joinSets_31 ?_
      refine g_cN2r hX mkX5_at nl_X3_67 (c_X5_at h_q.2.2.1 ha (by decide)) dX3_joinSets_32 rfl (by decide) (Nat.le_of_ble_eq_true rfl) ?_
      refine g_aload_0 hX dX3_joinSets_35 ?_
      refine gt_X3_needs hX h_q dX3_joinSets_36 ?_
      refine g_iload_3 hX dX3_joinSets_39 ?_
      refine g_cN2r hX mkX5_at nl_X3_67 (c_X5_at h_q.2.2.1 hx (by decide)) dX3_joinSets_40 rfl (by decide) (Nat.le_of_ble_eq_true rfl) ?_
      refine g_iadd hX dX3_joinSets_43 ?_
      refine g_cN3v hX mkX5_put nl_X3_54 (c_X5_put h_q.2.2.1 (by omega) (by decide)) dX3_joinSets_44 rfl (by decide) (Nat.le_of_ble_eq_true rfl) ?_
      refine g_aload_0 hX dX3_joinSets_47 ?_
      refine gt_X3_reach hX h_q dX3_joinSets_48 ?_
      refine g_iload_1 hX dX3_joinSets_51 ?_
      refine g_aload_0 hX dX3_joinSets_52 ?_
      refine gt_X3_reach hX h_q dX3_joinSets_53 ?_
      refine g_iload_2 hX dX3_joinSets_56 ?_
      refine g_cN2r hX mkX5_at nl_X3_67 (c_X5_at h_q.2.2.2.1 ha (by decide)) dX3_joinSets_57 rfl (by decide) (Nat.le_of_ble_eq_true rfl) ?_
      refine g_top (jn b q k (q + 2) ((k + 1) &&& k)) (by rw [u2c _ _ (by omega)]) ?_
      refine g_aload_0 hX dX3_joinSets_60 ?_
      refine gt_X3_reach hX h_q dX3_joinSets_61 ?_
      refine g_iload_3 hX dX3_joinSets_64 ?_
      refine g_cN2r hX mkX5_at nl_X3_67 (c_X5_at h_q.2.2.2.1 hx (by decide)) dX3_joinSets_65 rfl (by decide) (Nat.le_of_ble_eq_true rfl) ?_
      refine g_top (jn b q k (q + 2) ((k + 1) ^^^ ((k + 1) &&& k))) (by rw [u2c _ _ (by omega)]) ?_
      refine g_ior hX dX3_joinSets_68 ?_
      refine g_cN3v hX mkX5_put nl_X3_54 (c_X5_put h_q.2.2.2.1 (by omega) (by decide)) dX3_joinSets_69 rfl (by decide) (Nat.le_of_ble_eq_true rfl) ?_
      refine g_iinc_1 hX 1 dX3_joinSets_72 (by decide) rfl ?_
      refine g_goto hX 2 dX3_joinSets_75 (by decide) ?_
      exact g_back ih2 (by simp only [jn, jnS]) (by simp only [nI_succ]) (lvw_c (lvw_c (lvw_n (lvw_n lvw_nil))))
  · show G Z X (jn b q (2 ^ n - 1)) 2 ([some (.ref (zad Z q)), some (.int (nI ((2 ^ n - 1) + 1))), none, none]) _
    refine g_iload_1 hX dX3_joinSets_2 ?_
    refine g_iconst hX 1 dX3_joinSets_3 (by decide) ?_
    refine g_aload_0 hX dX3_joinSets_4 ?_
    refine gt_X3_lines hX h_q dX3_joinSets_5 ?_
    refine g_ishl hX dX3_joinSets_8 ?_
    refine g_top (nI (2 ^ n)) (by rw [jn_c _ _ _ (by omega) (by omega), hn, one_shl (by omega)]) ?_
    refine g_icmp_ge hX 78 dX3_joinSets_9 (by decide) (fun c9 => ?_) (fun c9 => ?_)
    · exact hq _ _ _ dX3_joinSets_78 (by rfl)
    · exact absurd c9 (by rw [Nat.sub_add_cancel h1]; exact Int32.lt_irrefl)
set_option maxRecDepth 100000 in
set_option maxHeartbeats 4000000 in
theorem c_X3_look {Z : Zt} {b : Mem} {q : Nat} (h_q : isShr Z q) {o : Nat} (h_o : isBus Z o) {t : Int32} (hV : Val (cv b o)) (hd : q + 4 < o ∨ o + 6 < q) : Con Z yX3_look cX3_look 5 none 3 [.ref (zad Z q), .ref (zad Z o), .int t] b none (lookM b q o t) := by
  have hn : b o 6 = nI (nl (cv b o)) := hV.1.1
  have hn6 := hV.1.2
  have hp : b o 7 = nI (np (cv b o)) := hV.2.1.1
  have hp6 := hV.2.1.2
  have hs := hV.2.2.2.2 1 (by decide)
  have q4 : ∀ k, lkL b q o t k q 4 = nI (nl (cv b o)) := fun k => by rw [lkL_q _ _ _ _ _ (by decide), lk0, u2k _ _ (by decide), u2k _ _ (by decide), u2s, hn]
  have q5 : ∀ k, lkL b q o t k q 5 = nI (np (cv b o)) := fun k => by rw [lkL_q _ _ _ _ _ (by decide), lk0, u2k _ _ (by decide), u2s, hp]
  have hcv : ∀ k, cv (lkL b q o t k) o = cv b o := fun k => lkL_cv b q o t k hd
  refine con_v (by decide) (Nat.le_of_ble_eq_true rfl) rfl (fun X hX hq => ?_)
  have hX : Ok Z X cX3_look 5 RX3 3 := hX
  show G Z X b 0 [some (.ref (zad Z q)), some (.ref (zad Z o)), some (.int t), none, none] []
  refine g_aload_0 hX dX3_look_0 ?_
  refine g_aload_1 hX dX3_look_1 ?_
  refine g_cV0r hX mkX0_lineCount ml_X3_37 (c_X0_lineCount h_o) (h_o.obj _) dX3_look_2 rfl (by decide) (Nat.le_of_ble_eq_true rfl) ?_
  refine pt_X3_lines hX h_q dX3_look_5 ?_
  refine g_aload_0 hX dX3_look_8 ?_
  refine g_aload_1 hX dX3_look_9 ?_
  refine g_cV0r hX mkX0_pocketCount ml_X3_43 (c_X0_pocketCount h_o) (h_o.obj _) dX3_look_10 rfl (by decide) (Nat.le_of_ble_eq_true rfl) ?_
  refine g_top (b o 7) (by rw [u2c _ _ (by omega)]) ?_
  refine pt_X3_pockets hX h_q dX3_look_13 ?_
  refine g_aload_0 hX dX3_look_16 ?_
  refine g_iconst hX 0 dX3_look_17 (by decide) ?_
  refine pt_X3_tooLong hX h_q dX3_look_18 ?_
  refine g_iconst hX 0 dX3_look_21 (by decide) ?_
  refine g_istore_3 hX dX3_look_22 rfl ?_
  refine g_loopW (lvw_c (lvw_c (lvw_c (lvw_c (lvw_n lvw_nil))))) (nl (cv b o)) (fun k => (lkL b q o t k)) (fun k => [some (.ref (zad Z q)), some (.ref (zad Z o)), some (.int t), some (.int (nI k)), none]) rfl rfl (fun k hk23 ih23 => ?_) ?_
  · show G Z X ((lkL b q o t k)) 23 ([some (.ref (zad Z q)), some (.ref (zad Z o)), some (.int t), some (.int (nI k)), none]) _
    have h2k : 2 ^ k < 64 := Nat.lt_of_lt_of_le (Nat.pow_lt_pow_right (by omega) hk23) (pow64 hn6)
    refine g_iload_3 hX dX3_look_23 ?_
    refine g_aload_0 hX dX3_look_24 ?_
    refine gt_X3_lines hX h_q dX3_look_25 ?_
    refine g_icmp_ge hX 94 dX3_look_28 (by decide) (fun c28 => ?_) (fun c28 => ?_)
    · exact absurd c28 (not_not_intro (by rw [q4]; exact nI_lt hk23 (by omega)))
    · refine g_aload_1 hX dX3_look_31 ?_
      refine g_iload_3 hX dX3_look_32 ?_
      refine g_cV1r hX mkX0_baseOf ml_X3_46 (c_X0_baseOf h_o (by rw [hcv]; exact hV) (by rw [hcv]; exact hk23)) (h_o.obj _) dX3_look_33 rfl (by decide) (Nat.le_of_ble_eq_true rfl) ?_
      refine g_top (baseS (cv b o) k) (by rw [hcv]) ?_
      refine g_istore_4 hX dX3_look_36 rfl ?_
      refine g_aload_0 hX dX3_look_38 ?_
      refine gt_X3_needs hX h_q dX3_look_39 ?_
      refine g_iconst hX 1 dX3_look_42 (by decide) ?_
      refine g_iload_3 hX dX3_look_43 ?_
      refine g_ishl hX dX3_look_44 ?_
      refine g_aload_1 hX dX3_look_45 ?_
      refine g_iload_4 hX dX3_look_46 ?_
      refine g_iload_2 hX dX3_look_48 ?_
      refine g_cV2r hX mkX0_needFor ml_X3_50 (c_X0_needFor h_o) (h_o.obj _) dX3_look_49 rfl (by decide) (Nat.le_of_ble_eq_true rfl) ?_
      refine g_top (needS (cv b o) (baseS (cv b o) k) t) (by rw [hcv]) ?_
      refine g_cast (st' := [.int (needS (cv b o) (baseS (cv b o) k) t), .int (nI (2 ^ k)), .ref (zad Z (q + 1))]) ?_ rfl rfl (by rw [one_shl (by omega)])
      refine g_cN3v hX mkX5_put nl_X3_54 (c_X5_put h_q.2.2.1 h2k (by decide)) dX3_look_52 rfl (by decide) (Nat.le_of_ble_eq_true rfl) ?_
      refine g_aload_0 hX dX3_look_55 ?_
      refine gt_X3_reach hX h_q dX3_look_56 ?_
      refine g_iconst hX 1 dX3_look_59 (by decide) ?_
      refine g_iload_3 hX dX3_look_60 ?_
      refine g_ishl hX dX3_look_61 ?_
      refine g_aload_1 hX dX3_look_62 ?_
      refine g_iload_3 hX dX3_look_63 ?_
      refine g_cV1r hX mkX0_reachOf ml_X3_58 (c_X0_reachOf h_o (by rw [cv_up2 _ _ _ (by omega), hcv]; exact hV) (by omega)) (h_o.obj _) dX3_look_64 rfl (by decide) (Nat.le_of_ble_eq_true rfl) ?_
      refine g_top (nI (reachN (cv b o) k)) (by rw [cv_up2 _ _ _ (by omega), hcv]) ?_
      refine g_cast (st' := [.int (nI (reachN (cv b o) k)), .int (nI (2 ^ k)), .ref (zad Z (q + 2))]) ?_ rfl rfl (by rw [one_shl (by omega)])
      refine g_cN3v hX mkX5_put nl_X3_54 (c_X5_put h_q.2.2.2.1 h2k (by decide)) dX3_look_67 rfl (by decide) (Nat.le_of_ble_eq_true rfl) ?_
      refine g_iload_4 hX dX3_look_70 ?_
      refine g_iload_2 hX dX3_look_72 ?_
      refine g_icmp_le hX 88 dX3_look_73 (by decide) (fun c73 => ?_) (fun c73 => ?_)
      · refine g_iinc_3 hX 1 dX3_look_88 (by decide) rfl ?_
        refine g_goto hX 23 dX3_look_91 (by decide) ?_
        exact g_back ih23 (by first | (simp only [lkL, lkT, if_pos c73, lkS]; done) | (simp only [lkL, lkT, if_neg c73, lkS]; done)) (by simp only [nI_succ]) (lvw_c (lvw_c (lvw_c (lvw_c (lvw_n lvw_nil)))))
      · refine g_aload_0 hX dX3_look_76 ?_
        refine g_dup hX dX3_look_77 rfl ?_
        refine gt_X3_tooLong hX h_q dX3_look_78 ?_
        refine g_iconst hX 1 dX3_look_81 (by decide) ?_
        refine g_iload_3 hX dX3_look_82 ?_
        refine g_ishl hX dX3_look_83 ?_
        refine g_cast (st' := [.int (nI (2 ^ k)), .int (lkL b q o t k q 6), .ref (zad Z q)]) ?_ rfl rfl (by rw [one_shl (by omega), u2c _ _ (by omega), u2c _ _ (by omega)])
        refine g_ior hX dX3_look_84 ?_
        refine pt_X3_tooLong hX h_q dX3_look_85 ?_
        refine g_iinc_3 hX 1 dX3_look_88 (by decide) rfl ?_
        refine g_goto hX 23 dX3_look_91 (by decide) ?_
        exact g_back ih23 (by first | (simp only [lkL, lkT, if_pos c73, lkS]; done) | (simp only [lkL, lkT, if_neg c73, lkS]; done)) (by simp only [nI_succ]) (lvw_c (lvw_c (lvw_c (lvw_c (lvw_n lvw_nil)))))
  · show G Z X ((lkL b q o t (nl (cv b o)))) 23 ([some (.ref (zad Z q)), some (.ref (zad Z o)), some (.int t), some (.int (nI (nl (cv b o)))), none]) _
    refine g_iload_3 hX dX3_look_23 ?_
    refine g_aload_0 hX dX3_look_24 ?_
    refine gt_X3_lines hX h_q dX3_look_25 ?_
    refine g_icmp_ge hX 94 dX3_look_28 (by decide) (fun c28 => ?_) (fun c28 => ?_)
    · refine g_iconst hX 0 dX3_look_94 (by decide) ?_
      refine g_istore_3 hX dX3_look_95 rfl ?_
      refine g_loop (np (cv b o)) (fun k => lkR (lkL b q o t (nl (cv b o))) (cv b o) q k) (fun k => [some (.ref (zad Z q)), some (.ref (zad Z o)), some (.int t), some (.int (nI k)), none]) rfl rfl (fun k hk96 ih96 => ?_) ?_
      · show G Z X (lkR (lkL b q o t (nl (cv b o))) (cv b o) q k) 96 ([some (.ref (zad Z q)), some (.ref (zad Z o)), some (.int t), some (.int (nI k)), none]) _
        have hc2 : cv (lkR (lkL b q o t (nl (cv b o))) (cv b o) q k) o = cv b o := by rw [lkR_cv _ _ _ _ _ hd, hcv]
        have e61 : lkR (lkL b q o t (nl (cv b o))) (cv b o) q k (o + 6) = b (o + 6) := by rw [lkR_c _ _ _ _ (by omega), lkL_c _ _ _ _ _ (by omega) (by omega) (by omega)]
        refine g_iload_3 hX dX3_look_96 ?_
        refine g_aload_0 hX dX3_look_97 ?_
        refine gt_X3_pockets hX h_q dX3_look_98 ?_
        refine g_icmp_ge hX 123 dX3_look_101 (by decide) (fun c101 => ?_) (fun c101 => ?_)
        · exact absurd c101 (not_not_intro (by rw [lkR_c _ _ _ _ (by omega), q5]; exact nI_lt hk96 (by omega)))
        · refine g_aload_0 hX dX3_look_104 ?_
          refine gt_X3_rooms hX h_q dX3_look_105 ?_
          refine g_iload_3 hX dX3_look_108 ?_
          refine g_aload_1 hX dX3_look_109 ?_
          refine g_iload_3 hX dX3_look_110 ?_
          refine g_cV1r hX mkX0_humpsOf ml_X3_61 (c_X0_humpsOf h_o (by omega) (by rw [e61]; exact hs.1) (by rw [e61]; exact hs.2)) (h_o.obj _) dX3_look_111 rfl (by decide) (Nat.le_of_ble_eq_true rfl) ?_
          refine g_top (humpsS (cv b o) k) (by rw [hc2]) ?_
          refine g_cN3v hX mkX5_put nl_X3_54 (c_X5_put h_q.2.2.2.2.1 (by omega) (by decide)) dX3_look_114 rfl (by decide) (Nat.le_of_ble_eq_true rfl) ?_
          refine g_iinc_3 hX 1 dX3_look_117 (by decide) rfl ?_
          refine g_goto hX 96 dX3_look_120 (by decide) ?_
          exact g_cast ih96 (by simp only [lkR]) (by simp only [nI_succ]) rfl
      · show G Z X (lkR (lkL b q o t (nl (cv b o))) (cv b o) q (np (cv b o))) 96 ([some (.ref (zad Z q)), some (.ref (zad Z o)), some (.int t), some (.int (nI (np (cv b o)))), none]) _
        refine g_iload_3 hX dX3_look_96 ?_
        refine g_aload_0 hX dX3_look_97 ?_
        refine gt_X3_pockets hX h_q dX3_look_98 ?_
        refine g_icmp_ge hX 123 dX3_look_101 (by decide) (fun c101 => ?_) (fun c101 => ?_)
        · refine g_aload_0 hX dX3_look_123 ?_
          refine g_cV0v hX mkX3_joinSets ml_X3_64 (c_X3_joinSets h_q (n := nl (cv b o)) (by rw [lkR_c _ _ _ _ (by omega), q4]) hn6) (h_q.obj _) dX3_look_124 rfl (by decide) (Nat.le_of_ble_eq_true rfl) ?_
          exact hq _ _ _ dX3_look_127 (by rfl)
        · exact absurd c101 (by rw [lkR_c _ _ _ _ (by omega), q5]; exact Int32.lt_irrefl)
    · exact absurd c28 (by rw [q4]; exact Int32.lt_irrefl)
end
section
/-! Int32 by whole numbers: zI z -/
def zI (z : Int) : Int32 := Int32.ofInt z
theorem zI_add (a b : Int) : zI a + zI b = zI (a + b) := (Int32.ofInt_add a b).symm
theorem zI_sub (a b : Int) : zI a - zI b = zI (a - b) := (Int32.ofInt_sub a b).symm
theorem zI_mul (a b : Int) : zI a * zI b = zI (a * b) := (Int32.ofInt_mul a b).symm
theorem nI_z (n : Nat) : nI n = zI n := (Int32.ofInt_eq_ofNat (n := n)).symm
theorem zI_t {z : Int} (h1 : -2147483648 ≤ z) (h2 : z < 2147483648) : (zI z).toInt = z := Int32.toInt_ofInt_of_le h1 h2
theorem zI_lt {a b : Int} (ha : -2147483648 ≤ a ∧ a < 2147483648) (hb : -2147483648 ≤ b ∧ b < 2147483648) : zI a < zI b ↔ a < b := by
  rw [Int32.lt_iff_toInt_lt, zI_t ha.1 ha.2, zI_t hb.1 hb.2]
theorem zI_eq {a b : Int} (ha : -2147483648 ≤ a ∧ a < 2147483648) (hb : -2147483648 ≤ b ∧ b < 2147483648) : zI a = zI b ↔ a = b := by
  constructor
  · intro h
    have := congrArg Int32.toInt h
    rw [zI_t ha.1 ha.2, zI_t hb.1 hb.2] at this
    exact this
  · rintro rfl; rfl
theorem zI_le {a b : Int} (ha : -2147483648 ≤ a ∧ a < 2147483648) (hb : -2147483648 ≤ b ∧ b < 2147483648) : zI a ≤ zI b ↔ a ≤ b := by
  rw [Int32.le_iff_toInt_le, zI_t ha.1 ha.2, zI_t hb.1 hb.2]
theorem zI_of (x : Int32) : x = zI x.toInt := (Int32.ofInt_toInt x).symm
theorem zI_nat {z : Int} (h : 0 ≤ z) : zI z = nI z.toNat := by rw [nI_z, Int.toNat_of_nonneg h]
theorem zI_0 : zI 0 = 0 := rfl
theorem zI_abs {z : Int} (h : -2147483647 ≤ z ∧ z < 2147483648) : (if 0 ≤ zI z then zI z else 0 - zI z) = nI z.natAbs := by
  have h0 : (0 : Int32) ≤ zI z ↔ 0 ≤ z := zI_le (a := 0) (by decide) (by omega)
  by_cases c : 0 ≤ z
  · rw [if_pos (h0.mpr c), zI_nat c]; congr 1; omega
  · rw [if_neg (fun q => c (h0.mp q)), show (0 : Int32) = zI 0 from rfl, zI_sub, zI_nat (by omega)]; congr 1; omega
end
section
/-! SnakedBus$Phasing -/
def eI (h : Int) (k : Nat) : Int := if 0 < h then h - k else h + k
def pbT (m : Mem) (h : Int) (sp : Int32) (ph k : Nat) : Mem := if 2 * (eI h k).natAbs ≤ ph then up2 m 68 (eI h k + 7).toNat (minI (m 68 (eI h k + 7).toNat) (sp + nI k)) else m
def pbM (m : Mem) (h : Int) (sp : Int32) (ph : Nat) : Nat → Mem
  | 0 => m
  | k + 1 => pbT (pbM m h sp ph k) h sp ph k
theorem pbM_c (m : Mem) (h : Int) (sp : Int32) (ph k : Nat) {j : Nat} (hj : j ≠ 68) : pbM m h sp ph k j = m j := by
  induction k with
  | zero => rfl
  | succ k ih =>
    simp only [pbM, pbT]
    split
    · rw [u2c _ _ hj, ih]
    · exact ih
theorem eI_b {h : Int} {k : Nat} (hh : -8 ≤ h ∧ h ≤ 8) (hk : k ≤ h.natAbs) : -8 ≤ eI h k ∧ eI h k ≤ 8 := by
  unfold eI; split <;> omega
def psT (m : Mem) (sp : Int32) (s : Int) (r ph k : Nat) : Mem := if sp < 1000000 then pbM m ((k : Int) - 7 + s) sp ph (min r ((k : Int) - 7 + s).natAbs + 1) else m
def psM (b : Mem) (s : Int) (r ph : Nat) : Nat → Mem
  | 0 => b
  | k + 1 => psT (psM b s r ph k) (b 67 k) s r ph k
theorem psM_c (b : Mem) (s : Int) (r ph k : Nat) {j : Nat} (hj : j ≠ 68) : psM b s r ph k j = b j := by
  induction k with
  | zero => rfl
  | succ k ih =>
    simp only [psM, psT]
    split
    · rw [pbM_c _ _ _ _ _ hj, ih]
    · exact ih
def tsI (x : Int32) : Int := if x = 1 then 1 else if x = 0 then -1 else 0
theorem tsI_b (x : Int32) : -1 ≤ tsI x ∧ tsI x ≤ 1 := by unfold tsI; split <;> (try split) <;> omega
def phN (v : View) : Nat := (v 5 5 0).toNatClampNeg
def roN (v : View) (l i : Nat) : Nat := (roomS v l i).toNatClampNeg
def ffT (m : Mem) (v : View) (l k : Nat) : Mem := psM (fillM m 68 15 1000000) (tsI (v 2 l k)) (roN v l k) (phN v) 15
def ffU (m : Mem) : Mem := up1 m 67 (va_cpy (m 68) (m 67) 0 0 15)
def ffM (b : Mem) (v : View) (l : Nat) : Nat → Mem
  | 0 => up2 (fillM b 67 15 1000000) 67 7 0
  | k + 1 => ffU (ffT (ffM b v l k) v l k)
theorem fillM_c (b : Mem) (j k : Nat) (v : Int32) {i : Nat} (h : i ≠ j) : fillM b j k v i = b i := by unfold fillM; rw [u1c _ _ h]
theorem ffT_c (m : Mem) (v : View) (l k : Nat) {j : Nat} (hj : j ≠ 68) : ffT m v l k j = m j := by
  unfold ffT; rw [psM_c _ _ _ _ _ hj, fillM_c _ _ _ _ hj]
theorem ffM_c (b : Mem) (v : View) (l k : Nat) {j : Nat} (h67 : j ≠ 67) (h68 : j ≠ 68) : ffM b v l k j = b j := by
  induction k with
  | zero => simp only [ffM]; rw [u2c _ _ h67, fillM_c _ _ _ _ h67]
  | succ k ih => simp only [ffM, ffU]; rw [u1c _ _ h67, ffT_c _ _ _ _ h68, ih]
def bumpS (m : Mem) : Int32 := if m 67 7 < 1000000 then m 67 7 else -1
theorem Val.set {v : View} (h : Val v) {k : Nat} (hk : k < 7) {lo hi : Nat} (hl : lowF k = nI lo) (hh : higF k = nI hi) (hb : lo ≤ hi ∧ hi < 2000) : ∃ x, v 5 k 0 = nI x ∧ lo ≤ x ∧ x ≤ hi := by
  obtain ⟨h1, h2⟩ := h.2.2.2.2 k hk
  rw [hl] at h1
  rw [hh] at h2
  obtain ⟨x, hx, e⟩ := nI_of (x := v 5 k 0) (fun q => h1 (by
    rcases Nat.eq_zero_or_pos lo with z | z
    · subst z; exact q
    · exact Int32.lt_trans q (by rw [← nI_0]; exact nI_lt z (by omega))))
  refine ⟨x, e, ?_, ?_⟩
  · rcases Nat.lt_or_ge x lo with q | q
    · exact absurd (by rw [e]; exact nI_lt q (by omega)) h1
    · exact q
  · rcases Nat.lt_or_ge hi x with q | q
    · exact absurd (by rw [e]; exact nI_lt q hx) h2
    · exact q
theorem Val.ph {v : View} (h : Val v) : v 5 5 0 = nI (phN v) ∧ phN v ≤ 6 := by
  obtain ⟨x, e, _, h2⟩ := h.set (k := 5) (by decide) (lo := 0) (hi := 6) rfl rfl (by decide)
  unfold phN
  rw [e, nI_clamp (by omega)]
  exact ⟨rfl, h2⟩
theorem Val.near {v : View} (h : Val v) : ∃ x, v 5 6 0 = nI x ∧ 1 ≤ x ∧ x ≤ 9 := h.set (k := 6) (by decide) (lo := 1) (hi := 9) rfl rfl (by decide)
theorem Val.long {v : View} (h : Val v) {l i : Nat} (hl : l < nl v) (hi : i < rn v l) : ∃ x, v 1 l i = nI x ∧ 1 ≤ x ∧ x ≤ 60 := by
  obtain ⟨h1, h2⟩ := (h.2.2.1 l hl).2.2.2.1 i hi
  obtain ⟨x, hx, e⟩ := nI_of (x := v 1 l i) (fun q => h1 (Int32.lt_trans q (by decide)))
  refine ⟨x, e, ?_, ?_⟩
  · rcases Nat.lt_or_ge x 1 with q | q
    · exact absurd (by rw [e]; exact nI_lt q (by decide)) h1
    · exact q
  · rcases Nat.lt_or_ge 60 x with q | q
    · exact absurd (by rw [e]; exact nI_lt q hx) h2
    · exact q
theorem Val.room {v : View} (h : Val v) {l i : Nat} (hl : l < nl v) (hi : i < rn v l) : roomS v l i = nI (roN v l i) ∧ roN v l i ≤ 60 := by
  obtain ⟨x, e, h1, h2⟩ := h.long hl hi
  obtain ⟨y, e2, g1, g2⟩ := h.near
  have e3 : roomS v l i = nI (x / y) := by unfold roomS; rw [e, e2, pk_div (by omega) (by omega) (by omega)]
  have h3 : x / y ≤ x := Nat.div_le_self _ _
  unfold roN
  rw [e3, nI_clamp (by omega)]
  exact ⟨rfl, by omega⟩
set_option maxRecDepth 100000 in
set_option maxHeartbeats 4000000 in
theorem c_X2_turnStep {Z : Zt} {b : Mem} {x : Int32} : Con Z yX2_turnStep cX2_turnStep 1 (some .int) 0 [.int x] b (some (.int (zI (tsI x)))) (b) := by
  refine con_i (by decide) (Nat.le_of_ble_eq_true rfl) rfl (fun X hX hq => ?_)
  have hX : Ok Z X cX2_turnStep 1 RX2 0 := hX
  show G Z X b 0 [some (.int x)] []
  refine g_iload_0 hX dX2_turnStep_0 ?_
  refine g_iconst hX 1 dX2_turnStep_1 (by decide) ?_
  refine g_icmp_ne hX 7 dX2_turnStep_2 (by decide) (fun c2 => ?_) (fun c2 => ?_)
  · refine g_iload_0 hX dX2_turnStep_7 ?_
    refine g_if_ne hX 15 dX2_turnStep_8 (by decide) (fun c8 => ?_) (fun c8 => ?_)
    · refine g_iconst hX 0 dX2_turnStep_15 (by decide) ?_
      exact hq _ _ _ _ dX2_turnStep_16 (by rfl) (by first | (unfold tsI; rw [if_neg c2, if_pos c8]; done) | (unfold tsI; rw [if_neg c2, if_neg c8]; done) | (unfold tsI; rw [if_neg c2, if_pos c8]; rfl) | (unfold tsI; rw [if_neg c2, if_neg c8]; rfl))
    · refine g_iconst hX (-1) dX2_turnStep_11 (by decide) ?_
      refine g_goto hX 16 dX2_turnStep_12 (by decide) ?_
      exact hq _ _ _ _ dX2_turnStep_16 (by rfl) (by first | (unfold tsI; rw [if_neg c2, if_pos c8]; done) | (unfold tsI; rw [if_neg c2, if_neg c8]; done) | (unfold tsI; rw [if_neg c2, if_pos c8]; rfl) | (unfold tsI; rw [if_neg c2, if_neg c8]; rfl))
  · refine g_iconst hX 1 dX2_turnStep_5 (by decide) ?_
    exact hq _ _ _ _ dX2_turnStep_6 (by rfl) (by unfold tsI; rw [if_pos c2]; rfl)
set_option maxRecDepth 100000 in
set_option maxHeartbeats 4000000 in
theorem c_X2_putBumps {Z : Zt} {b : Mem} {h : Int} {sp : Int32} {r ph : Nat} (hh : -8 ≤ h ∧ h ≤ 8) (hr : r < 100) (hp : ph ≤ 6) : Con Z yX2_putBumps cX2_putBumps 9 none 1 [.ref (zad Z 66), .int (zI h), .int sp, .int (nI r), .int (nI ph)] b none (pbM b h sp ph (min r h.natAbs + 1)) := by
  have hm : (if nI h.natAbs < nI r then nI h.natAbs else nI r) = nI (min r h.natAbs) := by
    by_cases q : h.natAbs < r
    · rw [if_pos (nI_lt q (by omega)), Nat.min_eq_right (by omega)]
    · rw [if_neg (nI_nlt (by omega) (by omega)), Nat.min_eq_left (by omega)]
  have hpos : (0 : Int32) < zI h ↔ 0 < h := zI_lt (a := 0) (by decide) (by omega)
  refine con_v (by decide) (Nat.le_of_ble_eq_true rfl) rfl (fun X hX hq => ?_)
  have hX : Ok Z X cX2_putBumps 9 RX2 1 := hX
  show G Z X b 0 [some (.ref (zad Z 66)), some (.int (zI h)), some (.int sp), some (.int (nI r)), some (.int (nI ph)), none, none, none, none] []
  refine g_iload_3 hX dX2_putBumps_0 ?_
  refine g_iload_1 hX dX2_putBumps_1 ?_
  refine g_abs hX ml_X2_64 mm_abs_s mm_ini mm_abs_c dX2_putBumps_2 rfl (by decide) (Nat.le_of_ble_eq_true rfl) ?_
  refine g_min hX ml_X2_69 mm_min_s mm_ini mm_min_c dX2_putBumps_5 rfl (by decide) (Nat.le_of_ble_eq_true rfl) ?_
  refine g_top (nI (min r h.natAbs)) (by rw [zI_abs (by omega)]; exact hm) ?_
  refine g_istore_5 hX dX2_putBumps_8 rfl ?_
  refine g_iconst hX 0 dX2_putBumps_10 (by decide) ?_
  refine g_istore_6 hX dX2_putBumps_11 rfl ?_
  refine g_loopW (lvw_c (lvw_c (lvw_c (lvw_c (lvw_c (lvw_c (lvw_c (lvw_n (lvw_n lvw_nil))))))))) (min r h.natAbs + 1) (fun k => pbM b h sp ph k) (fun k => [some (.ref (zad Z 66)), some (.int (zI h)), some (.int sp), some (.int (nI r)), some (.int (nI ph)), some (.int (nI (min r h.natAbs))), some (.int (nI k)), none, none]) rfl rfl (fun k hk13 ih13 => ?_) ?_
  · show G Z X (pbM b h sp ph k) 13 ([some (.ref (zad Z 66)), some (.int (zI h)), some (.int sp), some (.int (nI r)), some (.int (nI ph)), some (.int (nI (min r h.natAbs))), some (.int (nI k)), none, none]) _
    have he := eI_b hh (show k ≤ h.natAbs by omega)
    have e2 : (2 : Int32) * zI (eI h k) = zI (2 * eI h k) := zI_mul 2 _
    have hab : (if 0 ≤ (2 : Int32) * zI (eI h k) then (2 : Int32) * zI (eI h k) else 0 - (2 : Int32) * zI (eI h k)) = nI (2 * (eI h k).natAbs) := by rw [e2, zI_abs (by omega)]; congr 1; omega
    refine g_iload_6 hX dX2_putBumps_13 ?_
    refine g_iload_5 hX dX2_putBumps_15 ?_
    refine g_icmp_gt hX 87 dX2_putBumps_17 (by decide) (fun c17 => ?_) (fun c17 => ?_)
    · exact absurd c17 (nI_nlt (by omega) (by omega))
    · refine g_iload_1 hX dX2_putBumps_20 ?_
      refine g_if_le hX 31 dX2_putBumps_21 (by decide) (fun c21 => ?_) (fun c21 => ?_)
      · refine g_iload_1 hX dX2_putBumps_31 ?_
        refine g_iload_6 hX dX2_putBumps_32 ?_
        refine g_iadd hX dX2_putBumps_34 ?_
        refine g_top (zI (eI h k)) (by first | (rw [eI, if_pos (hpos.mp c21), nI_z, zI_sub]; done) | (rw [eI, if_neg (fun q => c21 (hpos.mpr q)), nI_z, zI_add]; done)) ?_
        refine g_istore_7 hX dX2_putBumps_35 rfl ?_
        refine g_iload_7 hX dX2_putBumps_37 ?_
        refine g_bipush hX 7 dX2_putBumps_39 (by decide) ?_
        refine g_iadd hX dX2_putBumps_41 ?_
        refine g_top (zI (eI h k + 7)) (zI_add _ 7) ?_
        refine g_istore_8 hX dX2_putBumps_42 rfl ?_
        refine g_iconst hX 2 dX2_putBumps_44 (by decide) ?_
        refine g_iload_7 hX dX2_putBumps_45 ?_
        refine g_imul hX dX2_putBumps_47 ?_
        refine g_abs hX ml_X2_64 mm_abs_s mm_ini mm_abs_c dX2_putBumps_48 rfl (by decide) (Nat.le_of_ble_eq_true rfl) ?_
        refine g_top _ hab ?_
        refine g_iload_4 hX dX2_putBumps_51 ?_
        refine g_icmp_gt hX 81 dX2_putBumps_53 (by decide) (fun c53 => ?_) (fun c53 => ?_)
        · refine g_iinc_6 hX 1 dX2_putBumps_81 (by decide) rfl ?_
          refine g_goto hX 13 dX2_putBumps_84 (by decide) ?_
          exact g_back ih13 (by first | (simp only [pbM, pbT]; rw [if_neg (fun q => nI_nlt q (by omega) c53)]; done) | (simp only [pbM, pbT]; rw [if_pos hle]; done)) (by simp only [nI_succ]) (lvw_c (lvw_c (lvw_c (lvw_c (lvw_c (lvw_c (lvw_c (lvw_n (lvw_n lvw_nil)))))))))
        · have hle : 2 * (eI h k).natAbs ≤ ph := by
            rcases Nat.lt_or_ge ph (2 * (eI h k).natAbs) with q | q
            · exact absurd (nI_lt q (by omega)) c53
            · exact q
          have hpl : zI (eI h k + 7) = nI (eI h k + 7).toNat := zI_nat (by omega)
          refine g_aload_0 hX dX2_putBumps_56 ?_
          refine gt_X2_next hX dX2_putBumps_57 ?_
          refine g_iload_8 hX dX2_putBumps_60 ?_
          refine g_aload_0 hX dX2_putBumps_62 ?_
          refine gt_X2_next hX dX2_putBumps_63 ?_
          refine g_iload_8 hX dX2_putBumps_66 ?_
          refine g_top _ hpl ?_
          refine g_cN2r hX mkX5_at nl_X2_56 (c_X5_at (ar_68 Z) (by omega) (by decide)) dX2_putBumps_68 rfl (by decide) (Nat.le_of_ble_eq_true rfl) ?_
          refine g_iload_2 hX dX2_putBumps_71 ?_
          refine g_iload_6 hX dX2_putBumps_72 ?_
          refine g_iadd hX dX2_putBumps_74 ?_
          refine g_min hX ml_X2_69 mm_min_s mm_ini mm_min_c dX2_putBumps_75 rfl (by decide) (Nat.le_of_ble_eq_true rfl) ?_
          refine g_cast (st' := [.int (minI (pbM b h sp ph k 68 (eI h k + 7).toNat) (sp + nI k)), .int (nI (eI h k + 7).toNat), .ref (zad Z 68)]) ?_ rfl rfl (by rw [hpl]; rfl)
          refine g_cN3v hX mkX5_put nl_X2_25 (c_X5_put (ar_68 Z) (by omega) (by decide)) dX2_putBumps_78 rfl (by decide) (Nat.le_of_ble_eq_true rfl) ?_
          refine g_iinc_6 hX 1 dX2_putBumps_81 (by decide) rfl ?_
          refine g_goto hX 13 dX2_putBumps_84 (by decide) ?_
          exact g_back ih13 (by first | (simp only [pbM, pbT]; rw [if_neg (fun q => nI_nlt q (by omega) c53)]; done) | (simp only [pbM, pbT]; rw [if_pos hle]; done)) (by simp only [nI_succ]) (lvw_c (lvw_c (lvw_c (lvw_c (lvw_c (lvw_c (lvw_c (lvw_n (lvw_n lvw_nil)))))))))
      · refine g_iload_1 hX dX2_putBumps_24 ?_
        refine g_iload_6 hX dX2_putBumps_25 ?_
        refine g_isub hX dX2_putBumps_27 ?_
        refine g_goto hX 35 dX2_putBumps_28 (by decide) ?_
        refine g_top (zI (eI h k)) (by first | (rw [eI, if_pos (hpos.mp c21), nI_z, zI_sub]; done) | (rw [eI, if_neg (fun q => c21 (hpos.mpr q)), nI_z, zI_add]; done)) ?_
        refine g_istore_7 hX dX2_putBumps_35 rfl ?_
        refine g_iload_7 hX dX2_putBumps_37 ?_
        refine g_bipush hX 7 dX2_putBumps_39 (by decide) ?_
        refine g_iadd hX dX2_putBumps_41 ?_
        refine g_top (zI (eI h k + 7)) (zI_add _ 7) ?_
        refine g_istore_8 hX dX2_putBumps_42 rfl ?_
        refine g_iconst hX 2 dX2_putBumps_44 (by decide) ?_
        refine g_iload_7 hX dX2_putBumps_45 ?_
        refine g_imul hX dX2_putBumps_47 ?_
        refine g_abs hX ml_X2_64 mm_abs_s mm_ini mm_abs_c dX2_putBumps_48 rfl (by decide) (Nat.le_of_ble_eq_true rfl) ?_
        refine g_top _ hab ?_
        refine g_iload_4 hX dX2_putBumps_51 ?_
        refine g_icmp_gt hX 81 dX2_putBumps_53 (by decide) (fun c53 => ?_) (fun c53 => ?_)
        · refine g_iinc_6 hX 1 dX2_putBumps_81 (by decide) rfl ?_
          refine g_goto hX 13 dX2_putBumps_84 (by decide) ?_
          exact g_back ih13 (by first | (simp only [pbM, pbT]; rw [if_neg (fun q => nI_nlt q (by omega) c53)]; done) | (simp only [pbM, pbT]; rw [if_pos hle]; done)) (by simp only [nI_succ]) (lvw_c (lvw_c (lvw_c (lvw_c (lvw_c (lvw_c (lvw_c (lvw_n (lvw_n lvw_nil)))))))))
        · have hle : 2 * (eI h k).natAbs ≤ ph := by
            rcases Nat.lt_or_ge ph (2 * (eI h k).natAbs) with q | q
            · exact absurd (nI_lt q (by omega)) c53
            · exact q
          have hpl : zI (eI h k + 7) = nI (eI h k + 7).toNat := zI_nat (by omega)
          refine g_aload_0 hX dX2_putBumps_56 ?_
          refine gt_X2_next hX dX2_putBumps_57 ?_
          refine g_iload_8 hX dX2_putBumps_60 ?_
          refine g_aload_0 hX dX2_putBumps_62 ?_
          refine gt_X2_next hX dX2_putBumps_63 ?_
          refine g_iload_8 hX dX2_putBumps_66 ?_
          refine g_top _ hpl ?_
          refine g_cN2r hX mkX5_at nl_X2_56 (c_X5_at (ar_68 Z) (by omega) (by decide)) dX2_putBumps_68 rfl (by decide) (Nat.le_of_ble_eq_true rfl) ?_
          refine g_iload_2 hX dX2_putBumps_71 ?_
          refine g_iload_6 hX dX2_putBumps_72 ?_
          refine g_iadd hX dX2_putBumps_74 ?_
          refine g_min hX ml_X2_69 mm_min_s mm_ini mm_min_c dX2_putBumps_75 rfl (by decide) (Nat.le_of_ble_eq_true rfl) ?_
          refine g_cast (st' := [.int (minI (pbM b h sp ph k 68 (eI h k + 7).toNat) (sp + nI k)), .int (nI (eI h k + 7).toNat), .ref (zad Z 68)]) ?_ rfl rfl (by rw [hpl]; rfl)
          refine g_cN3v hX mkX5_put nl_X2_25 (c_X5_put (ar_68 Z) (by omega) (by decide)) dX2_putBumps_78 rfl (by decide) (Nat.le_of_ble_eq_true rfl) ?_
          refine g_iinc_6 hX 1 dX2_putBumps_81 (by decide) rfl ?_
          refine g_goto hX 13 dX2_putBumps_84 (by decide) ?_
          exact g_back ih13 (by first | (simp only [pbM, pbT]; rw [if_neg (fun q => nI_nlt q (by omega) c53)]; done) | (simp only [pbM, pbT]; rw [if_pos hle]; done)) (by simp only [nI_succ]) (lvw_c (lvw_c (lvw_c (lvw_c (lvw_c (lvw_c (lvw_c (lvw_n (lvw_n lvw_nil)))))))))
  · show G Z X (pbM b h sp ph (min r h.natAbs + 1)) 13 ([some (.ref (zad Z 66)), some (.int (zI h)), some (.int sp), some (.int (nI r)), some (.int (nI ph)), some (.int (nI (min r h.natAbs))), some (.int (nI (min r h.natAbs + 1))), none, none]) _
    refine g_iload_6 hX dX2_putBumps_13 ?_
    refine g_iload_5 hX dX2_putBumps_15 ?_
    refine g_icmp_gt hX 87 dX2_putBumps_17 (by decide) (fun c17 => ?_) (fun c17 => ?_)
    · exact hq _ _ _ dX2_putBumps_87 (by rfl)
    · exact absurd c17 (not_not_intro (nI_lt (by omega) (by omega)))
set_option maxRecDepth 100000 in
set_option maxHeartbeats 4000000 in
theorem c_X2_passRun {Z : Zt} {b : Mem} {s : Int} {r ph : Nat} (hs : -1 ≤ s ∧ s ≤ 1) (hr : r < 100) (hp : ph ≤ 6) : Con Z yX2_passRun cX2_passRun 6 none 2 [.ref (zad Z 66), .int (zI s), .int (nI r), .int (nI ph)] b none (psM b s r ph 15) := by
  refine con_v (by decide) (Nat.le_of_ble_eq_true rfl) rfl (fun X hX hq => ?_)
  have hX : Ok Z X cX2_passRun 6 RX2 2 := hX
  show G Z X b 0 [some (.ref (zad Z 66)), some (.int (zI s)), some (.int (nI r)), some (.int (nI ph)), none, none] []
  refine g_bipush hX (-7) dX2_passRun_0 (by decide) ?_
  refine g_istore_4 hX dX2_passRun_2 rfl ?_
  refine g_loopW (lvw_c (lvw_c (lvw_c (lvw_c (lvw_c (lvw_n lvw_nil)))))) (15) (fun k => psM b s r ph k) (fun k => [some (.ref (zad Z 66)), some (.int (zI s)), some (.int (nI r)), some (.int (nI ph)), some (.int (zI ((k : Int) - 7))), none]) rfl rfl (fun k hk4 ih4 => ?_) ?_
  · show G Z X (psM b s r ph k) 4 ([some (.ref (zad Z 66)), some (.int (zI s)), some (.int (nI r)), some (.int (nI ph)), some (.int (zI ((k : Int) - 7))), none]) _
    have ek : zI ((k : Int) - 7) + 7 = nI k := by rw [show (7 : Int32) = zI 7 from rfl, zI_add, nI_z]; congr 1; omega
    have e1 : zI ((k : Int) - 7) + 1 = zI (((k + 1 : Nat) : Int) - 7) := by rw [show (1 : Int32) = zI 1 from rfl, zI_add]; congr 1; omega
    refine g_iload_4 hX dX2_passRun_4 ?_
    refine g_bipush hX 7 dX2_passRun_6 (by decide) ?_
    refine g_icmp_gt hX 50 dX2_passRun_8 (by decide) (fun c8 => ?_) (fun c8 => ?_)
    · exact absurd c8 (fun q => absurd ((zI_lt (a := 7) (by decide) (by omega)).mp q) (by omega))
    · refine g_aload_0 hX dX2_passRun_11 ?_
      refine gt_X2_fewest hX dX2_passRun_12 ?_
      refine g_iload_4 hX dX2_passRun_15 ?_
      refine g_bipush hX 7 dX2_passRun_17 (by decide) ?_
      refine g_iadd hX dX2_passRun_19 ?_
      refine g_top _ ek ?_
      refine g_cN2r hX mkX5_at nl_X2_56 (c_X5_at (ar_67 Z) (by omega) (by decide)) dX2_passRun_20 rfl (by decide) (Nat.le_of_ble_eq_true rfl) ?_
      refine g_top (b 67 k) (by rw [psM_c _ _ _ _ _ (by decide)]) ?_
      refine g_istore_5 hX dX2_passRun_23 rfl ?_
      try skip
      refine g_iload_5 hX dX2_passRun_25 ?_
      refine g_ldc hX 1000000 co_X2_18 dX2_passRun_27 ?_
      refine g_icmp_ge hX 44 dX2_passRun_29 (by decide) (fun c29 => ?_) (fun c29 => ?_)
      · refine g_iinc_4 hX 1 dX2_passRun_44 (by decide) rfl ?_
        refine g_goto hX 4 dX2_passRun_47 (by decide) ?_
        exact g_back ih4 (by first | (simp only [psM, psT]; rw [if_pos c29]; done) | (simp only [psM, psT]; rw [if_neg c29]; done)) (by rw [e1]) (lvw_c (lvw_c (lvw_c (lvw_c (lvw_c (lvw_n lvw_nil))))))
      · refine g_aload_0 hX dX2_passRun_32 ?_
        refine g_iload_4 hX dX2_passRun_33 ?_
        refine g_iload_1 hX dX2_passRun_35 ?_
        refine g_iadd hX dX2_passRun_36 ?_
        refine g_iload_5 hX dX2_passRun_37 ?_
        refine g_iload_2 hX dX2_passRun_39 ?_
        refine g_iload_3 hX dX2_passRun_40 ?_
        refine g_cast (st' := [.int (nI ph), .int (nI r), .int (b 67 k), .int (zI ((k : Int) - 7 + s)), .ref (zad Z 66)]) ?_ rfl rfl (by rw [zI_add])
        refine g_cV4v hX mkX2_putBumps ml_X2_60 (c_X2_putBumps (by omega) hr hp) (ob_66 Z _) dX2_passRun_41 rfl (by decide) (Nat.le_of_ble_eq_true rfl) ?_
        refine g_iinc_4 hX 1 dX2_passRun_44 (by decide) rfl ?_
        refine g_goto hX 4 dX2_passRun_47 (by decide) ?_
        exact g_back ih4 (by first | (simp only [psM, psT]; rw [if_pos c29]; done) | (simp only [psM, psT]; rw [if_neg c29]; done)) (by rw [e1]) (lvw_c (lvw_c (lvw_c (lvw_c (lvw_c (lvw_n lvw_nil))))))
  · show G Z X (psM b s r ph (15)) 4 ([some (.ref (zad Z 66)), some (.int (zI s)), some (.int (nI r)), some (.int (nI ph)), some (.int (zI (((15) : Int) - 7))), none]) _
    refine g_iload_4 hX dX2_passRun_4 ?_
    refine g_bipush hX 7 dX2_passRun_6 (by decide) ?_
    refine g_icmp_gt hX 50 dX2_passRun_8 (by decide) (fun c8 => ?_) (fun c8 => ?_)
    · exact hq _ _ _ dX2_passRun_50 (by rfl)
    · exact absurd c8 (by decide)
set_option maxRecDepth 100000 in
set_option maxHeartbeats 4000000 in
theorem c_X2_fewestFor {Z : Zt} {b : Mem} {o : Nat} (h_o : isBus Z o) {l : Nat} (hV : Val (cv b o)) (hl : l < nl (cv b o)) (ho : o + 6 < 66) : Con Z yX2_fewestFor cX2_fewestFor 4 (some .int) 3 [.ref (zad Z 66), .ref (zad Z o), .int (nI l)] b (some (.int (bumpS (ffM b (cv b o) l (rn (cv b o) l))))) (ffM b (cv b o) l (rn (cv b o) l)) := by
  have hr : b (o + 1) l = nI (rn (cv b o) l) := hV.runs hl
  have hr8 := hV.r8 hl
  have hl6 := hV.l6 hl
  have hcv : ∀ k, cv (ffM b (cv b o) l k) o = cv b o := fun k => cv_same (fun j h1 h2 => ffM_c _ _ _ _ (by omega) (by omega))
  have hph := hV.ph
  have hne := hV.2.2.2.2 6 (by decide)
  refine con_i (by decide) (Nat.le_of_ble_eq_true rfl) rfl (fun X hX hq => ?_)
  have hX : Ok Z X cX2_fewestFor 4 RX2 3 := hX
  show G Z X b 0 [some (.ref (zad Z 66)), some (.ref (zad Z o)), some (.int (nI l)), none] []
  refine g_aload_0 hX dX2_fewestFor_0 ?_
  refine gt_X2_fewest hX dX2_fewestFor_1 ?_
  refine g_ldc hX 1000000 co_X2_18 dX2_fewestFor_4 ?_
  refine g_cS2v hX mkJ7_fill_53178 ml_X2_19 (c_J7_fill_53178 (ar_67 Z) (by decide)) dX2_fewestFor_6 rfl (by decide) (Nat.le_of_ble_eq_true rfl) ?_
  refine g_aload_0 hX dX2_fewestFor_9 ?_
  refine gt_X2_fewest hX dX2_fewestFor_10 ?_
  refine g_bipush hX 7 dX2_fewestFor_13 (by decide) ?_
  refine g_iconst hX 0 dX2_fewestFor_15 (by decide) ?_
  refine g_cN3v hX mkX5_put nl_X2_25 (c_X5_put (k := 7) (ar_67 Z) (by decide) (by decide)) dX2_fewestFor_16 rfl (by decide) (Nat.le_of_ble_eq_true rfl) ?_
  refine g_iconst hX 0 dX2_fewestFor_19 (by decide) ?_
  refine g_istore_3 hX dX2_fewestFor_20 rfl ?_
  refine g_loop (rn (cv b o) l) (fun k => ffM b (cv b o) l k) (fun k => [some (.ref (zad Z 66)), some (.ref (zad Z o)), some (.int (nI l)), some (.int (nI k))]) rfl rfl (fun k hk21 ih21 => ?_) ?_
  · show G Z X (ffM b (cv b o) l k) 21 ([some (.ref (zad Z 66)), some (.ref (zad Z o)), some (.int (nI l)), some (.int (nI k))]) _
    have hro := hV.room hl hk21
    have hts := tsI_b (cv b o 2 l k)
    have hm : ∀ j, j ≠ 67 → j ≠ 68 → fillM (ffM b (cv b o) l k) 68 15 1000000 j = b j := fun j a1 a2 => by rw [fillM_c _ _ _ _ a2, ffM_c _ _ _ _ a1 a2]
    have hcm : cv (fillM (ffM b (cv b o) l k) 68 15 1000000) o = cv b o := cv_same (fun j h1 h2 => hm j (by omega) (by omega))
    refine g_iload_3 hX dX2_fewestFor_21 ?_
    refine g_aload_1 hX dX2_fewestFor_22 ?_
    refine g_iload_2 hX dX2_fewestFor_23 ?_
    refine g_cV1r hX mkX0_runsOf ml_X2_29 (c_X0_runsOf h_o hl6) (h_o.obj _) dX2_fewestFor_24 rfl (by decide) (Nat.le_of_ble_eq_true rfl) ?_
    refine g_icmp_ge hX 80 dX2_fewestFor_27 (by decide) (fun c27 => ?_) (fun c27 => ?_)
    · exact absurd c27 (not_not_intro (by rw [ffM_c _ _ _ _ (by omega) (by omega), hr]; exact nI_lt hk21 (by omega)))
    · refine g_aload_0 hX dX2_fewestFor_30 ?_
      refine gt_X2_next hX dX2_fewestFor_31 ?_
      refine g_ldc hX 1000000 co_X2_18 dX2_fewestFor_34 ?_
      refine g_cS2v hX mkJ7_fill_53178 ml_X2_19 (c_J7_fill_53178 (ar_68 Z) (by decide)) dX2_fewestFor_36 rfl (by decide) (Nat.le_of_ble_eq_true rfl) ?_
      refine g_aload_0 hX dX2_fewestFor_39 ?_
      refine g_aload_1 hX dX2_fewestFor_40 ?_
      refine g_iload_2 hX dX2_fewestFor_41 ?_
      refine g_iload_3 hX dX2_fewestFor_42 ?_
      refine g_cV2r hX mkX0_turnAhead ml_X2_35 (c_X0_turnAhead h_o hl6 (by omega)) (h_o.obj _) dX2_fewestFor_43 rfl (by decide) (Nat.le_of_ble_eq_true rfl) ?_
      refine g_top (cv b o 2 l k) (by rw [hm _ (by omega) (by omega)]; rfl) ?_
      refine g_cS1r hX mkX2_turnStep ml_X2_39 (c_X2_turnStep) dX2_fewestFor_46 rfl (by decide) (Nat.le_of_ble_eq_true rfl) ?_
      refine g_aload_1 hX dX2_fewestFor_49 ?_
      refine g_iload_2 hX dX2_fewestFor_50 ?_
      refine g_iload_3 hX dX2_fewestFor_51 ?_
      refine g_cV2r hX mkX0_bumpRoom ml_X2_42 (c_X0_bumpRoom h_o hl6 (by omega) (by rw [hm _ (by omega) (by omega)]; exact hne.1)) (h_o.obj _) dX2_fewestFor_52 rfl (by decide) (Nat.le_of_ble_eq_true rfl) ?_
      refine g_top (nI (roN (cv b o) l k)) (by rw [hcm]; exact hro.1) ?_
      refine g_aload_1 hX dX2_fewestFor_55 ?_
      refine g_iconst hX 5 dX2_fewestFor_56 (by decide) ?_
      refine g_cV1r hX mkX0_settingAt ml_X2_45 (c_X0_settingAt (k := 5) h_o (by decide)) (h_o.obj _) dX2_fewestFor_57 rfl (by decide) (Nat.le_of_ble_eq_true rfl) ?_
      refine g_top (nI (phN (cv b o))) (by rw [hm _ (by omega) (by omega)]; exact hph.1) ?_
      refine g_cV3v hX mkX2_passRun ml_X2_48 (c_X2_passRun hts (by omega) hph.2) (ob_66 Z _) dX2_fewestFor_60 rfl (by decide) (Nat.le_of_ble_eq_true rfl) ?_
      refine g_aload_0 hX dX2_fewestFor_63 ?_
      refine gt_X2_next hX dX2_fewestFor_64 ?_
      refine g_aload_0 hX dX2_fewestFor_67 ?_
      refine gt_X2_fewest hX dX2_fewestFor_68 ?_
      refine g_cN2v hX mkX5_copy nl_X2_52 (c_X5_copy (ar_68 Z) (ar_67 Z) (by decide)) dX2_fewestFor_71 rfl (by decide) (Nat.le_of_ble_eq_true rfl) ?_
      refine g_iinc_3 hX 1 dX2_fewestFor_74 (by decide) rfl ?_
      refine g_goto hX 21 dX2_fewestFor_77 (by decide) ?_
      exact g_cast ih21 rfl (by simp only [nI_succ]) rfl
  · show G Z X (ffM b (cv b o) l (rn (cv b o) l)) 21 ([some (.ref (zad Z 66)), some (.ref (zad Z o)), some (.int (nI l)), some (.int (nI (rn (cv b o) l)))]) _
    refine g_iload_3 hX dX2_fewestFor_21 ?_
    refine g_aload_1 hX dX2_fewestFor_22 ?_
    refine g_iload_2 hX dX2_fewestFor_23 ?_
    refine g_cV1r hX mkX0_runsOf ml_X2_29 (c_X0_runsOf h_o hl6) (h_o.obj _) dX2_fewestFor_24 rfl (by decide) (Nat.le_of_ble_eq_true rfl) ?_
    refine g_icmp_ge hX 80 dX2_fewestFor_27 (by decide) (fun c27 => ?_) (fun c27 => ?_)
    · refine g_aload_0 hX dX2_fewestFor_80 ?_
      refine gt_X2_fewest hX dX2_fewestFor_81 ?_
      refine g_bipush hX 7 dX2_fewestFor_84 (by decide) ?_
      refine g_cN2r hX mkX5_at nl_X2_56 (c_X5_at (k := 7) (ar_67 Z) (by decide) (by decide)) dX2_fewestFor_86 rfl (by decide) (Nat.le_of_ble_eq_true rfl) ?_
      refine g_istore_3 hX dX2_fewestFor_89 rfl ?_
      refine g_iload_3 hX dX2_fewestFor_90 ?_
      refine g_ldc hX 1000000 co_X2_18 dX2_fewestFor_91 ?_
      refine g_icmp_ge hX 100 dX2_fewestFor_93 (by decide) (fun c93 => ?_) (fun c93 => ?_)
      · refine g_iconst hX (-1) dX2_fewestFor_100 (by decide) ?_
        exact hq _ _ _ _ dX2_fewestFor_101 (by rfl) (by first | (unfold bumpS; rw [if_pos c93]; done) | (unfold bumpS; rw [if_neg c93]; done))
      · refine g_iload_3 hX dX2_fewestFor_96 ?_
        refine g_goto hX 101 dX2_fewestFor_97 (by decide) ?_
        exact hq _ _ _ _ dX2_fewestFor_101 (by rfl) (by first | (unfold bumpS; rw [if_pos c93]; done) | (unfold bumpS; rw [if_neg c93]; done))
    · exact absurd c27 (by rw [ffM_c _ _ _ _ (by omega) (by omega), hr]; exact Int32.lt_irrefl)
end
section
/-! SnakedBus$Past -/
theorem kept_bus (Z : Zt) {k : Nat} (h : k < 5) : isBus Z (15 + 7 * k) := by
  rcases (show k = 0 ∨ k = 1 ∨ k = 2 ∨ k = 3 ∨ k = 4 by omega) with rfl | rfl | rfl | rfl | rfl
  · exact bus_15 Z
  · exact bus_22 Z
  · exact bus_29 Z
  · exact bus_36 Z
  · exact bus_43 Z
theorem tk_c (b : Mem) {o p j : Nat} (h : j < o ∨ o + 6 < j) : tk b o p j = b j := by
  unfold tk cp6
  rw [u2c _ _ (by omega), u2c _ _ (by omega), u1c _ _ (by omega), u1c _ _ (by omega), u1c _ _ (by omega), u1c _ _ (by omega), u1c _ _ (by omega), u1c _ _ (by omega)]
theorem rem5 {a : Nat} (h : a < 1000) : jrem (nI a) 5 = nI (a % 5) := pk_rem (d := 5) (by omega) (by decide) (by decide)
theorem nI_s1 (a : Nat) : nI a + 1 = nI (a + 1) := nI_1 a
def keepM (b : Mem) (k h o : Nat) : Mem := up2 (up2 (tk b (15 + 7 * k) o) 50 1 (nI ((k + 1) % 5))) 50 2 (nI (min 5 (h + 1)))
def giveM (b : Mem) (k h o : Nat) : Mem := if h = 0 then b else up2 (up2 (tk b o (15 + 7 * ((k + 4) % 5))) 50 1 (nI ((k + 4) % 5))) 50 2 (nI h - 1)
set_option maxRecDepth 100000 in
set_option maxHeartbeats 4000000 in
theorem c_X1_size {Z : Zt} {b : Mem}  : Con Z yX1_size cX1_size 1 (some .int) 0 [.ref (zad Z 50)] b (some (.int (b 50 2))) (b) := by
  refine con_i (by decide) (Nat.le_of_ble_eq_true rfl) rfl (fun X hX hq => ?_)
  have hX : Ok Z X cX1_size 1 RX1 0 := hX
  show G Z X b 0 [some (.ref (zad Z 50))] []
  refine g_aload_0 hX dX1_size_0 ?_
  refine gt_X1_held hX dX1_size_1 ?_
  exact hq _ _ _ _ dX1_size_4 (by rfl) (by rfl)
set_option maxRecDepth 100000 in
set_option maxHeartbeats 4000000 in
theorem c_X1_slotAt {Z : Zt} {b : Mem} {k : Nat} (hk : k < 5) : Con Z yX1_slotAt cX1_slotAt 2 (some (.object "SnakedBus$Bus")) 0 [.ref (zad Z 50), .int (nI k)] b (some (.ref (zad Z (15 + 7 * k)))) (b) := by
  refine con_a (by decide) (Nat.le_of_ble_eq_true rfl) rfl (fun X hX hq => ?_)
  have hX : Ok Z X cX1_slotAt 2 RX1 0 := hX
  show G Z X b 0 [some (.ref (zad Z 50)), some (.int (nI k))] []
  refine g_iload_1 hX dX1_slotAt_0 ?_
  refine g_if_lt hX 22 dX1_slotAt_1 (by decide) (fun c1 => ?_) (fun c1 => ?_)
  · exact absurd c1 (nI_pos (by omega))
  · refine g_iload_1 hX dX1_slotAt_4 ?_
    refine g_aload_0 hX dX1_slotAt_5 ?_
    refine gt_X1_kept hX dX1_slotAt_6 ?_
    refine g_alenB hX dX1_slotAt_9 ?_
    refine g_icmp_ge hX 22 dX1_slotAt_10 (by decide) (fun c10 => ?_) (fun c10 => ?_)
    · exact absurd c10 (not_not_intro (nI_lt (b := 5) hk (by decide)))
    · refine g_aload_0 hX dX1_slotAt_13 ?_
      refine gt_X1_kept hX dX1_slotAt_14 ?_
      refine g_iload_1 hX dX1_slotAt_17 ?_
      refine g_aaload hX (vin hk (by decide)) dX1_slotAt_18 ?_
      refine g_goto hX 23 dX1_slotAt_19 (by decide) ?_
      exact hq _ _ _ _ dX1_slotAt_23 (by rfl) (by rw [nI_clamp (by omega)])
set_option maxRecDepth 100000 in
set_option maxHeartbeats 4000000 in
theorem c_X1_keep {Z : Zt} {b : Mem} {o k h : Nat} (h_o : isBus Z o) (hp : b 50 1 = nI k) (hk : k < 5) (hh : b 50 2 = nI h) (h5 : h ≤ 5) (ho : o + 6 < 15) : Con Z yX1_keep cX1_keep 3 none 3 [.ref (zad Z 50), .ref (zad Z o)] b none (keepM b k h o) := by
  refine con_v (by decide) (Nat.le_of_ble_eq_true rfl) rfl (fun X hX hq => ?_)
  have hX : Ok Z X cX1_keep 3 RX1 3 := hX
  show G Z X b 0 [some (.ref (zad Z 50)), some (.ref (zad Z o)), none] []
  refine g_aload_0 hX dX1_keep_0 ?_
  refine g_aload_0 hX dX1_keep_1 ?_
  refine gt_X1_place hX dX1_keep_2 ?_
  refine g_top _ hp ?_
  refine g_cV1r hX mkX1_slotAt ml_X1_25 (c_X1_slotAt hk) (ob_50 Z _) dX1_keep_5 rfl (by decide) (Nat.le_of_ble_eq_true rfl) ?_
  refine g_astore_2 hX dX1_keep_8 rfl ?_
  refine g_aload_2 hX dX1_keep_9 ?_
  refine g_ifnull hX dX1_keep_10 ?_
  refine g_aload_2 hX dX1_keep_13 ?_
  refine g_aload_1 hX dX1_keep_14 ?_
  refine g_cV1v hX mkX0_takeFrom ml_X1_29 (c_X0_takeFrom (kept_bus Z hk) h_o (by omega)) ((kept_bus Z hk).obj _) dX1_keep_15 rfl (by decide) (Nat.le_of_ble_eq_true rfl) ?_
  refine g_aload_0 hX dX1_keep_18 ?_
  refine g_aload_0 hX dX1_keep_19 ?_
  refine gt_X1_place hX dX1_keep_20 ?_
  refine g_iconst hX 1 dX1_keep_23 (by decide) ?_
  refine g_iadd hX dX1_keep_24 ?_
  refine g_iconst hX 5 dX1_keep_25 (by decide) ?_
  refine g_cast (st' := [.int 5, .int (nI (k + 1)), .ref (zad Z 50)]) ?_ rfl rfl (by rw [tk_c _ (by omega), hp, nI_s1])
  refine g_irem hX dX1_keep_26 (by decide) ?_
  refine g_top _ (rem5 (by omega)) ?_
  refine pt_X1_place hX dX1_keep_27 ?_
  refine g_aload_0 hX dX1_keep_30 ?_
  refine g_iconst hX 5 dX1_keep_31 (by decide) ?_
  refine g_aload_0 hX dX1_keep_32 ?_
  refine gt_X1_held hX dX1_keep_33 ?_
  refine g_iconst hX 1 dX1_keep_36 (by decide) ?_
  refine g_iadd hX dX1_keep_37 ?_
  refine g_top (nI (h + 1)) (by rw [u2k _ _ (by decide), tk_c _ (by omega), hh, nI_s1]) ?_
  refine g_min hX ml_X1_33 mm_min_s mm_ini mm_min_c dX1_keep_38 rfl (by decide) (Nat.le_of_ble_eq_true rfl) ?_
  refine g_top (nI (min 5 (h + 1))) (by
    show (if nI (h + 1) < nI 5 then nI (h + 1) else nI 5) = _
    by_cases q : h + 1 < 5
    · rw [if_pos (nI_lt (b := 5) q (by decide)), Nat.min_eq_right (by omega)]
    · rw [if_neg (nI_nlt (a := h + 1) (b := 5) (by omega) (by omega)), Nat.min_eq_left (by omega)]) ?_
  refine pt_X1_held hX dX1_keep_41 ?_
  exact hq _ _ _ dX1_keep_44 (by rfl)
set_option maxRecDepth 100000 in
set_option maxHeartbeats 4000000 in
theorem c_X1_giveBack {Z : Zt} {b : Mem} {o k h : Nat} (h_o : isBus Z o) (hp : b 50 1 = nI k) (hk : k < 5) (hh : b 50 2 = nI h) (h5 : h ≤ 5) (ho : o + 6 < 15) : Con Z yX1_giveBack cX1_giveBack 4 (some .boolean) 3 [.ref (zad Z 50), .ref (zad Z o)] b (some (.int (bI (¬ h = 0)))) (giveM b k h o) := by
  have hk2 : (k + 4) % 5 < 5 := Nat.mod_lt _ (by decide)
  have h0 : b 50 2 = 0 ↔ h = 0 := by rw [hh]; exact nI0 (by omega)
  refine con_z (by decide) (Nat.le_of_ble_eq_true rfl) rfl (bI_n _) (fun X hX hq => ?_)
  have hX : Ok Z X cX1_giveBack 4 RX1 3 := hX
  show G Z X b 0 [some (.ref (zad Z 50)), some (.ref (zad Z o)), none, none] []
  refine g_aload_0 hX dX1_giveBack_0 ?_
  refine gt_X1_place hX dX1_giveBack_1 ?_
  refine g_iconst hX 5 dX1_giveBack_4 (by decide) ?_
  refine g_iadd hX dX1_giveBack_5 ?_
  refine g_iconst hX 1 dX1_giveBack_6 (by decide) ?_
  refine g_isub hX dX1_giveBack_7 ?_
  refine g_iconst hX 5 dX1_giveBack_8 (by decide) ?_
  refine g_cast (st' := [.int 5, .int (nI (k + 4))]) ?_ rfl rfl (by rw [hp, show (5 : Int32) = nI 5 from rfl, nI_add, show (1 : Int32) = nI 1 from rfl, pk_sub (by omega)]; rfl)
  refine g_irem hX dX1_giveBack_9 (by decide) ?_
  refine g_top _ (rem5 (by omega)) ?_
  refine g_istore_2 hX dX1_giveBack_10 rfl ?_
  refine g_aload_0 hX dX1_giveBack_11 ?_
  refine g_iload_2 hX dX1_giveBack_12 ?_
  refine g_cV1r hX mkX1_slotAt ml_X1_25 (c_X1_slotAt hk2) (ob_50 Z _) dX1_giveBack_13 rfl (by decide) (Nat.le_of_ble_eq_true rfl) ?_
  refine g_astore_3 hX dX1_giveBack_16 rfl ?_
  refine g_aload_0 hX dX1_giveBack_17 ?_
  refine gt_X1_held hX dX1_giveBack_18 ?_
  refine g_if_eq hX 28 dX1_giveBack_21 (by decide) (fun c21 => ?_) (fun c21 => ?_)
  · refine g_iconst hX 0 dX1_giveBack_28 (by decide) ?_
    exact hq _ _ _ _ dX1_giveBack_29 (by rw [giveM, if_pos (h0.mp c21)]) (by rw [bI_f (not_not_intro (h0.mp c21))])
  · refine g_aload_3 hX dX1_giveBack_24 ?_
    refine g_ifnonnull hX 30 dX1_giveBack_25 (by decide) ?_
    refine g_aload_1 hX dX1_giveBack_30 ?_
    refine g_aload_3 hX dX1_giveBack_31 ?_
    refine g_cV1v hX mkX0_takeFrom ml_X1_29 (c_X0_takeFrom h_o (kept_bus Z hk2) (by omega)) (h_o.obj _) dX1_giveBack_32 rfl (by decide) (Nat.le_of_ble_eq_true rfl) ?_
    refine g_aload_0 hX dX1_giveBack_35 ?_
    refine g_iload_2 hX dX1_giveBack_36 ?_
    refine pt_X1_place hX dX1_giveBack_37 ?_
    refine g_aload_0 hX dX1_giveBack_40 ?_
    refine g_dup hX dX1_giveBack_41 rfl ?_
    refine gt_X1_held hX dX1_giveBack_42 ?_
    refine g_top (nI h) (by rw [u2k _ _ (by decide), tk_c _ (by omega), hh]) ?_
    refine g_iconst hX 1 dX1_giveBack_45 (by decide) ?_
    refine g_isub hX dX1_giveBack_46 ?_
    refine pt_X1_held hX dX1_giveBack_47 ?_
    refine g_iconst hX 1 dX1_giveBack_50 (by decide) ?_
    exact hq _ _ _ _ dX1_giveBack_51 (by rw [giveM, if_neg (fun q => c21 (h0.mpr q))]) (by rw [bI_t (show ¬ h = 0 from fun q => c21 (h0.mpr q))])
end
section
/-! SnakedBus$Text -/
def nOf (c : Int32) : Nat := if c = 103 then 3 else if c = 107 then 2 else if c = 108 then 1 else if c = 115 then 2 else if c = 119 then 2 else 0
theorem nOf_le (c : Int32) : nOf c ≤ 3 := by unfold nOf; repeat (first | omega | split)
theorem sw5 (x : Int32) : x = 103 ∨ x = 107 ∨ x = 108 ∨ x = 115 ∨ x = 119 ∨ ((103 : Int) ≠ x.toInt ∧ (107 : Int) ≠ x.toInt ∧ (108 : Int) ≠ x.toInt ∧ (115 : Int) ≠ x.toInt ∧ (119 : Int) ≠ x.toInt) := by
  have key : ∀ n : Nat, n < 1000 → x.toInt = n → x = nI n := fun n hn h => Int32.toInt_inj.mp (by rw [h, nI_toInt (by omega)])
  by_cases h1 : (103 : Int) = x.toInt
  · exact Or.inl (key 103 (by decide) h1.symm)
  by_cases h2 : (107 : Int) = x.toInt
  · exact Or.inr (Or.inl (key 107 (by decide) h2.symm))
  by_cases h3 : (108 : Int) = x.toInt
  · exact Or.inr (Or.inr (Or.inl (key 108 (by decide) h3.symm)))
  by_cases h4 : (115 : Int) = x.toInt
  · exact Or.inr (Or.inr (Or.inr (Or.inl (key 115 (by decide) h4.symm))))
  by_cases h5 : (119 : Int) = x.toInt
  · exact Or.inr (Or.inr (Or.inr (Or.inr (Or.inl (key 119 (by decide) h5.symm)))))
  exact Or.inr (Or.inr (Or.inr (Or.inr (Or.inr ⟨h1, h2, h3, h4, h5⟩))))
theorem sw5_ne {x : Int32} (h : (103 : Int) ≠ x.toInt ∧ (107 : Int) ≠ x.toInt ∧ (108 : Int) ≠ x.toInt ∧ (115 : Int) ≠ x.toInt ∧ (119 : Int) ≠ x.toInt) : nOf x = 0 := by
  obtain ⟨h1, h2, h3, h4, h5⟩ := h
  unfold nOf
  rw [if_neg (by rintro rfl; exact h1 rfl), if_neg (by rintro rfl; exact h2 rfl), if_neg (by rintro rfl; exact h3 rfl), if_neg (by rintro rfl; exact h4 rfl), if_neg (by rintro rfl; exact h5 rfl)]
def figB (b : Mem) : Bool := if b 52 7 = 0 then decide (¬ b 52 6 = nI (nOf (b 52 5))) else decide (¬ b 52 7 = 3)
def opM (b : Mem) (c : Int32) : Mem := up2 (up2 (up2 b 52 5 c) 52 6 0) 52 7 0
def clM (b : Mem) (w : Nat) : Mem := up2 (up2 (up2 b 54 w (b 52 5)) 52 4 (nI w + 1)) 52 5 0
def fg1 (b : Mem) (w g : Nat) : Mem := up2 (up2 b 52 6 (nI g + 1)) 55 (w * 3 + g) 0
def fg2 (b : Mem) (w g : Nat) (d : Int32) : Mem := up2 (up2 b 52 7 (b 52 7 + 1)) 55 (w * 3 + g) (10 * b 55 (w * 3 + g) + d)
def fgM (b : Mem) (w g : Nat) (d : Int32) : Mem := if figB b = true then (if b 52 7 = 0 then fg2 (fg1 b w g) w g d else fg2 b w (g - 1) d) else b
def tcB (b : Mem) (c : Int32) : Bool := if c = 32 then true else if b 52 5 = 0 then decide (¬ nOf c = 0) else if c = 59 then decide (b 52 6 = nI (nOf (b 52 5))) else decide (¬ c < 48 ∧ ¬ 57 < c) && figB b
def tcM (b : Mem) (w g : Nat) (c : Int32) : Mem := if tcB b c = true then (if c = 32 then up2 b 52 7 0 else if b 52 5 = 0 then opM b c else if c = 59 then clM b w else fgM b w g (c - 48)) else b
set_option maxRecDepth 100000 in
set_option maxHeartbeats 4000000 in
theorem c_X4_size {Z : Zt} {b : Mem}  : Con Z yX4_size cX4_size 1 (some .int) 0 [.ref (zad Z 52)] b (some (.int (b 52 3))) (b) := by
  refine con_i (by decide) (Nat.le_of_ble_eq_true rfl) rfl (fun X hX hq => ?_)
  have hX : Ok Z X cX4_size 1 RX4 0 := hX
  show G Z X b 0 [some (.ref (zad Z 52))] []
  refine g_aload_0 hX dX4_size_0 ?_
  refine gt_X4_many hX dX4_size_1 ?_
  exact hq _ _ _ _ dX4_size_4 (by rfl) (by rfl)
set_option maxRecDepth 100000 in
set_option maxHeartbeats 4000000 in
theorem c_X4_orderCount {Z : Zt} {b : Mem}  : Con Z yX4_orderCount cX4_orderCount 1 (some .int) 0 [.ref (zad Z 52)] b (some (.int (b 52 4))) (b) := by
  refine con_i (by decide) (Nat.le_of_ble_eq_true rfl) rfl (fun X hX hq => ?_)
  have hX : Ok Z X cX4_orderCount 1 RX4 0 := hX
  show G Z X b 0 [some (.ref (zad Z 52))] []
  refine g_aload_0 hX dX4_orderCount_0 ?_
  refine gt_X4_orders hX dX4_orderCount_1 ?_
  exact hq _ _ _ _ dX4_orderCount_4 (by rfl) (by rfl)
set_option maxRecDepth 100000 in
set_option maxHeartbeats 4000000 in
theorem c_X4_empty {Z : Zt} {b : Mem}  : Con Z yX4_empty cX4_empty 1 none 0 [.ref (zad Z 52)] b none (up2 b 52 3 0) := by
  refine con_v (by decide) (Nat.le_of_ble_eq_true rfl) rfl (fun X hX hq => ?_)
  have hX : Ok Z X cX4_empty 1 RX4 0 := hX
  show G Z X b 0 [some (.ref (zad Z 52))] []
  refine g_aload_0 hX dX4_empty_0 ?_
  refine g_iconst hX 0 dX4_empty_1 (by decide) ?_
  refine pt_X4_many hX dX4_empty_2 ?_
  exact hq _ _ _ dX4_empty_5 (by rfl)
set_option maxRecDepth 100000 in
set_option maxHeartbeats 4000000 in
theorem c_X4_append {Z : Zt} {b : Mem} {c : Int32} {n : Nat} (hn : b 52 3 = nI n) (h120 : n ≤ 120) : Con Z yX4_append cX4_append 2 (some .boolean) 1 [.ref (zad Z 52), .int c] b (some (.int (bI (b 52 3 < 120)))) (if b 52 3 < 120 then up2 (up2 b 53 n c) 52 3 (nI n + 1) else b) := by
  refine con_z (by decide) (Nat.le_of_ble_eq_true rfl) rfl (bI_n _) (fun X hX hq => ?_)
  have hX : Ok Z X cX4_append 2 RX4 1 := hX
  show G Z X b 0 [some (.ref (zad Z 52)), some (.int c)] []
  refine g_aload_0 hX dX4_append_0 ?_
  refine gt_X4_many hX dX4_append_1 ?_
  refine g_bipush hX 120 dX4_append_4 (by decide) ?_
  refine g_icmp_lt hX 11 dX4_append_6 (by decide) (fun c6 => ?_) (fun c6 => ?_)
  · have h1 : n < 120 := (nI_ltI (b := 120) (by omega) (by decide)).mp (by rw [← hn]; exact c6)
    refine g_aload_0 hX dX4_append_11 ?_
    refine gt_X4_bytes hX dX4_append_12 ?_
    refine g_aload_0 hX dX4_append_15 ?_
    refine gt_X4_many hX dX4_append_16 ?_
    refine g_top _ hn ?_
    refine g_iload_1 hX dX4_append_19 ?_
    refine g_cN3v hX mkX5_put nl_X4_37 (c_X5_put (ar_53 Z) h1 (by decide)) dX4_append_20 rfl (by decide) (Nat.le_of_ble_eq_true rfl) ?_
    refine g_aload_0 hX dX4_append_23 ?_
    refine g_dup hX dX4_append_24 rfl ?_
    refine gt_X4_many hX dX4_append_25 ?_
    refine g_top (nI n) (by rw [u2c _ _ (by decide), hn]) ?_
    refine g_iconst hX 1 dX4_append_28 (by decide) ?_
    refine g_iadd hX dX4_append_29 ?_
    refine pt_X4_many hX dX4_append_30 ?_
    refine g_iconst hX 1 dX4_append_33 (by decide) ?_
    exact hq _ _ _ _ dX4_append_34 (by rw [if_pos c6]) (by rw [bI_t c6])
  · refine g_iconst hX 0 dX4_append_9 (by decide) ?_
    exact hq _ _ _ _ dX4_append_10 (by rw [if_neg c6]) (by rw [bI_f c6])
set_option maxRecDepth 100000 in
set_option maxHeartbeats 4000000 in
theorem c_X4_numbersOf {Z : Zt} {b : Mem} {x : Int32} : Con Z yX4_numbersOf cX4_numbersOf 1 (some .int) 0 [.int x] b (some (.int (nI (nOf x)))) (b) := by
  refine con_i (by decide) (Nat.le_of_ble_eq_true rfl) rfl (fun X hX hq => ?_)
  have hX : Ok Z X cX4_numbersOf 1 RX4 0 := hX
  show G Z X b 0 [some (.int x)] []
  refine g_iload_0 hX dX4_numbersOf_0 ?_
  rcases sw5 x with rfl | rfl | rfl | rfl | rfl | hsw
  · refine g_lookup (off := 53) hX 54 dX4_numbersOf_1 (by decide) (by decide) (by decide) ?_
    refine g_iconst hX 3 dX4_numbersOf_54 (by decide) ?_
    exact hq _ _ _ _ dX4_numbersOf_55 (by rfl) (by rfl)
  · refine g_lookup (off := 55) hX 56 dX4_numbersOf_1 (by decide) (by decide) (by decide) ?_
    refine g_iconst hX 2 dX4_numbersOf_56 (by decide) ?_
    exact hq _ _ _ _ dX4_numbersOf_57 (by rfl) (by rfl)
  · refine g_lookup (off := 51) hX 52 dX4_numbersOf_1 (by decide) (by decide) (by decide) ?_
    refine g_iconst hX 1 dX4_numbersOf_52 (by decide) ?_
    exact hq _ _ _ _ dX4_numbersOf_53 (by rfl) (by rfl)
  · refine g_lookup (off := 55) hX 56 dX4_numbersOf_1 (by decide) (by decide) (by decide) ?_
    refine g_iconst hX 2 dX4_numbersOf_56 (by decide) ?_
    exact hq _ _ _ _ dX4_numbersOf_57 (by rfl) (by rfl)
  · refine g_lookup (off := 55) hX 56 dX4_numbersOf_1 (by decide) (by decide) (by decide) ?_
    refine g_iconst hX 2 dX4_numbersOf_56 (by decide) ?_
    exact hq _ _ _ _ dX4_numbersOf_57 (by rfl) (by rfl)
  · refine g_lookup (off := 57) hX 58 dX4_numbersOf_1 (by decide) (by simp [Op.lookupswitch.offset, hsw]) (by decide) ?_
    refine g_iconst hX 0 dX4_numbersOf_58 (by decide) ?_
    exact hq _ _ _ _ dX4_numbersOf_59 (by rfl) (by rw [sw5_ne hsw]; rfl)
set_option maxRecDepth 100000 in
set_option maxHeartbeats 4000000 in
theorem c_X4_opens {Z : Zt} {b : Mem} {c : Int32} : Con Z yX4_opens cX4_opens 2 (some .boolean) 1 [.ref (zad Z 52), .int c] b (some (.int (bI (¬ nOf c = 0)))) (if nOf c = 0 then b else opM b c) := by
  have hz : nI (nOf c) = 0 ↔ nOf c = 0 := nI0 (by have := nOf_le c; omega)
  refine con_z (by decide) (Nat.le_of_ble_eq_true rfl) rfl (bI_n _) (fun X hX hq => ?_)
  have hX : Ok Z X cX4_opens 2 RX4 1 := hX
  show G Z X b 0 [some (.ref (zad Z 52)), some (.int c)] []
  refine g_iload_1 hX dX4_opens_0 ?_
  refine g_cS1r hX mkX4_numbersOf ml_X4_63 (c_X4_numbersOf) dX4_opens_1 rfl (by decide) (Nat.le_of_ble_eq_true rfl) ?_
  refine g_if_ne hX 9 dX4_opens_4 (by decide) (fun c4 => ?_) (fun c4 => ?_)
  · refine g_aload_0 hX dX4_opens_9 ?_
    refine g_iload_1 hX dX4_opens_10 ?_
    refine pt_X4_letter hX dX4_opens_11 ?_
    refine g_aload_0 hX dX4_opens_14 ?_
    refine g_iconst hX 0 dX4_opens_15 (by decide) ?_
    refine pt_X4_begun hX dX4_opens_16 ?_
    refine g_aload_0 hX dX4_opens_19 ?_
    refine g_iconst hX 0 dX4_opens_20 (by decide) ?_
    refine pt_X4_figures hX dX4_opens_21 ?_
    refine g_iconst hX 1 dX4_opens_24 (by decide) ?_
    exact hq _ _ _ _ dX4_opens_25 (by rw [if_neg (fun q => c4 (hz.mpr q))]; rfl) (by rw [bI_t (show ¬ nOf c = 0 from fun q => c4 (hz.mpr q))])
  · refine g_iconst hX 0 dX4_opens_7 (by decide) ?_
    exact hq _ _ _ _ dX4_opens_8 (by rw [if_pos (hz.mp c4)]) (by rw [bI_f (not_not_intro (hz.mp c4))])
set_option maxRecDepth 100000 in
set_option maxHeartbeats 4000000 in
theorem c_X4_closes {Z : Zt} {b : Mem} {w : Nat} (hw : b 52 4 = nI w) (h40 : w < 40) : Con Z yX4_closes cX4_closes 1 (some .boolean) 1 [.ref (zad Z 52)] b (some (.int (bI (b 52 6 = nI (nOf (b 52 5)))))) (if b 52 6 = nI (nOf (b 52 5)) then clM b w else b) := by
  refine con_z (by decide) (Nat.le_of_ble_eq_true rfl) rfl (bI_n _) (fun X hX hq => ?_)
  have hX : Ok Z X cX4_closes 1 RX4 1 := hX
  show G Z X b 0 [some (.ref (zad Z 52))] []
  refine g_aload_0 hX dX4_closes_0 ?_
  refine gt_X4_begun hX dX4_closes_1 ?_
  refine g_aload_0 hX dX4_closes_4 ?_
  refine gt_X4_letter hX dX4_closes_5 ?_
  refine g_cS1r hX mkX4_numbersOf ml_X4_63 (c_X4_numbersOf) dX4_closes_8 rfl (by decide) (Nat.le_of_ble_eq_true rfl) ?_
  refine g_icmp_eq hX 16 dX4_closes_11 (by decide) (fun c11 => ?_) (fun c11 => ?_)
  · refine g_aload_0 hX dX4_closes_16 ?_
    refine gt_X4_letters hX dX4_closes_17 ?_
    refine g_aload_0 hX dX4_closes_20 ?_
    refine gt_X4_orders hX dX4_closes_21 ?_
    refine g_top _ hw ?_
    refine g_aload_0 hX dX4_closes_24 ?_
    refine gt_X4_letter hX dX4_closes_25 ?_
    refine g_cN3v hX mkX5_put nl_X4_37 (c_X5_put (ar_54 Z) h40 (by decide)) dX4_closes_28 rfl (by decide) (Nat.le_of_ble_eq_true rfl) ?_
    refine g_aload_0 hX dX4_closes_31 ?_
    refine g_dup hX dX4_closes_32 rfl ?_
    refine gt_X4_orders hX dX4_closes_33 ?_
    refine g_top (nI w) (by rw [u2c _ _ (by decide), hw]) ?_
    refine g_iconst hX 1 dX4_closes_36 (by decide) ?_
    refine g_iadd hX dX4_closes_37 ?_
    refine pt_X4_orders hX dX4_closes_38 ?_
    refine g_aload_0 hX dX4_closes_41 ?_
    refine g_iconst hX 0 dX4_closes_42 (by decide) ?_
    refine pt_X4_letter hX dX4_closes_43 ?_
    refine g_iconst hX 1 dX4_closes_46 (by decide) ?_
    exact hq _ _ _ _ dX4_closes_47 (by rw [if_pos c11]; rfl) (by rw [bI_t c11])
  · refine g_iconst hX 0 dX4_closes_14 (by decide) ?_
    exact hq _ _ _ _ dX4_closes_15 (by rw [if_neg c11]) (by rw [bI_f c11])
theorem g3 {g n : Nat} (h : ¬ nI g = nI n) (hg : g ≤ n) (hn : n ≤ 3) : g < 3 ∧ g < n := by
  have : g ≠ n := fun q => h (by rw [q])
  omega
set_option maxRecDepth 100000 in
set_option maxHeartbeats 4000000 in
theorem c_X4_tf_first {Z : Zt} {b : Mem} {x : Int32} {w g f : Nat} (hw : b 52 4 = nI w) (h40 : w < 40) (hg : b 52 6 = nI g) (hgn : g ≤ nOf (b 52 5)) (hf : b 52 7 = nI f) (hf3 : f ≤ 3) (hfg : 0 < f → 1 ≤ g) (h0 : b 52 7 = 0) : Con Z yX4_takesFigure cX4_takesFigure 3 (some .boolean) 1 [.ref (zad Z 52), .int x] b (some (.int (bI (figB b = true)))) (fgM b w g x) := by
  have n3 := nOf_le (b 52 5)
  refine con_z (by decide) (Nat.le_of_ble_eq_true rfl) rfl (bI_n _) (fun X hX hq => ?_)
  have hX : Ok Z X cX4_takesFigure 3 RX4 1 := hX
  show G Z X b 0 [some (.ref (zad Z 52)), some (.int x), none] []
  refine g_aload_0 hX dX4_takesFigure_0 ?_
  refine gt_X4_figures hX dX4_takesFigure_1 ?_
  refine g_if_ne hX 55 dX4_takesFigure_4 (by decide) (fun c4 => ?_) (fun c4 => ?_)
  · exact absurd c4 (not_not_intro h0)
  · refine g_aload_0 hX dX4_takesFigure_7 ?_
    refine gt_X4_begun hX dX4_takesFigure_8 ?_
    refine g_aload_0 hX dX4_takesFigure_11 ?_
    refine gt_X4_letter hX dX4_takesFigure_12 ?_
    refine g_cS1r hX mkX4_numbersOf ml_X4_63 (c_X4_numbersOf) dX4_takesFigure_15 rfl (by decide) (Nat.le_of_ble_eq_true rfl) ?_
    refine g_cast (st' := [.int (nI (nOf (b 52 5))), .int (nI g)]) ?_ rfl rfl (by rw [hg])
    refine g_icmp_ne hX 23 dX4_takesFigure_18 (by decide) (fun c18 => ?_) (fun c18 => ?_)
    · have hg3 := g3 c18 hgn n3
      refine g_aload_0 hX dX4_takesFigure_23 ?_
      refine g_dup hX dX4_takesFigure_24 rfl ?_
      refine gt_X4_begun hX dX4_takesFigure_25 ?_
      refine g_top _ hg ?_
      refine g_iconst hX 1 dX4_takesFigure_28 (by decide) ?_
      refine g_iadd hX dX4_takesFigure_29 ?_
      refine pt_X4_begun hX dX4_takesFigure_30 ?_
      refine g_aload_0 hX dX4_takesFigure_33 ?_
      refine gt_X4_numbers hX dX4_takesFigure_34 ?_
      refine g_aload_0 hX dX4_takesFigure_37 ?_
      refine gt_X4_orders hX dX4_takesFigure_38 ?_
      refine g_aload_0 hX dX4_takesFigure_41 ?_
      refine gt_X4_begun hX dX4_takesFigure_42 ?_
      refine g_iconst hX 1 dX4_takesFigure_45 (by decide) ?_
      refine g_isub hX dX4_takesFigure_46 ?_
      refine g_iconst hX 3 dX4_takesFigure_47 (by decide) ?_
      refine g_cast (st' := [.int 3, .int (nI g), .int (nI w), .ref (zad Z 55)]) ?_ rfl rfl (by rw [u2s, u2k _ _ (by decide), hw, Int32.add_sub_cancel])
      refine g_cN3r hX mkX5_cell nl_X4_67 (c_X5_cell (w := 3) (by omega) (by decide)) dX4_takesFigure_48 rfl (by decide) (Nat.le_of_ble_eq_true rfl) ?_
      refine g_iconst hX 0 dX4_takesFigure_51 (by decide) ?_
      refine g_cN3v hX mkX5_put nl_X4_37 (c_X5_put (ar_55 Z) (by omega) (by decide)) dX4_takesFigure_52 rfl (by decide) (Nat.le_of_ble_eq_true rfl) ?_
      refine g_aload_0 hX dX4_takesFigure_55 ?_
      refine gt_X4_figures hX dX4_takesFigure_56 ?_
      refine g_iconst hX 3 dX4_takesFigure_59 (by decide) ?_
      refine g_icmp_ne hX 65 dX4_takesFigure_60 (by decide) (fun c60 => ?_) (fun c60 => ?_)
      · refine g_aload_0 hX dX4_takesFigure_65 ?_
        refine g_dup hX dX4_takesFigure_66 rfl ?_
        refine gt_X4_figures hX dX4_takesFigure_67 ?_
        refine g_iconst hX 1 dX4_takesFigure_70 (by decide) ?_
        refine g_iadd hX dX4_takesFigure_71 ?_
        refine pt_X4_figures hX dX4_takesFigure_72 ?_
        refine g_aload_0 hX dX4_takesFigure_75 ?_
        refine gt_X4_orders hX dX4_takesFigure_76 ?_
        refine g_aload_0 hX dX4_takesFigure_79 ?_
        refine gt_X4_begun hX dX4_takesFigure_80 ?_
        refine g_iconst hX 1 dX4_takesFigure_83 (by decide) ?_
        refine g_isub hX dX4_takesFigure_84 ?_
        refine g_iconst hX 3 dX4_takesFigure_85 (by decide) ?_
        refine g_cast (st' := [.int 3, .int (nI g), .int (nI w)]) ?_ rfl rfl (by simp [up2, up1, upd, hw, Int32.add_sub_cancel])
        refine g_cN3r hX mkX5_cell nl_X4_67 (c_X5_cell (w := 3) (by omega) (by decide)) dX4_takesFigure_86 rfl (by decide) (Nat.le_of_ble_eq_true rfl) ?_
        refine g_istore_2 hX dX4_takesFigure_89 rfl ?_
        refine g_aload_0 hX dX4_takesFigure_90 ?_
        refine gt_X4_numbers hX dX4_takesFigure_91 ?_
        refine g_iload_2 hX dX4_takesFigure_94 ?_
        refine g_bipush hX 10 dX4_takesFigure_95 (by decide) ?_
        refine g_aload_0 hX dX4_takesFigure_97 ?_
        refine gt_X4_numbers hX dX4_takesFigure_98 ?_
        refine g_iload_2 hX dX4_takesFigure_101 ?_
        refine g_cN2r hX mkX5_at nl_X4_41 (c_X5_at (ar_55 Z) (by omega) (by decide)) dX4_takesFigure_102 rfl (by decide) (Nat.le_of_ble_eq_true rfl) ?_
        refine g_imul hX dX4_takesFigure_105 ?_
        refine g_iload_1 hX dX4_takesFigure_106 ?_
        refine g_iadd hX dX4_takesFigure_107 ?_
        refine g_cN3v hX mkX5_put nl_X4_37 (c_X5_put (ar_55 Z) (by omega) (by decide)) dX4_takesFigure_108 rfl (by decide) (Nat.le_of_ble_eq_true rfl) ?_
        refine g_iconst hX 1 dX4_takesFigure_111 (by decide) ?_
        exact hq _ _ _ _ dX4_takesFigure_112 (by unfold fgM; rw [if_pos (by unfold figB; rw [if_pos h0]; rw [← hg] at c18; simp [c18]), if_pos h0]; rfl) (by rw [bI_t]; unfold figB; rw [if_pos h0]; rw [← hg] at c18; simp [c18])
      · exact absurd c60 (by rw [u2c _ _ (show (52 : Nat) ≠ 55 by decide), u2k _ _ (show (7 : Nat) ≠ 6 by decide), h0]; decide)
    · refine g_iconst hX 0 dX4_takesFigure_21 (by decide) ?_
      exact hq _ _ _ _ dX4_takesFigure_22 (by unfold fgM; rw [if_neg]; unfold figB; rw [if_pos h0]; rw [← hg] at c18; simp [c18]) (by rw [bI_f]; unfold figB; rw [if_pos h0]; rw [← hg] at c18; simp [c18])
set_option maxRecDepth 100000 in
set_option maxHeartbeats 4000000 in
theorem c_X4_tf_later {Z : Zt} {b : Mem} {x : Int32} {w g f : Nat} (hw : b 52 4 = nI w) (h40 : w < 40) (hg : b 52 6 = nI g) (hgn : g ≤ nOf (b 52 5)) (hf : b 52 7 = nI f) (hf3 : f ≤ 3) (hfg : 0 < f → 1 ≤ g) (h0 : ¬ b 52 7 = 0) : Con Z yX4_takesFigure cX4_takesFigure 3 (some .boolean) 1 [.ref (zad Z 52), .int x] b (some (.int (bI (figB b = true)))) (fgM b w g x) := by
  have n3 := nOf_le (b 52 5)
  have g1 : 1 ≤ g := hfg (Nat.pos_of_ne_zero (fun q => h0 (by rw [hf, q]; rfl)))
  refine con_z (by decide) (Nat.le_of_ble_eq_true rfl) rfl (bI_n _) (fun X hX hq => ?_)
  have hX : Ok Z X cX4_takesFigure 3 RX4 1 := hX
  show G Z X b 0 [some (.ref (zad Z 52)), some (.int x), none] []
  refine g_aload_0 hX dX4_takesFigure_0 ?_
  refine gt_X4_figures hX dX4_takesFigure_1 ?_
  refine g_if_ne hX 55 dX4_takesFigure_4 (by decide) (fun c4 => ?_) (fun c4 => ?_)
  · refine g_aload_0 hX dX4_takesFigure_55 ?_
    refine gt_X4_figures hX dX4_takesFigure_56 ?_
    refine g_iconst hX 3 dX4_takesFigure_59 (by decide) ?_
    refine g_icmp_ne hX 65 dX4_takesFigure_60 (by decide) (fun c60 => ?_) (fun c60 => ?_)
    · refine g_aload_0 hX dX4_takesFigure_65 ?_
      refine g_dup hX dX4_takesFigure_66 rfl ?_
      refine gt_X4_figures hX dX4_takesFigure_67 ?_
      refine g_iconst hX 1 dX4_takesFigure_70 (by decide) ?_
      refine g_iadd hX dX4_takesFigure_71 ?_
      refine pt_X4_figures hX dX4_takesFigure_72 ?_
      refine g_aload_0 hX dX4_takesFigure_75 ?_
      refine gt_X4_orders hX dX4_takesFigure_76 ?_
      refine g_aload_0 hX dX4_takesFigure_79 ?_
      refine gt_X4_begun hX dX4_takesFigure_80 ?_
      refine g_iconst hX 1 dX4_takesFigure_83 (by decide) ?_
      refine g_isub hX dX4_takesFigure_84 ?_
      refine g_iconst hX 3 dX4_takesFigure_85 (by decide) ?_
      refine g_cast (st' := [.int 3, .int (nI (g - 1)), .int (nI w)]) ?_ rfl rfl (by rw [u2k _ _ (by decide), u2k _ _ (by decide), hw, hg, nI_sub1 g1])
      refine g_cN3r hX mkX5_cell nl_X4_67 (c_X5_cell (w := 3) (by omega) (by decide)) dX4_takesFigure_86 rfl (by decide) (Nat.le_of_ble_eq_true rfl) ?_
      refine g_istore_2 hX dX4_takesFigure_89 rfl ?_
      refine g_aload_0 hX dX4_takesFigure_90 ?_
      refine gt_X4_numbers hX dX4_takesFigure_91 ?_
      refine g_iload_2 hX dX4_takesFigure_94 ?_
      refine g_bipush hX 10 dX4_takesFigure_95 (by decide) ?_
      refine g_aload_0 hX dX4_takesFigure_97 ?_
      refine gt_X4_numbers hX dX4_takesFigure_98 ?_
      refine g_iload_2 hX dX4_takesFigure_101 ?_
      refine g_cN2r hX mkX5_at nl_X4_41 (c_X5_at (ar_55 Z) (by omega) (by decide)) dX4_takesFigure_102 rfl (by decide) (Nat.le_of_ble_eq_true rfl) ?_
      refine g_imul hX dX4_takesFigure_105 ?_
      refine g_iload_1 hX dX4_takesFigure_106 ?_
      refine g_iadd hX dX4_takesFigure_107 ?_
      refine g_cN3v hX mkX5_put nl_X4_37 (c_X5_put (ar_55 Z) (by omega) (by decide)) dX4_takesFigure_108 rfl (by decide) (Nat.le_of_ble_eq_true rfl) ?_
      refine g_iconst hX 1 dX4_takesFigure_111 (by decide) ?_
      exact hq _ _ _ _ dX4_takesFigure_112 (by unfold fgM; rw [if_pos (by unfold figB; rw [if_neg h0]; simp [c60]), if_neg h0]; rfl) (by rw [bI_t]; unfold figB; rw [if_neg h0]; simp [c60])
    · refine g_iconst hX 0 dX4_takesFigure_63 (by decide) ?_
      exact hq _ _ _ _ dX4_takesFigure_64 (by unfold fgM; rw [if_neg]; unfold figB; rw [if_neg h0]; simp [c60]) (by rw [bI_f]; unfold figB; rw [if_neg h0]; simp [c60])
  · exact absurd c4 (h0)
theorem c_X4_takesFigure {Z : Zt} {b : Mem} {x : Int32} {w g f : Nat} (hw : b 52 4 = nI w) (h40 : w < 40) (hg : b 52 6 = nI g) (hgn : g ≤ nOf (b 52 5)) (hf : b 52 7 = nI f) (hf3 : f ≤ 3) (hfg : 0 < f → 1 ≤ g) : Con Z yX4_takesFigure cX4_takesFigure 3 (some .boolean) 1 [.ref (zad Z 52), .int x] b (some (.int (bI (figB b = true)))) (fgM b w g x) := by
  by_cases h0 : b 52 7 = 0
  · exact c_X4_tf_first hw h40 hg hgn hf hf3 hfg h0
  · exact c_X4_tf_later hw h40 hg hgn hf hf3 hfg h0
set_option maxRecDepth 100000 in
set_option maxHeartbeats 4000000 in
theorem c_X4_takes {Z : Zt} {b : Mem} {x : Int32} {w g f : Nat} (hw : b 52 4 = nI w) (h40 : ¬ b 52 5 = 0 → w < 40) (hg : b 52 6 = nI g) (hgn : ¬ b 52 5 = 0 → g ≤ nOf (b 52 5)) (hf : b 52 7 = nI f) (hf3 : f ≤ 3) (hfg : ¬ b 52 5 = 0 → 0 < f → 1 ≤ g) : Con Z yX4_takes cX4_takes 2 (some .boolean) 2 [.ref (zad Z 52), .int x] b (some (.int (bI (tcB b x = true)))) (tcM b w g x) := by
  refine con_z (by decide) (Nat.le_of_ble_eq_true rfl) rfl (bI_n _) (fun X hX hq => ?_)
  have hX : Ok Z X cX4_takes 2 RX4 2 := hX
  show G Z X b 0 [some (.ref (zad Z 52)), some (.int x)] []
  refine g_iload_1 hX dX4_takes_0 ?_
  refine g_bipush hX 32 dX4_takes_1 (by decide) ?_
  refine g_icmp_ne hX 13 dX4_takes_3 (by decide) (fun c3 => ?_) (fun c3 => ?_)
  · refine g_aload_0 hX dX4_takes_13 ?_
    refine gt_X4_letter hX dX4_takes_14 ?_
    refine g_if_ne hX 26 dX4_takes_17 (by decide) (fun c17 => ?_) (fun c17 => ?_)
    · refine g_iload_1 hX dX4_takes_26 ?_
      refine g_bipush hX 59 dX4_takes_27 (by decide) ?_
      refine g_icmp_ne hX 37 dX4_takes_29 (by decide) (fun c29 => ?_) (fun c29 => ?_)
      · refine g_iload_1 hX dX4_takes_37 ?_
        refine g_bipush hX 48 dX4_takes_38 (by decide) ?_
        refine g_bipush hX 57 dX4_takes_40 (by decide) ?_
        refine g_cN3r hX mkX5_within nl_X4_56 (c_X5_within) dX4_takes_42 rfl (by decide) (Nat.le_of_ble_eq_true rfl) ?_
        refine g_if_eq hX 63 dX4_takes_45 (by decide) (fun c45 => ?_) (fun c45 => ?_)
        · replace c45 := bI_z.mp c45
          refine g_iconst hX 0 dX4_takes_63 (by decide) ?_
          exact hq _ _ _ _ dX4_takes_64 (by first | (unfold tcM tcB; simp only [if_neg c3, if_neg c17, if_neg c29, c56, decide_eq_true c45]; simp; done) | (unfold tcM tcB; simp only [if_neg c3, if_neg c17, if_neg c29]; unfold fgM; simp [c56]; done) | (unfold tcM tcB; simp only [if_neg c3, if_neg c17, if_neg c29, decide_eq_false c45]; simp; done)) (by first | (rw [bI_t]; unfold tcB; rw [if_neg c3, if_neg c17, if_neg c29, c56]; simp [c45]; done) | (rw [bI_f]; unfold tcB; rw [if_neg c3, if_neg c17, if_neg c29]; simp [c56]; done) | (rw [bI_f]; unfold tcB; rw [if_neg c3, if_neg c17, if_neg c29, decide_eq_false c45]; simp; done))
        · replace c45 := bI_nz.mp c45
          refine g_aload_0 hX dX4_takes_48 ?_
          refine g_iload_1 hX dX4_takes_49 ?_
          refine g_bipush hX 48 dX4_takes_50 (by decide) ?_
          refine g_isub hX dX4_takes_52 ?_
          refine g_cV1r hX mkX4_takesFigure ml_X4_60 (c_X4_takesFigure hw (h40 c17) hg (hgn c17) hf hf3 (hfg c17)) (ob_52 Z _) dX4_takes_53 rfl (by decide) (Nat.le_of_ble_eq_true rfl) ?_
          refine g_if_eq hX 63 dX4_takes_56 (by decide) (fun c56 => ?_) (fun c56 => ?_)
          · replace c56 := bI_z.mp c56
            refine g_iconst hX 0 dX4_takes_63 (by decide) ?_
            exact hq _ _ _ _ dX4_takes_64 (by first | (unfold tcM tcB; simp only [if_neg c3, if_neg c17, if_neg c29, c56, decide_eq_true c45]; simp; done) | (unfold tcM tcB; simp only [if_neg c3, if_neg c17, if_neg c29]; unfold fgM; simp [c56]; done) | (unfold tcM tcB; simp only [if_neg c3, if_neg c17, if_neg c29, decide_eq_false c45]; simp; done)) (by first | (rw [bI_t]; unfold tcB; rw [if_neg c3, if_neg c17, if_neg c29, c56]; simp [c45]; done) | (rw [bI_f]; unfold tcB; rw [if_neg c3, if_neg c17, if_neg c29]; simp [c56]; done) | (rw [bI_f]; unfold tcB; rw [if_neg c3, if_neg c17, if_neg c29, decide_eq_false c45]; simp; done))
          · replace c56 := bI_nz.mp c56
            refine g_iconst hX 1 dX4_takes_59 (by decide) ?_
            refine g_goto hX 64 dX4_takes_60 (by decide) ?_
            exact hq _ _ _ _ dX4_takes_64 (by first | (unfold tcM tcB; simp only [if_neg c3, if_neg c17, if_neg c29, c56, decide_eq_true c45]; simp; done) | (unfold tcM tcB; simp only [if_neg c3, if_neg c17, if_neg c29]; unfold fgM; simp [c56]; done) | (unfold tcM tcB; simp only [if_neg c3, if_neg c17, if_neg c29, decide_eq_false c45]; simp; done)) (by first | (rw [bI_t]; unfold tcB; rw [if_neg c3, if_neg c17, if_neg c29, c56]; simp [c45]; done) | (rw [bI_f]; unfold tcB; rw [if_neg c3, if_neg c17, if_neg c29]; simp [c56]; done) | (rw [bI_f]; unfold tcB; rw [if_neg c3, if_neg c17, if_neg c29, decide_eq_false c45]; simp; done))
      · refine g_aload_0 hX dX4_takes_32 ?_
        refine g_cV0r hX mkX4_closes ml_X4_52 (c_X4_closes hw (h40 c17)) (ob_52 Z _) dX4_takes_33 rfl (by decide) (Nat.le_of_ble_eq_true rfl) ?_
        exact hq _ _ _ _ dX4_takes_36 (by unfold tcM tcB; simp only [if_neg c3, if_neg c17, if_pos c29, decide_eq_true_eq]) (by unfold tcB; rw [if_neg c3, if_neg c17, if_pos c29]; simp only [decide_eq_true_eq])
    · refine g_aload_0 hX dX4_takes_20 ?_
      refine g_iload_1 hX dX4_takes_21 ?_
      refine g_cV1r hX mkX4_opens ml_X4_49 (c_X4_opens) (ob_52 Z _) dX4_takes_22 rfl (by decide) (Nat.le_of_ble_eq_true rfl) ?_
      exact hq _ _ _ _ dX4_takes_25 (by unfold tcM tcB; simp only [if_neg c3, if_pos c17, decide_eq_true_eq]; by_cases q : nOf x = 0 <;> simp [q]) (by unfold tcB; rw [if_neg c3, if_pos c17]; simp only [decide_eq_true_eq])
  · refine g_aload_0 hX dX4_takes_6 ?_
    refine g_iconst hX 0 dX4_takes_7 (by decide) ?_
    refine pt_X4_figures hX dX4_takes_8 ?_
    refine g_iconst hX 1 dX4_takes_11 (by decide) ?_
    exact hq _ _ _ _ dX4_takes_12 (by unfold tcM; rw [if_pos (by unfold tcB; rw [if_pos c3]), if_pos c3]) (by rw [bI_t]; unfold tcB; rw [if_pos c3])
end
