section
-- ===== PART A: goes FIRST, ahead of the names: the tables' words, and 'selects' of the private methods out of them =====
/-- a private method of a class that the tables say can be made, by its rows of tables_1 -/
def lw_okq (q : MethodName × Nat) : Prop := (q.1.cls ≠ "java/lang/invoke/MethodHandle" ∧ q.1.cls ≠ "java/lang/invoke/VarHandle") ∧ Cond.instantiable q.1.cls q.2 ∈ tables_1 ∧ Cond.privateMethod q.1 ∈ tables_1 ∧ Cond.instanceMethod q.1 ∈ tables_1
theorem lw_p0 : lw_okq (⟨"ClockReach", "putBytes", "(I)V"⟩, 16) := ⟨⟨by decide +kernel, by decide +kernel⟩, List.mem_of_getElem? (i := 21) (by decide +kernel), List.mem_of_getElem? (i := 510) (by decide +kernel), List.mem_of_getElem? (i := 511) (by decide +kernel)⟩
theorem lw_p1 : lw_okq (⟨"ClockReach$Reader", "advance", "()V"⟩, 12) := ⟨⟨by decide +kernel, by decide +kernel⟩, List.mem_of_getElem? (i := 29) (by decide +kernel), List.mem_of_getElem? (i := 530) (by decide +kernel), List.mem_of_getElem? (i := 531) (by decide +kernel)⟩
theorem lw_p2 : lw_okq (⟨"ClockReach$Reader", "scanWord", "()V"⟩, 12) := ⟨⟨by decide +kernel, by decide +kernel⟩, List.mem_of_getElem? (i := 29) (by decide +kernel), List.mem_of_getElem? (i := 534) (by decide +kernel), List.mem_of_getElem? (i := 535) (by decide +kernel)⟩
theorem lw_p3 : lw_okq (⟨"ClockReach$Reader", "scanNumber", "()V"⟩, 12) := ⟨⟨by decide +kernel, by decide +kernel⟩, List.mem_of_getElem? (i := 29) (by decide +kernel), List.mem_of_getElem? (i := 538) (by decide +kernel), List.mem_of_getElem? (i := 539) (by decide +kernel)⟩
theorem lw_p4 : lw_okq (⟨"ClockReach$Reader", "scanSign", "()V"⟩, 12) := ⟨⟨by decide +kernel, by decide +kernel⟩, List.mem_of_getElem? (i := 29) (by decide +kernel), List.mem_of_getElem? (i := 542) (by decide +kernel), List.mem_of_getElem? (i := 543) (by decide +kernel)⟩
theorem lw_p5 : lw_okq (⟨"ClockReach$Reader", "readsClock", "()Z"⟩, 12) := ⟨⟨by decide +kernel, by decide +kernel⟩, List.mem_of_getElem? (i := 29) (by decide +kernel), List.mem_of_getElem? (i := 546) (by decide +kernel), List.mem_of_getElem? (i := 547) (by decide +kernel)⟩
theorem lw_p6 : lw_okq (⟨"ClockReach$Reader", "refuse", "(I)Z"⟩, 12) := ⟨⟨by decide +kernel, by decide +kernel⟩, List.mem_of_getElem? (i := 29) (by decide +kernel), List.mem_of_getElem? (i := 550) (by decide +kernel), List.mem_of_getElem? (i := 551) (by decide +kernel)⟩
theorem lw_p7 : lw_okq (⟨"ClockReach$Reader", "isNewName", "()Z"⟩, 12) := ⟨⟨by decide +kernel, by decide +kernel⟩, List.mem_of_getElem? (i := 29) (by decide +kernel), List.mem_of_getElem? (i := 554) (by decide +kernel), List.mem_of_getElem? (i := 555) (by decide +kernel)⟩
theorem lw_p8 : lw_okq (⟨"ClockReach$Reader", "refuseToken", "()Z"⟩, 12) := ⟨⟨by decide +kernel, by decide +kernel⟩, List.mem_of_getElem? (i := 29) (by decide +kernel), List.mem_of_getElem? (i := 558) (by decide +kernel), List.mem_of_getElem? (i := 559) (by decide +kernel)⟩
theorem lw_p9 : lw_okq (⟨"ClockReach$Reader", "indexOf", "([II)I"⟩, 12) := ⟨⟨by decide +kernel, by decide +kernel⟩, List.mem_of_getElem? (i := 29) (by decide +kernel), List.mem_of_getElem? (i := 562) (by decide +kernel), List.mem_of_getElem? (i := 563) (by decide +kernel)⟩
theorem lw_p10 : lw_okq (⟨"ClockReach$Reader", "readsPlace", "()Z"⟩, 12) := ⟨⟨by decide +kernel, by decide +kernel⟩, List.mem_of_getElem? (i := 29) (by decide +kernel), List.mem_of_getElem? (i := 566) (by decide +kernel), List.mem_of_getElem? (i := 567) (by decide +kernel)⟩
theorem lw_p11 : lw_okq (⟨"ClockReach$Reader", "readsConditions", "(III)Z"⟩, 12) := ⟨⟨by decide +kernel, by decide +kernel⟩, List.mem_of_getElem? (i := 29) (by decide +kernel), List.mem_of_getElem? (i := 573) (by decide +kernel), List.mem_of_getElem? (i := 574) (by decide +kernel)⟩
theorem lw_p12 : lw_okq (⟨"ClockReach$Reader", "toldName", "([II)I"⟩, 12) := ⟨⟨by decide +kernel, by decide +kernel⟩, List.mem_of_getElem? (i := 29) (by decide +kernel), List.mem_of_getElem? (i := 577) (by decide +kernel), List.mem_of_getElem? (i := 578) (by decide +kernel)⟩
theorem lw_p13 : lw_okq (⟨"ClockReach$Reader", "readHow", "(Z)I"⟩, 12) := ⟨⟨by decide +kernel, by decide +kernel⟩, List.mem_of_getElem? (i := 29) (by decide +kernel), List.mem_of_getElem? (i := 581) (by decide +kernel), List.mem_of_getElem? (i := 582) (by decide +kernel)⟩
theorem lw_p14 : lw_okq (⟨"ClockReach$Automaton", "setBounds", "(I)V"⟩, 17) := ⟨⟨by decide +kernel, by decide +kernel⟩, List.mem_of_getElem? (i := 135) (by decide +kernel), List.mem_of_getElem? (i := 592) (by decide +kernel), List.mem_of_getElem? (i := 593) (by decide +kernel)⟩
theorem lw_p15 : lw_okq (⟨"ClockReach$Reader", "readsStart", "()Z"⟩, 12) := ⟨⟨by decide +kernel, by decide +kernel⟩, List.mem_of_getElem? (i := 29) (by decide +kernel), List.mem_of_getElem? (i := 597) (by decide +kernel), List.mem_of_getElem? (i := 598) (by decide +kernel)⟩
def lw_privs_1 : List (MethodName × Nat) := [(⟨"ClockReach", "putBytes", "(I)V"⟩, 16), (⟨"ClockReach$Reader", "advance", "()V"⟩, 12), (⟨"ClockReach$Reader", "scanWord", "()V"⟩, 12), (⟨"ClockReach$Reader", "scanNumber", "()V"⟩, 12), (⟨"ClockReach$Reader", "scanSign", "()V"⟩, 12), (⟨"ClockReach$Reader", "readsClock", "()Z"⟩, 12), (⟨"ClockReach$Reader", "refuse", "(I)Z"⟩, 12), (⟨"ClockReach$Reader", "isNewName", "()Z"⟩, 12), (⟨"ClockReach$Reader", "refuseToken", "()Z"⟩, 12), (⟨"ClockReach$Reader", "indexOf", "([II)I"⟩, 12), (⟨"ClockReach$Reader", "readsPlace", "()Z"⟩, 12), (⟨"ClockReach$Reader", "readsConditions", "(III)Z"⟩, 12), (⟨"ClockReach$Reader", "toldName", "([II)I"⟩, 12), (⟨"ClockReach$Reader", "readHow", "(Z)I"⟩, 12), (⟨"ClockReach$Automaton", "setBounds", "(I)V"⟩, 17), (⟨"ClockReach$Reader", "readsStart", "()Z"⟩, 12)]
theorem lw_r1 : ∀ q ∈ lw_privs_1, lw_okq q := List.forall_mem_cons.mpr ⟨lw_p0, List.forall_mem_cons.mpr ⟨lw_p1, List.forall_mem_cons.mpr ⟨lw_p2, List.forall_mem_cons.mpr ⟨lw_p3, List.forall_mem_cons.mpr ⟨lw_p4, List.forall_mem_cons.mpr ⟨lw_p5, List.forall_mem_cons.mpr ⟨lw_p6, List.forall_mem_cons.mpr ⟨lw_p7, List.forall_mem_cons.mpr ⟨lw_p8, List.forall_mem_cons.mpr ⟨lw_p9, List.forall_mem_cons.mpr ⟨lw_p10, List.forall_mem_cons.mpr ⟨lw_p11, List.forall_mem_cons.mpr ⟨lw_p12, List.forall_mem_cons.mpr ⟨lw_p13, List.forall_mem_cons.mpr ⟨lw_p14, List.forall_mem_cons.mpr ⟨lw_p15, fun _ h => absurd h List.not_mem_nil⟩⟩⟩⟩⟩⟩⟩⟩⟩⟩⟩⟩⟩⟩⟩⟩
theorem lw_p16 : lw_okq (⟨"ClockReach$Reader", "readsEdge", "()Z"⟩, 12) := ⟨⟨by decide +kernel, by decide +kernel⟩, List.mem_of_getElem? (i := 29) (by decide +kernel), List.mem_of_getElem? (i := 601) (by decide +kernel), List.mem_of_getElem? (i := 602) (by decide +kernel)⟩
theorem lw_p17 : lw_okq (⟨"ClockReach$Reader", "readsResets", "(I)Z"⟩, 12) := ⟨⟨by decide +kernel, by decide +kernel⟩, List.mem_of_getElem? (i := 29) (by decide +kernel), List.mem_of_getElem? (i := 609) (by decide +kernel), List.mem_of_getElem? (i := 610) (by decide +kernel)⟩
theorem lw_p18 : lw_okq (⟨"ClockReach$Reader", "readsStop", "()Z"⟩, 12) := ⟨⟨by decide +kernel, by decide +kernel⟩, List.mem_of_getElem? (i := 29) (by decide +kernel), List.mem_of_getElem? (i := 613) (by decide +kernel), List.mem_of_getElem? (i := 614) (by decide +kernel)⟩
theorem lw_p19 : lw_okq (⟨"ClockReach", "dropViews", "()V"⟩, 16) := ⟨⟨by decide +kernel, by decide +kernel⟩, List.mem_of_getElem? (i := 21) (by decide +kernel), List.mem_of_getElem? (i := 625) (by decide +kernel), List.mem_of_getElem? (i := 626) (by decide +kernel)⟩
theorem lw_p20 : lw_okq (⟨"ClockReach", "isPlace", "(I)Z"⟩, 16) := ⟨⟨by decide +kernel, by decide +kernel⟩, List.mem_of_getElem? (i := 21) (by decide +kernel), List.mem_of_getElem? (i := 648) (by decide +kernel), List.mem_of_getElem? (i := 649) (by decide +kernel)⟩
theorem lw_p21 : lw_okq (⟨"ClockReach", "isEdge", "(I)Z"⟩, 16) := ⟨⟨by decide +kernel, by decide +kernel⟩, List.mem_of_getElem? (i := 21) (by decide +kernel), List.mem_of_getElem? (i := 661) (by decide +kernel), List.mem_of_getElem? (i := 662) (by decide +kernel)⟩
theorem lw_p22 : lw_okq (⟨"ClockReach", "slotOf", "(II)I"⟩, 16) := ⟨⟨by decide +kernel, by decide +kernel⟩, List.mem_of_getElem? (i := 21) (by decide +kernel), List.mem_of_getElem? (i := 669) (by decide +kernel), List.mem_of_getElem? (i := 670) (by decide +kernel)⟩
theorem lw_p23 : lw_okq (⟨"ClockReach", "isClock", "(I)Z"⟩, 16) := ⟨⟨by decide +kernel, by decide +kernel⟩, List.mem_of_getElem? (i := 21) (by decide +kernel), List.mem_of_getElem? (i := 678) (by decide +kernel), List.mem_of_getElem? (i := 679) (by decide +kernel)⟩
theorem lw_p24 : lw_okq (⟨"ClockReach", "beginAtZero", "(LClockReach$Graph;)V"⟩, 16) := ⟨⟨by decide +kernel, by decide +kernel⟩, List.mem_of_getElem? (i := 21) (by decide +kernel), List.mem_of_getElem? (i := 719) (by decide +kernel), List.mem_of_getElem? (i := 720) (by decide +kernel)⟩
theorem lw_p25 : lw_okq (⟨"ClockReach$Zone", "close", "()V"⟩, 2) := ⟨⟨by decide +kernel, by decide +kernel⟩, List.mem_of_getElem? (i := 269) (by decide +kernel), List.mem_of_getElem? (i := 755) (by decide +kernel), List.mem_of_getElem? (i := 756) (by decide +kernel)⟩
theorem lw_p26 : lw_okq (⟨"ClockReach$Graph", "record", "(III)V"⟩, 18) := ⟨⟨by decide +kernel, by decide +kernel⟩, List.mem_of_getElem? (i := 262) (by decide +kernel), List.mem_of_getElem? (i := 759) (by decide +kernel), List.mem_of_getElem? (i := 760) (by decide +kernel)⟩
theorem lw_p27 : lw_okq (⟨"ClockReach$Graph", "step", "(LClockReach$Automaton;II)V"⟩, 18) := ⟨⟨by decide +kernel, by decide +kernel⟩, List.mem_of_getElem? (i := 262) (by decide +kernel), List.mem_of_getElem? (i := 767) (by decide +kernel), List.mem_of_getElem? (i := 768) (by decide +kernel)⟩
theorem lw_p28 : lw_okq (⟨"ClockReach$Graph", "isKnown", "(LClockReach$Zone;I)Z"⟩, 18) := ⟨⟨by decide +kernel, by decide +kernel⟩, List.mem_of_getElem? (i := 262) (by decide +kernel), List.mem_of_getElem? (i := 787) (by decide +kernel), List.mem_of_getElem? (i := 788) (by decide +kernel)⟩
theorem lw_p29 : lw_okq (⟨"ClockReach", "isState", "(I)Z"⟩, 16) := ⟨⟨by decide +kernel, by decide +kernel⟩, List.mem_of_getElem? (i := 21) (by decide +kernel), List.mem_of_getElem? (i := 803) (by decide +kernel), List.mem_of_getElem? (i := 804) (by decide +kernel)⟩
theorem lw_p30 : lw_okq (⟨"ClockReach", "isStuck", "(I)Z"⟩, 16) := ⟨⟨by decide +kernel, by decide +kernel⟩, List.mem_of_getElem? (i := 21) (by decide +kernel), List.mem_of_getElem? (i := 807) (by decide +kernel), List.mem_of_getElem? (i := 808) (by decide +kernel)⟩
theorem lw_p31 : lw_okq (⟨"ClockReach$Remainder", "nextCover", "(LClockReach$Zone;I)I"⟩, 8) := ⟨⟨by decide +kernel, by decide +kernel⟩, List.mem_of_getElem? (i := 356) (by decide +kernel), List.mem_of_getElem? (i := 842) (by decide +kernel), List.mem_of_getElem? (i := 843) (by decide +kernel)⟩
def lw_privs_2 : List (MethodName × Nat) := [(⟨"ClockReach$Reader", "readsEdge", "()Z"⟩, 12), (⟨"ClockReach$Reader", "readsResets", "(I)Z"⟩, 12), (⟨"ClockReach$Reader", "readsStop", "()Z"⟩, 12), (⟨"ClockReach", "dropViews", "()V"⟩, 16), (⟨"ClockReach", "isPlace", "(I)Z"⟩, 16), (⟨"ClockReach", "isEdge", "(I)Z"⟩, 16), (⟨"ClockReach", "slotOf", "(II)I"⟩, 16), (⟨"ClockReach", "isClock", "(I)Z"⟩, 16), (⟨"ClockReach", "beginAtZero", "(LClockReach$Graph;)V"⟩, 16), (⟨"ClockReach$Zone", "close", "()V"⟩, 2), (⟨"ClockReach$Graph", "record", "(III)V"⟩, 18), (⟨"ClockReach$Graph", "step", "(LClockReach$Automaton;II)V"⟩, 18), (⟨"ClockReach$Graph", "isKnown", "(LClockReach$Zone;I)Z"⟩, 18), (⟨"ClockReach", "isState", "(I)Z"⟩, 16), (⟨"ClockReach", "isStuck", "(I)Z"⟩, 16), (⟨"ClockReach$Remainder", "nextCover", "(LClockReach$Zone;I)I"⟩, 8)]
theorem lw_r2 : ∀ q ∈ lw_privs_2, lw_okq q := List.forall_mem_cons.mpr ⟨lw_p16, List.forall_mem_cons.mpr ⟨lw_p17, List.forall_mem_cons.mpr ⟨lw_p18, List.forall_mem_cons.mpr ⟨lw_p19, List.forall_mem_cons.mpr ⟨lw_p20, List.forall_mem_cons.mpr ⟨lw_p21, List.forall_mem_cons.mpr ⟨lw_p22, List.forall_mem_cons.mpr ⟨lw_p23, List.forall_mem_cons.mpr ⟨lw_p24, List.forall_mem_cons.mpr ⟨lw_p25, List.forall_mem_cons.mpr ⟨lw_p26, List.forall_mem_cons.mpr ⟨lw_p27, List.forall_mem_cons.mpr ⟨lw_p28, List.forall_mem_cons.mpr ⟨lw_p29, List.forall_mem_cons.mpr ⟨lw_p30, List.forall_mem_cons.mpr ⟨lw_p31, fun _ h => absurd h List.not_mem_nil⟩⟩⟩⟩⟩⟩⟩⟩⟩⟩⟩⟩⟩⟩⟩⟩
theorem lw_p32 : lw_okq (⟨"ClockReach$Remainder", "splits", "(I)Z"⟩, 8) := ⟨⟨by decide +kernel, by decide +kernel⟩, List.mem_of_getElem? (i := 356) (by decide +kernel), List.mem_of_getElem? (i := 857) (by decide +kernel), List.mem_of_getElem? (i := 858) (by decide +kernel)⟩
theorem lw_p33 : lw_okq (⟨"ClockReach$Automaton", "hurriedBehind", "(I)I"⟩, 17) := ⟨⟨by decide +kernel, by decide +kernel⟩, List.mem_of_getElem? (i := 135) (by decide +kernel), List.mem_of_getElem? (i := 937) (by decide +kernel), List.mem_of_getElem? (i := 938) (by decide +kernel)⟩
theorem lw_p34 : lw_okq (⟨"ClockReach", "canReach", "(II)Z"⟩, 16) := ⟨⟨by decide +kernel, by decide +kernel⟩, List.mem_of_getElem? (i := 21) (by decide +kernel), List.mem_of_getElem? (i := 949) (by decide +kernel), List.mem_of_getElem? (i := 950) (by decide +kernel)⟩
theorem lw_p35 : lw_okq (⟨"ClockReach", "isStep", "(II)Z"⟩, 16) := ⟨⟨by decide +kernel, by decide +kernel⟩, List.mem_of_getElem? (i := 21) (by decide +kernel), List.mem_of_getElem? (i := 957) (by decide +kernel), List.mem_of_getElem? (i := 958) (by decide +kernel)⟩
theorem lw_p36 : lw_okq (⟨"ClockReach", "timesRun", "(I)Z"⟩, 16) := ⟨⟨by decide +kernel, by decide +kernel⟩, List.mem_of_getElem? (i := 21) (by decide +kernel), List.mem_of_getElem? (i := 969) (by decide +kernel), List.mem_of_getElem? (i := 970) (by decide +kernel)⟩
theorem lw_p37 : lw_okq (⟨"ClockReach$Timing", "layConditions", "(LClockReach$Automaton;II)V"⟩, 10) := ⟨⟨by decide +kernel, by decide +kernel⟩, List.mem_of_getElem? (i := 389) (by decide +kernel), List.mem_of_getElem? (i := 978) (by decide +kernel), List.mem_of_getElem? (i := 979) (by decide +kernel)⟩
theorem lw_p38 : lw_okq (⟨"ClockReach$Timing", "layRule", "(III)V"⟩, 10) := ⟨⟨by decide +kernel, by decide +kernel⟩, List.mem_of_getElem? (i := 389) (by decide +kernel), List.mem_of_getElem? (i := 985) (by decide +kernel), List.mem_of_getElem? (i := 986) (by decide +kernel)⟩
theorem lw_p39 : lw_okq (⟨"java/lang/Throwable", "fillInStackTrace", "(I)Ljava/lang/Throwable;"⟩, 6) := ⟨⟨by decide +kernel, by decide +kernel⟩, List.mem_of_getElem? (i := 1148) (by decide +kernel), List.mem_of_getElem? (i := 1146) (by decide +kernel), List.mem_of_getElem? (i := 1147) (by decide +kernel)⟩
theorem lw_p40 : lw_okq (⟨"ClockReachModel", "four", "(I)V"⟩, 67) := ⟨⟨by decide +kernel, by decide +kernel⟩, List.mem_of_getElem? (i := 1173) (by decide +kernel), List.mem_of_getElem? (i := 1390) (by decide +kernel), List.mem_of_getElem? (i := 1391) (by decide +kernel)⟩
theorem lw_p41 : lw_okq (⟨"ClockReachModel", "next", "()V"⟩, 67) := ⟨⟨by decide +kernel, by decide +kernel⟩, List.mem_of_getElem? (i := 1173) (by decide +kernel), List.mem_of_getElem? (i := 1405) (by decide +kernel), List.mem_of_getElem? (i := 1406) (by decide +kernel)⟩
theorem lw_p42 : lw_okq (⟨"ClockReachModel", "byteAt", "(I)I"⟩, 67) := ⟨⟨by decide +kernel, by decide +kernel⟩, List.mem_of_getElem? (i := 1173) (by decide +kernel), List.mem_of_getElem? (i := 1409) (by decide +kernel), List.mem_of_getElem? (i := 1410) (by decide +kernel)⟩
theorem lw_p43 : lw_okq (⟨"ClockReachModel", "isGood", "()Z"⟩, 67) := ⟨⟨by decide +kernel, by decide +kernel⟩, List.mem_of_getElem? (i := 1173) (by decide +kernel), List.mem_of_getElem? (i := 1422) (by decide +kernel), List.mem_of_getElem? (i := 1423) (by decide +kernel)⟩
theorem lw_p44 : lw_okq (⟨"ClockReachModel", "readLine", "()V"⟩, 67) := ⟨⟨by decide +kernel, by decide +kernel⟩, List.mem_of_getElem? (i := 1173) (by decide +kernel), List.mem_of_getElem? (i := 1426) (by decide +kernel), List.mem_of_getElem? (i := 1427) (by decide +kernel)⟩
theorem lw_p45 : lw_okq (⟨"ClockReachModel", "isWord", "(I)Z"⟩, 67) := ⟨⟨by decide +kernel, by decide +kernel⟩, List.mem_of_getElem? (i := 1173) (by decide +kernel), List.mem_of_getElem? (i := 1431) (by decide +kernel), List.mem_of_getElem? (i := 1432) (by decide +kernel)⟩
theorem lw_p46 : lw_okq (⟨"ClockReachModel", "fails", "(I)V"⟩, 67) := ⟨⟨by decide +kernel, by decide +kernel⟩, List.mem_of_getElem? (i := 1173) (by decide +kernel), List.mem_of_getElem? (i := 1438) (by decide +kernel), List.mem_of_getElem? (i := 1439) (by decide +kernel)⟩
theorem lw_p47 : lw_okq (⟨"ClockReachModel", "freshName", "()I"⟩, 67) := ⟨⟨by decide +kernel, by decide +kernel⟩, List.mem_of_getElem? (i := 1173) (by decide +kernel), List.mem_of_getElem? (i := 1442) (by decide +kernel), List.mem_of_getElem? (i := 1443) (by decide +kernel)⟩
def lw_privs_3 : List (MethodName × Nat) := [(⟨"ClockReach$Remainder", "splits", "(I)Z"⟩, 8), (⟨"ClockReach$Automaton", "hurriedBehind", "(I)I"⟩, 17), (⟨"ClockReach", "canReach", "(II)Z"⟩, 16), (⟨"ClockReach", "isStep", "(II)Z"⟩, 16), (⟨"ClockReach", "timesRun", "(I)Z"⟩, 16), (⟨"ClockReach$Timing", "layConditions", "(LClockReach$Automaton;II)V"⟩, 10), (⟨"ClockReach$Timing", "layRule", "(III)V"⟩, 10), (⟨"java/lang/Throwable", "fillInStackTrace", "(I)Ljava/lang/Throwable;"⟩, 6), (⟨"ClockReachModel", "four", "(I)V"⟩, 67), (⟨"ClockReachModel", "next", "()V"⟩, 67), (⟨"ClockReachModel", "byteAt", "(I)I"⟩, 67), (⟨"ClockReachModel", "isGood", "()Z"⟩, 67), (⟨"ClockReachModel", "readLine", "()V"⟩, 67), (⟨"ClockReachModel", "isWord", "(I)Z"⟩, 67), (⟨"ClockReachModel", "fails", "(I)V"⟩, 67), (⟨"ClockReachModel", "freshName", "()I"⟩, 67)]
theorem lw_r3 : ∀ q ∈ lw_privs_3, lw_okq q := List.forall_mem_cons.mpr ⟨lw_p32, List.forall_mem_cons.mpr ⟨lw_p33, List.forall_mem_cons.mpr ⟨lw_p34, List.forall_mem_cons.mpr ⟨lw_p35, List.forall_mem_cons.mpr ⟨lw_p36, List.forall_mem_cons.mpr ⟨lw_p37, List.forall_mem_cons.mpr ⟨lw_p38, List.forall_mem_cons.mpr ⟨lw_p39, List.forall_mem_cons.mpr ⟨lw_p40, List.forall_mem_cons.mpr ⟨lw_p41, List.forall_mem_cons.mpr ⟨lw_p42, List.forall_mem_cons.mpr ⟨lw_p43, List.forall_mem_cons.mpr ⟨lw_p44, List.forall_mem_cons.mpr ⟨lw_p45, List.forall_mem_cons.mpr ⟨lw_p46, List.forall_mem_cons.mpr ⟨lw_p47, fun _ h => absurd h List.not_mem_nil⟩⟩⟩⟩⟩⟩⟩⟩⟩⟩⟩⟩⟩⟩⟩⟩
theorem lw_p48 : lw_okq (⟨"ClockReachModel", "mustBeName", "()V"⟩, 67) := ⟨⟨by decide +kernel, by decide +kernel⟩, List.mem_of_getElem? (i := 1173) (by decide +kernel), List.mem_of_getElem? (i := 1446) (by decide +kernel), List.mem_of_getElem? (i := 1447) (by decide +kernel)⟩
theorem lw_p49 : lw_okq (⟨"ClockReachModel", "isKept", "()Z"⟩, 67) := ⟨⟨by decide +kernel, by decide +kernel⟩, List.mem_of_getElem? (i := 1173) (by decide +kernel), List.mem_of_getElem? (i := 1450) (by decide +kernel), List.mem_of_getElem? (i := 1451) (by decide +kernel)⟩
theorem lw_p50 : lw_okq (⟨"ClockReachModel", "clockCalled", "()I"⟩, 67) := ⟨⟨by decide +kernel, by decide +kernel⟩, List.mem_of_getElem? (i := 1173) (by decide +kernel), List.mem_of_getElem? (i := 1458) (by decide +kernel), List.mem_of_getElem? (i := 1459) (by decide +kernel)⟩
theorem lw_p51 : lw_okq (⟨"ClockReachModel", "placeCalled", "()I"⟩, 67) := ⟨⟨by decide +kernel, by decide +kernel⟩, List.mem_of_getElem? (i := 1173) (by decide +kernel), List.mem_of_getElem? (i := 1462) (by decide +kernel), List.mem_of_getElem? (i := 1463) (by decide +kernel)⟩
theorem lw_p52 : lw_okq (⟨"ClockReachModel", "readPlace", "()V"⟩, 67) := ⟨⟨by decide +kernel, by decide +kernel⟩, List.mem_of_getElem? (i := 1173) (by decide +kernel), List.mem_of_getElem? (i := 1466) (by decide +kernel), List.mem_of_getElem? (i := 1467) (by decide +kernel)⟩
theorem lw_p53 : lw_okq (⟨"ClockReachModel", "readCondition", "(IZ)V"⟩, 67) := ⟨⟨by decide +kernel, by decide +kernel⟩, List.mem_of_getElem? (i := 1173) (by decide +kernel), List.mem_of_getElem? (i := 1470) (by decide +kernel), List.mem_of_getElem? (i := 1471) (by decide +kernel)⟩
theorem lw_p54 : lw_okq (⟨"ClockReachModel", "toldClock", "()I"⟩, 67) := ⟨⟨by decide +kernel, by decide +kernel⟩, List.mem_of_getElem? (i := 1173) (by decide +kernel), List.mem_of_getElem? (i := 1474) (by decide +kernel), List.mem_of_getElem? (i := 1475) (by decide +kernel)⟩
theorem lw_p55 : lw_okq (⟨"ClockReachModel", "isSign", "(I)Z"⟩, 67) := ⟨⟨by decide +kernel, by decide +kernel⟩, List.mem_of_getElem? (i := 1173) (by decide +kernel), List.mem_of_getElem? (i := 1481) (by decide +kernel), List.mem_of_getElem? (i := 1482) (by decide +kernel)⟩
theorem lw_p56 : lw_okq (⟨"ClockReachModel", "toldPlace", "()I"⟩, 67) := ⟨⟨by decide +kernel, by decide +kernel⟩, List.mem_of_getElem? (i := 1173) (by decide +kernel), List.mem_of_getElem? (i := 1485) (by decide +kernel), List.mem_of_getElem? (i := 1486) (by decide +kernel)⟩
theorem lw_p57 : lw_okq (⟨"ClockReachModel", "readEdge", "()V"⟩, 67) := ⟨⟨by decide +kernel, by decide +kernel⟩, List.mem_of_getElem? (i := 1173) (by decide +kernel), List.mem_of_getElem? (i := 1489) (by decide +kernel), List.mem_of_getElem? (i := 1490) (by decide +kernel)⟩
theorem lw_p58 : lw_okq (⟨"ClockReachModel", "another", "()V"⟩, 67) := ⟨⟨by decide +kernel, by decide +kernel⟩, List.mem_of_getElem? (i := 1173) (by decide +kernel), List.mem_of_getElem? (i := 1496) (by decide +kernel), List.mem_of_getElem? (i := 1497) (by decide +kernel)⟩
theorem lw_p59 : lw_okq (⟨"ClockReachModel", "clocks", "()I"⟩, 67) := ⟨⟨by decide +kernel, by decide +kernel⟩, List.mem_of_getElem? (i := 1173) (by decide +kernel), List.mem_of_getElem? (i := 1508) (by decide +kernel), List.mem_of_getElem? (i := 1509) (by decide +kernel)⟩
theorem lw_p60 : lw_okq (⟨"ClockReachModel", "manyOf", "(I)I"⟩, 67) := ⟨⟨by decide +kernel, by decide +kernel⟩, List.mem_of_getElem? (i := 1173) (by decide +kernel), List.mem_of_getElem? (i := 1512) (by decide +kernel), List.mem_of_getElem? (i := 1513) (by decide +kernel)⟩
theorem lw_p61 : lw_okq (⟨"ClockReachModel", "isEdge", "(I)Z"⟩, 67) := ⟨⟨by decide +kernel, by decide +kernel⟩, List.mem_of_getElem? (i := 1173) (by decide +kernel), List.mem_of_getElem? (i := 1516) (by decide +kernel), List.mem_of_getElem? (i := 1517) (by decide +kernel)⟩
theorem lw_p62 : lw_okq (⟨"ClockReachModel", "isPlace", "(I)Z"⟩, 67) := ⟨⟨by decide +kernel, by decide +kernel⟩, List.mem_of_getElem? (i := 1173) (by decide +kernel), List.mem_of_getElem? (i := 1520) (by decide +kernel), List.mem_of_getElem? (i := 1521) (by decide +kernel)⟩
theorem lw_p63 : lw_okq (⟨"ClockReachModel", "edgesOf", "(IZ)I"⟩, 67) := ⟨⟨by decide +kernel, by decide +kernel⟩, List.mem_of_getElem? (i := 1173) (by decide +kernel), List.mem_of_getElem? (i := 1528) (by decide +kernel), List.mem_of_getElem? (i := 1529) (by decide +kernel)⟩
def lw_privs_4 : List (MethodName × Nat) := [(⟨"ClockReachModel", "mustBeName", "()V"⟩, 67), (⟨"ClockReachModel", "isKept", "()Z"⟩, 67), (⟨"ClockReachModel", "clockCalled", "()I"⟩, 67), (⟨"ClockReachModel", "placeCalled", "()I"⟩, 67), (⟨"ClockReachModel", "readPlace", "()V"⟩, 67), (⟨"ClockReachModel", "readCondition", "(IZ)V"⟩, 67), (⟨"ClockReachModel", "toldClock", "()I"⟩, 67), (⟨"ClockReachModel", "isSign", "(I)Z"⟩, 67), (⟨"ClockReachModel", "toldPlace", "()I"⟩, 67), (⟨"ClockReachModel", "readEdge", "()V"⟩, 67), (⟨"ClockReachModel", "another", "()V"⟩, 67), (⟨"ClockReachModel", "clocks", "()I"⟩, 67), (⟨"ClockReachModel", "manyOf", "(I)I"⟩, 67), (⟨"ClockReachModel", "isEdge", "(I)Z"⟩, 67), (⟨"ClockReachModel", "isPlace", "(I)Z"⟩, 67), (⟨"ClockReachModel", "edgesOf", "(IZ)I"⟩, 67)]
theorem lw_r4 : ∀ q ∈ lw_privs_4, lw_okq q := List.forall_mem_cons.mpr ⟨lw_p48, List.forall_mem_cons.mpr ⟨lw_p49, List.forall_mem_cons.mpr ⟨lw_p50, List.forall_mem_cons.mpr ⟨lw_p51, List.forall_mem_cons.mpr ⟨lw_p52, List.forall_mem_cons.mpr ⟨lw_p53, List.forall_mem_cons.mpr ⟨lw_p54, List.forall_mem_cons.mpr ⟨lw_p55, List.forall_mem_cons.mpr ⟨lw_p56, List.forall_mem_cons.mpr ⟨lw_p57, List.forall_mem_cons.mpr ⟨lw_p58, List.forall_mem_cons.mpr ⟨lw_p59, List.forall_mem_cons.mpr ⟨lw_p60, List.forall_mem_cons.mpr ⟨lw_p61, List.forall_mem_cons.mpr ⟨lw_p62, List.forall_mem_cons.mpr ⟨lw_p63, fun _ h => absurd h List.not_mem_nil⟩⟩⟩⟩⟩⟩⟩⟩⟩⟩⟩⟩⟩⟩⟩⟩
theorem lw_p64 : lw_okq (⟨"ClockReachModel", "outOf", "(I)I"⟩, 67) := ⟨⟨by decide +kernel, by decide +kernel⟩, List.mem_of_getElem? (i := 1173) (by decide +kernel), List.mem_of_getElem? (i := 1532) (by decide +kernel), List.mem_of_getElem? (i := 1533) (by decide +kernel)⟩
theorem lw_p65 : lw_okq (⟨"ClockReachModel", "into", "(I)I"⟩, 67) := ⟨⟨by decide +kernel, by decide +kernel⟩, List.mem_of_getElem? (i := 1173) (by decide +kernel), List.mem_of_getElem? (i := 1536) (by decide +kernel), List.mem_of_getElem? (i := 1537) (by decide +kernel)⟩
theorem lw_p66 : lw_okq (⟨"ClockReachModel", "setBy", "(I)I"⟩, 67) := ⟨⟨by decide +kernel, by decide +kernel⟩, List.mem_of_getElem? (i := 1173) (by decide +kernel), List.mem_of_getElem? (i := 1544) (by decide +kernel), List.mem_of_getElem? (i := 1545) (by decide +kernel)⟩
theorem lw_p67 : lw_okq (⟨"ClockReachModel", "isCondition", "(II)Z"⟩, 67) := ⟨⟨by decide +kernel, by decide +kernel⟩, List.mem_of_getElem? (i := 1173) (by decide +kernel), List.mem_of_getElem? (i := 1552) (by decide +kernel), List.mem_of_getElem? (i := 1553) (by decide +kernel)⟩
theorem lw_p68 : lw_okq (⟨"ClockReachModel", "spot", "(II)I"⟩, 67) := ⟨⟨by decide +kernel, by decide +kernel⟩, List.mem_of_getElem? (i := 1173) (by decide +kernel), List.mem_of_getElem? (i := 1556) (by decide +kernel), List.mem_of_getElem? (i := 1557) (by decide +kernel)⟩
theorem lw_p69 : lw_okq (⟨"ClockReachModel", "isClock", "(I)Z"⟩, 67) := ⟨⟨by decide +kernel, by decide +kernel⟩, List.mem_of_getElem? (i := 1173) (by decide +kernel), List.mem_of_getElem? (i := 1564) (by decide +kernel), List.mem_of_getElem? (i := 1565) (by decide +kernel)⟩
theorem lw_p70 : lw_okq (⟨"ClockReachModel", "most", "(II)I"⟩, 67) := ⟨⟨by decide +kernel, by decide +kernel⟩, List.mem_of_getElem? (i := 1173) (by decide +kernel), List.mem_of_getElem? (i := 1568) (by decide +kernel), List.mem_of_getElem? (i := 1569) (by decide +kernel)⟩
theorem lw_p71 : lw_okq (⟨"ClockReachModel", "keepAct", "(II)V"⟩, 67) := ⟨⟨by decide +kernel, by decide +kernel⟩, List.mem_of_getElem? (i := 1173) (by decide +kernel), List.mem_of_getElem? (i := 1576) (by decide +kernel), List.mem_of_getElem? (i := 1577) (by decide +kernel)⟩
theorem lw_p72 : lw_okq (⟨"ClockReachModel", "isUrgent", "(I)Z"⟩, 67) := ⟨⟨by decide +kernel, by decide +kernel⟩, List.mem_of_getElem? (i := 1173) (by decide +kernel), List.mem_of_getElem? (i := 1584) (by decide +kernel), List.mem_of_getElem? (i := 1585) (by decide +kernel)⟩
theorem lw_p73 : lw_okq (⟨"ClockReachModel", "layPoint", "(III)V"⟩, 67) := ⟨⟨by decide +kernel, by decide +kernel⟩, List.mem_of_getElem? (i := 1173) (by decide +kernel), List.mem_of_getElem? (i := 1596) (by decide +kernel), List.mem_of_getElem? (i := 1597) (by decide +kernel)⟩
theorem lw_p74 : lw_okq (⟨"ClockReachModel", "explores", "(IIIZII)V"⟩, 67) := ⟨⟨by decide +kernel, by decide +kernel⟩, List.mem_of_getElem? (i := 1173) (by decide +kernel), List.mem_of_getElem? (i := 1600) (by decide +kernel), List.mem_of_getElem? (i := 1601) (by decide +kernel)⟩
theorem lw_p75 : lw_okq (⟨"ClockReachModel", "layForgotten", "(I)V"⟩, 67) := ⟨⟨by decide +kernel, by decide +kernel⟩, List.mem_of_getElem? (i := 1173) (by decide +kernel), List.mem_of_getElem? (i := 1604) (by decide +kernel), List.mem_of_getElem? (i := 1605) (by decide +kernel)⟩
theorem lw_p76 : lw_okq (⟨"ClockReachModel", "holdsAll", "([II)V"⟩, 67) := ⟨⟨by decide +kernel, by decide +kernel⟩, List.mem_of_getElem? (i := 1173) (by decide +kernel), List.mem_of_getElem? (i := 1608) (by decide +kernel), List.mem_of_getElem? (i := 1609) (by decide +kernel)⟩
theorem lw_p77 : lw_okq (⟨"ClockReachModel", "holds", "([II)V"⟩, 67) := ⟨⟨by decide +kernel, by decide +kernel⟩, List.mem_of_getElem? (i := 1173) (by decide +kernel), List.mem_of_getElem? (i := 1612) (by decide +kernel), List.mem_of_getElem? (i := 1613) (by decide +kernel)⟩
theorem lw_p78 : lw_okq (⟨"ClockReachModel", "closes", "([I)Z"⟩, 67) := ⟨⟨by decide +kernel, by decide +kernel⟩, List.mem_of_getElem? (i := 1173) (by decide +kernel), List.mem_of_getElem? (i := 1619) (by decide +kernel), List.mem_of_getElem? (i := 1620) (by decide +kernel)⟩
theorem lw_p79 : lw_okq (⟨"ClockReachModel", "comes", "(IIIIIZI)V"⟩, 67) := ⟨⟨by decide +kernel, by decide +kernel⟩, List.mem_of_getElem? (i := 1173) (by decide +kernel), List.mem_of_getElem? (i := 1627) (by decide +kernel), List.mem_of_getElem? (i := 1628) (by decide +kernel)⟩
def lw_privs_5 : List (MethodName × Nat) := [(⟨"ClockReachModel", "outOf", "(I)I"⟩, 67), (⟨"ClockReachModel", "into", "(I)I"⟩, 67), (⟨"ClockReachModel", "setBy", "(I)I"⟩, 67), (⟨"ClockReachModel", "isCondition", "(II)Z"⟩, 67), (⟨"ClockReachModel", "spot", "(II)I"⟩, 67), (⟨"ClockReachModel", "isClock", "(I)Z"⟩, 67), (⟨"ClockReachModel", "most", "(II)I"⟩, 67), (⟨"ClockReachModel", "keepAct", "(II)V"⟩, 67), (⟨"ClockReachModel", "isUrgent", "(I)Z"⟩, 67), (⟨"ClockReachModel", "layPoint", "(III)V"⟩, 67), (⟨"ClockReachModel", "explores", "(IIIZII)V"⟩, 67), (⟨"ClockReachModel", "layForgotten", "(I)V"⟩, 67), (⟨"ClockReachModel", "holdsAll", "([II)V"⟩, 67), (⟨"ClockReachModel", "holds", "([II)V"⟩, 67), (⟨"ClockReachModel", "closes", "([I)Z"⟩, 67), (⟨"ClockReachModel", "comes", "(IIIIIZI)V"⟩, 67)]
theorem lw_r5 : ∀ q ∈ lw_privs_5, lw_okq q := List.forall_mem_cons.mpr ⟨lw_p64, List.forall_mem_cons.mpr ⟨lw_p65, List.forall_mem_cons.mpr ⟨lw_p66, List.forall_mem_cons.mpr ⟨lw_p67, List.forall_mem_cons.mpr ⟨lw_p68, List.forall_mem_cons.mpr ⟨lw_p69, List.forall_mem_cons.mpr ⟨lw_p70, List.forall_mem_cons.mpr ⟨lw_p71, List.forall_mem_cons.mpr ⟨lw_p72, List.forall_mem_cons.mpr ⟨lw_p73, List.forall_mem_cons.mpr ⟨lw_p74, List.forall_mem_cons.mpr ⟨lw_p75, List.forall_mem_cons.mpr ⟨lw_p76, List.forall_mem_cons.mpr ⟨lw_p77, List.forall_mem_cons.mpr ⟨lw_p78, List.forall_mem_cons.mpr ⟨lw_p79, fun _ h => absurd h List.not_mem_nil⟩⟩⟩⟩⟩⟩⟩⟩⟩⟩⟩⟩⟩⟩⟩⟩
theorem lw_p80 : lw_okq (⟨"ClockReachModel", "delays", "([II)V"⟩, 67) := ⟨⟨by decide +kernel, by decide +kernel⟩, List.mem_of_getElem? (i := 1173) (by decide +kernel), List.mem_of_getElem? (i := 1631) (by decide +kernel), List.mem_of_getElem? (i := 1632) (by decide +kernel)⟩
theorem lw_p81 : lw_okq (⟨"ClockReachModel", "forgets", "([II)V"⟩, 67) := ⟨⟨by decide +kernel, by decide +kernel⟩, List.mem_of_getElem? (i := 1173) (by decide +kernel), List.mem_of_getElem? (i := 1635) (by decide +kernel), List.mem_of_getElem? (i := 1636) (by decide +kernel)⟩
theorem lw_p82 : lw_okq (⟨"ClockReachModel", "hasAll", "(I[IZ)Z"⟩, 67) := ⟨⟨by decide +kernel, by decide +kernel⟩, List.mem_of_getElem? (i := 1173) (by decide +kernel), List.mem_of_getElem? (i := 1642) (by decide +kernel), List.mem_of_getElem? (i := 1643) (by decide +kernel)⟩
theorem lw_p83 : lw_okq (⟨"ClockReachModel", "goesBy", "(I)Z"⟩, 67) := ⟨⟨by decide +kernel, by decide +kernel⟩, List.mem_of_getElem? (i := 1173) (by decide +kernel), List.mem_of_getElem? (i := 1649) (by decide +kernel), List.mem_of_getElem? (i := 1650) (by decide +kernel)⟩
theorem lw_p84 : lw_okq (⟨"ClockReachModel", "goesBack", "([II)V"⟩, 67) := ⟨⟨by decide +kernel, by decide +kernel⟩, List.mem_of_getElem? (i := 1173) (by decide +kernel), List.mem_of_getElem? (i := 1653) (by decide +kernel), List.mem_of_getElem? (i := 1654) (by decide +kernel)⟩
theorem lw_p85 : lw_okq (⟨"ClockReachModel", "isState", "(I)Z"⟩, 67) := ⟨⟨by decide +kernel, by decide +kernel⟩, List.mem_of_getElem? (i := 1173) (by decide +kernel), List.mem_of_getElem? (i := 1661) (by decide +kernel), List.mem_of_getElem? (i := 1662) (by decide +kernel)⟩
theorem lw_p86 : lw_okq (⟨"ClockReachModel", "isStuck", "(I)Z"⟩, 67) := ⟨⟨by decide +kernel, by decide +kernel⟩, List.mem_of_getElem? (i := 1173) (by decide +kernel), List.mem_of_getElem? (i := 1665) (by decide +kernel), List.mem_of_getElem? (i := 1666) (by decide +kernel)⟩
theorem lw_p87 : lw_okq (⟨"ClockReachModel", "layAhead", "(I)Z"⟩, 67) := ⟨⟨by decide +kernel, by decide +kernel⟩, List.mem_of_getElem? (i := 1173) (by decide +kernel), List.mem_of_getElem? (i := 1669) (by decide +kernel), List.mem_of_getElem? (i := 1670) (by decide +kernel)⟩
theorem lw_p88 : lw_okq (⟨"ClockReachModel", "isOver", "()Z"⟩, 67) := ⟨⟨by decide +kernel, by decide +kernel⟩, List.mem_of_getElem? (i := 1173) (by decide +kernel), List.mem_of_getElem? (i := 1673) (by decide +kernel), List.mem_of_getElem? (i := 1674) (by decide +kernel)⟩
theorem lw_p89 : lw_okq (⟨"ClockReachModel", "keepsPiece", "(I)V"⟩, 67) := ⟨⟨by decide +kernel, by decide +kernel⟩, List.mem_of_getElem? (i := 1173) (by decide +kernel), List.mem_of_getElem? (i := 1677) (by decide +kernel), List.mem_of_getElem? (i := 1678) (by decide +kernel)⟩
theorem lw_p90 : lw_okq (⟨"ClockReachModel", "parts", "(I)Z"⟩, 67) := ⟨⟨by decide +kernel, by decide +kernel⟩, List.mem_of_getElem? (i := 1173) (by decide +kernel), List.mem_of_getElem? (i := 1681) (by decide +kernel), List.mem_of_getElem? (i := 1682) (by decide +kernel)⟩
theorem lw_p91 : lw_okq (⟨"ClockReachModel", "boundOf", "(III)I"⟩, 67) := ⟨⟨by decide +kernel, by decide +kernel⟩, List.mem_of_getElem? (i := 1173) (by decide +kernel), List.mem_of_getElem? (i := 1690) (by decide +kernel), List.mem_of_getElem? (i := 1691) (by decide +kernel)⟩
theorem lw_p92 : lw_okq (⟨"ClockReachModel", "hasTimes", "(IIII)Z"⟩, 67) := ⟨⟨by decide +kernel, by decide +kernel⟩, List.mem_of_getElem? (i := 1173) (by decide +kernel), List.mem_of_getElem? (i := 1703) (by decide +kernel), List.mem_of_getElem? (i := 1704) (by decide +kernel)⟩
theorem lw_p93 : lw_okq (⟨"ClockReachModel", "goesTo", "(I)I"⟩, 67) := ⟨⟨by decide +kernel, by decide +kernel⟩, List.mem_of_getElem? (i := 1173) (by decide +kernel), List.mem_of_getElem? (i := 1736) (by decide +kernel), List.mem_of_getElem? (i := 1737) (by decide +kernel)⟩
theorem lw_p94 : lw_okq (⟨"ClockReachModel", "hasPlace", "(II)Z"⟩, 67) := ⟨⟨by decide +kernel, by decide +kernel⟩, List.mem_of_getElem? (i := 1173) (by decide +kernel), List.mem_of_getElem? (i := 1744) (by decide +kernel), List.mem_of_getElem? (i := 1745) (by decide +kernel)⟩
theorem lw_p95 : lw_okq (⟨"ClockReachModel", "isStep", "(II)Z"⟩, 67) := ⟨⟨by decide +kernel, by decide +kernel⟩, List.mem_of_getElem? (i := 1173) (by decide +kernel), List.mem_of_getElem? (i := 1764) (by decide +kernel), List.mem_of_getElem? (i := 1765) (by decide +kernel)⟩
def lw_privs_6 : List (MethodName × Nat) := [(⟨"ClockReachModel", "delays", "([II)V"⟩, 67), (⟨"ClockReachModel", "forgets", "([II)V"⟩, 67), (⟨"ClockReachModel", "hasAll", "(I[IZ)Z"⟩, 67), (⟨"ClockReachModel", "goesBy", "(I)Z"⟩, 67), (⟨"ClockReachModel", "goesBack", "([II)V"⟩, 67), (⟨"ClockReachModel", "isState", "(I)Z"⟩, 67), (⟨"ClockReachModel", "isStuck", "(I)Z"⟩, 67), (⟨"ClockReachModel", "layAhead", "(I)Z"⟩, 67), (⟨"ClockReachModel", "isOver", "()Z"⟩, 67), (⟨"ClockReachModel", "keepsPiece", "(I)V"⟩, 67), (⟨"ClockReachModel", "parts", "(I)Z"⟩, 67), (⟨"ClockReachModel", "boundOf", "(III)I"⟩, 67), (⟨"ClockReachModel", "hasTimes", "(IIII)Z"⟩, 67), (⟨"ClockReachModel", "goesTo", "(I)I"⟩, 67), (⟨"ClockReachModel", "hasPlace", "(II)Z"⟩, 67), (⟨"ClockReachModel", "isStep", "(II)Z"⟩, 67)]
theorem lw_r6 : ∀ q ∈ lw_privs_6, lw_okq q := List.forall_mem_cons.mpr ⟨lw_p80, List.forall_mem_cons.mpr ⟨lw_p81, List.forall_mem_cons.mpr ⟨lw_p82, List.forall_mem_cons.mpr ⟨lw_p83, List.forall_mem_cons.mpr ⟨lw_p84, List.forall_mem_cons.mpr ⟨lw_p85, List.forall_mem_cons.mpr ⟨lw_p86, List.forall_mem_cons.mpr ⟨lw_p87, List.forall_mem_cons.mpr ⟨lw_p88, List.forall_mem_cons.mpr ⟨lw_p89, List.forall_mem_cons.mpr ⟨lw_p90, List.forall_mem_cons.mpr ⟨lw_p91, List.forall_mem_cons.mpr ⟨lw_p92, List.forall_mem_cons.mpr ⟨lw_p93, List.forall_mem_cons.mpr ⟨lw_p94, List.forall_mem_cons.mpr ⟨lw_p95, fun _ h => absurd h List.not_mem_nil⟩⟩⟩⟩⟩⟩⟩⟩⟩⟩⟩⟩⟩⟩⟩⟩
theorem lw_p96 : lw_okq (⟨"ClockReachModel", "layPath", "(I)V"⟩, 67) := ⟨⟨by decide +kernel, by decide +kernel⟩, List.mem_of_getElem? (i := 1173) (by decide +kernel), List.mem_of_getElem? (i := 1768) (by decide +kernel), List.mem_of_getElem? (i := 1769) (by decide +kernel)⟩
theorem lw_p97 : lw_okq (⟨"ClockReachModel", "laysLeast", "()Z"⟩, 67) := ⟨⟨by decide +kernel, by decide +kernel⟩, List.mem_of_getElem? (i := 1173) (by decide +kernel), List.mem_of_getElem? (i := 1776) (by decide +kernel), List.mem_of_getElem? (i := 1777) (by decide +kernel)⟩
theorem lw_p98 : lw_okq (⟨"ClockReachModel", "layGaps", "()V"⟩, 67) := ⟨⟨by decide +kernel, by decide +kernel⟩, List.mem_of_getElem? (i := 1173) (by decide +kernel), List.mem_of_getElem? (i := 1780) (by decide +kernel), List.mem_of_getElem? (i := 1781) (by decide +kernel)⟩
theorem lw_p99 : lw_okq (⟨"ClockReachModel", "layConditions", "(II)V"⟩, 67) := ⟨⟨by decide +kernel, by decide +kernel⟩, List.mem_of_getElem? (i := 1173) (by decide +kernel), List.mem_of_getElem? (i := 1784) (by decide +kernel), List.mem_of_getElem? (i := 1785) (by decide +kernel)⟩
theorem lw_p100 : lw_okq (⟨"ClockReachModel", "holdsApart", "(III)V"⟩, 67) := ⟨⟨by decide +kernel, by decide +kernel⟩, List.mem_of_getElem? (i := 1173) (by decide +kernel), List.mem_of_getElem? (i := 1788) (by decide +kernel), List.mem_of_getElem? (i := 1789) (by decide +kernel)⟩
theorem lw_p101 : lw_okq (⟨"ClockReachModel", "laysGreatest", "(I)Z"⟩, 67) := ⟨⟨by decide +kernel, by decide +kernel⟩, List.mem_of_getElem? (i := 1173) (by decide +kernel), List.mem_of_getElem? (i := 1803) (by decide +kernel), List.mem_of_getElem? (i := 1804) (by decide +kernel)⟩
theorem lw_p102 : lw_okq (⟨"ClockReachModel", "spanned", "(I)I"⟩, 67) := ⟨⟨by decide +kernel, by decide +kernel⟩, List.mem_of_getElem? (i := 1173) (by decide +kernel), List.mem_of_getElem? (i := 1812) (by decide +kernel), List.mem_of_getElem? (i := 1813) (by decide +kernel)⟩
theorem lw_p103 : lw_okq (⟨"ClockReachModel", "beginsPlay", "()Z"⟩, 67) := ⟨⟨by decide +kernel, by decide +kernel⟩, List.mem_of_getElem? (i := 1173) (by decide +kernel), List.mem_of_getElem? (i := 1824) (by decide +kernel), List.mem_of_getElem? (i := 1825) (by decide +kernel)⟩
theorem lw_p104 : lw_okq (⟨"ClockReachModel", "isHeld", "(II)Z"⟩, 67) := ⟨⟨by decide +kernel, by decide +kernel⟩, List.mem_of_getElem? (i := 1173) (by decide +kernel), List.mem_of_getElem? (i := 1828) (by decide +kernel), List.mem_of_getElem? (i := 1829) (by decide +kernel)⟩
theorem lw_p105 : lw_okq (⟨"ClockReachModel", "mayWait", "()I"⟩, 67) := ⟨⟨by decide +kernel, by decide +kernel⟩, List.mem_of_getElem? (i := 1173) (by decide +kernel), List.mem_of_getElem? (i := 1836) (by decide +kernel), List.mem_of_getElem? (i := 1837) (by decide +kernel)⟩
theorem lw_p106 : lw_okq (⟨"ClockReachModel", "passes", "(I)V"⟩, 67) := ⟨⟨by decide +kernel, by decide +kernel⟩, List.mem_of_getElem? (i := 1173) (by decide +kernel), List.mem_of_getElem? (i := 1840) (by decide +kernel), List.mem_of_getElem? (i := 1841) (by decide +kernel)⟩
theorem lw_p107 : lw_okq (⟨"ClockReachModel", "canTake", "(I)Z"⟩, 67) := ⟨⟨by decide +kernel, by decide +kernel⟩, List.mem_of_getElem? (i := 1173) (by decide +kernel), List.mem_of_getElem? (i := 1848) (by decide +kernel), List.mem_of_getElem? (i := 1849) (by decide +kernel)⟩
theorem lw_p108 : lw_okq (⟨"ClockReachModel", "take", "(I)V"⟩, 67) := ⟨⟨by decide +kernel, by decide +kernel⟩, List.mem_of_getElem? (i := 1173) (by decide +kernel), List.mem_of_getElem? (i := 1852) (by decide +kernel), List.mem_of_getElem? (i := 1853) (by decide +kernel)⟩
def lw_privs_7 : List (MethodName × Nat) := [(⟨"ClockReachModel", "layPath", "(I)V"⟩, 67), (⟨"ClockReachModel", "laysLeast", "()Z"⟩, 67), (⟨"ClockReachModel", "layGaps", "()V"⟩, 67), (⟨"ClockReachModel", "layConditions", "(II)V"⟩, 67), (⟨"ClockReachModel", "holdsApart", "(III)V"⟩, 67), (⟨"ClockReachModel", "laysGreatest", "(I)Z"⟩, 67), (⟨"ClockReachModel", "spanned", "(I)I"⟩, 67), (⟨"ClockReachModel", "beginsPlay", "()Z"⟩, 67), (⟨"ClockReachModel", "isHeld", "(II)Z"⟩, 67), (⟨"ClockReachModel", "mayWait", "()I"⟩, 67), (⟨"ClockReachModel", "passes", "(I)V"⟩, 67), (⟨"ClockReachModel", "canTake", "(I)Z"⟩, 67), (⟨"ClockReachModel", "take", "(I)V"⟩, 67)]
theorem lw_r7 : ∀ q ∈ lw_privs_7, lw_okq q := List.forall_mem_cons.mpr ⟨lw_p96, List.forall_mem_cons.mpr ⟨lw_p97, List.forall_mem_cons.mpr ⟨lw_p98, List.forall_mem_cons.mpr ⟨lw_p99, List.forall_mem_cons.mpr ⟨lw_p100, List.forall_mem_cons.mpr ⟨lw_p101, List.forall_mem_cons.mpr ⟨lw_p102, List.forall_mem_cons.mpr ⟨lw_p103, List.forall_mem_cons.mpr ⟨lw_p104, List.forall_mem_cons.mpr ⟨lw_p105, List.forall_mem_cons.mpr ⟨lw_p106, List.forall_mem_cons.mpr ⟨lw_p107, List.forall_mem_cons.mpr ⟨lw_p108, fun _ h => absurd h List.not_mem_nil⟩⟩⟩⟩⟩⟩⟩⟩⟩⟩⟩⟩⟩
def lw_privs : List (MethodName × Nat) := lw_privs_1 ++ (lw_privs_2 ++ (lw_privs_3 ++ (lw_privs_4 ++ (lw_privs_5 ++ (lw_privs_6 ++ (lw_privs_7))))))
def lw_tbl : List Cond := k2_sels lw_privs ++ tables_1
theorem lw_privs_ok : ∀ q ∈ lw_privs, lw_okq q := by
  show ∀ q ∈ lw_privs_1 ++ (lw_privs_2 ++ (lw_privs_3 ++ (lw_privs_4 ++ (lw_privs_5 ++ (lw_privs_6 ++ (lw_privs_7)))))), lw_okq q
  exact List.forall_mem_append.mpr ⟨lw_r1, List.forall_mem_append.mpr ⟨lw_r2, List.forall_mem_append.mpr ⟨lw_r3, List.forall_mem_append.mpr ⟨lw_r4, List.forall_mem_append.mpr ⟨lw_r5, List.forall_mem_append.mpr ⟨lw_r6, lw_r7⟩⟩⟩⟩⟩⟩
end
section
/-! ===== BEGIN words of one list among another's, by their places ===== -/
theorem goodIn_r {big : List Cond} (ws : List Cond) (ps : List Nat) (hp : ws = ps.filterMap (fun i => big[i]?)) (h : ws.all goodWord = true) : GoodIn big ws := by
  intro w hw
  have h1 := List.all_eq_true.mp h w hw
  rw [hp] at hw
  obtain ⟨i, -, hi⟩ := List.mem_filterMap.mp hw
  have hm : w ∈ big := by first | exact List.mem_of_getElem? hi | exact List.getElem?_mem hi
  exact ⟨hm, good_of_word h1⟩
theorem goodIn_app {big a b : List Cond} (ha : GoodIn big a) (hb : GoodIn big b) : GoodIn big (a ++ b) := fun w h => (List.mem_append.mp h).elim (ha w) (hb w)
theorem goodIn_ca {big a b : List Cond} {c : Cond} (ha : GoodIn big (c :: a)) (hb : GoodIn big b) : GoodIn big (c :: (a ++ b)) := fun w h => (List.mem_cons.mp h).elim (fun e => ha w (List.mem_cons.mpr (Or.inl e))) (fun h => (List.mem_append.mp h).elim (fun h => ha w (List.mem_cons.mpr (Or.inr h))) (hb w))
theorem goodIn_sub {big ws : List Cond} (hm : ∀ w ∈ ws, w ∈ big) (h : ws.all goodWord = true) : GoodIn big ws := fun w hw => ⟨hm w hw, good_of_word (List.all_eq_true.mp h w hw)⟩
def RX0 : String := "ClockReach$Automaton"
def TX0 : u_T := fun k => match k with
  | 0 => ("ClockReach$Automaton", "clocks", "I", false)
  | 1 => ("ClockReach$Automaton", "places", "I", false)
  | 2 => ("ClockReach$Automaton", "edges", "I", false)
  | 3 => ("ClockReach$Automaton", "start", "I", false)
  | 4 => ("ClockReach$Automaton", "hurried", "[Z", true)
  | 5 => ("ClockReach$Automaton", "sources", "[I", true)
  | 6 => ("ClockReach$Automaton", "targets", "[I", true)
  | 7 => ("ClockReach$Automaton", "resets", "[I", true)
  | 8 => ("ClockReach$Automaton", "counts", "[I", true)
  | 9 => ("ClockReach$Automaton", "conditionClocks", "[I", true)
  | 10 => ("ClockReach$Automaton", "hows", "[I", true)
  | 11 => ("ClockReach$Automaton", "numbers", "[I", true)
  | 12 => ("ClockReach$Automaton", "ceilings", "[I", true)
  | 13 => ("ClockReach$Automaton", "floors", "[I", true)
  | 14 => ("ClockReach$Automaton", "greatest", "[I", true)
  | 15 => ("ClockReach$Automaton", "lower", "[I", true)
  | _ => ("ClockReach$Automaton", "upper", "[I", true)
def tyX0 : Nat → FieldType := fun k => match k with
  | 0 => .int
  | 1 => .int
  | 2 => .int
  | 3 => .int
  | 4 => .array .boolean
  | 5 => .array .int
  | 6 => .array .int
  | 7 => .array .int
  | 8 => .array .int
  | 9 => .array .int
  | 10 => .array .int
  | 11 => .array .int
  | 12 => .array .int
  | 13 => .array .int
  | 14 => .array .int
  | 15 => .array .int
  | _ => .array .int
abbrev wsX00 : List Cond := u_ws RX0 TX0 17
theorem nmX0 : ∀ a, a < 17 → ∀ b, b < 17 → a ≠ b → (TX0 a).2.1 ≠ (TX0 b).2.1 := by decide +kernel
theorem tyX0_ok : ∀ k, k < 17 → parseFieldDescriptor (TX0 k).2.2.1 = some (tyX0 k) := by decide +kernel
abbrev cX0_init : ByteArray := prog_2_method_1_code
def yX0_init : MethodName := ⟨RX0, "<init>", "()V"⟩
abbrev cX0_hostOfPlace : ByteArray := prog_2_method_2_code
def yX0_hostOfPlace : MethodName := ⟨RX0, "hostOfPlace", "(I)I"⟩
abbrev cX0_slot : ByteArray := prog_2_method_3_code
def yX0_slot : MethodName := ⟨RX0, "slot", "(II)I"⟩
abbrev cX0_clear : ByteArray := prog_2_method_4_code
def yX0_clear : MethodName := ⟨RX0, "clear", "()V"⟩
abbrev cX0_addEdge : ByteArray := prog_2_method_5_code
def yX0_addEdge : MethodName := ⟨RX0, "addEdge", "(II)V"⟩
abbrev cX0_addCondition : ByteArray := prog_2_method_6_code
def yX0_addCondition : MethodName := ⟨RX0, "addCondition", "(IIII)V"⟩
abbrev cX0_setBounds : ByteArray := prog_2_method_7_code
def yX0_setBounds : MethodName := ⟨RX0, "setBounds", "(I)V"⟩
abbrev cX0_setNumber : ByteArray := prog_2_method_8_code
def yX0_setNumber : MethodName := ⟨RX0, "setNumber", "(II)V"⟩
abbrev cX0_measure : ByteArray := prog_2_method_9_code
def yX0_measure : MethodName := ⟨RX0, "measure", "()V"⟩
abbrev cX0_allConditions : ByteArray := prog_2_method_10_code
def yX0_allConditions : MethodName := ⟨RX0, "allConditions", "()I"⟩
abbrev cX0_edgesWith : ByteArray := prog_2_method_11_code
def yX0_edgesWith : MethodName := ⟨RX0, "edgesWith", "([II)I"⟩
abbrev cX0_narrowTo : ByteArray := prog_2_method_12_code
def yX0_narrowTo : MethodName := ⟨RX0, "narrowTo", "(LClockReach$Zone;II)Z"⟩
abbrev cX0_opensIn : ByteArray := prog_2_method_13_code
def yX0_opensIn : MethodName := ⟨RX0, "opensIn", "(LClockReach$Zone;I)Z"⟩
abbrev cX0_setBackIn : ByteArray := prog_2_method_14_code
def yX0_setBackIn : MethodName := ⟨RX0, "setBackIn", "(LClockReach$Zone;I)V"⟩
abbrev cX0_stayIn : ByteArray := prog_2_method_15_code
def yX0_stayIn : MethodName := ⟨RX0, "stayIn", "(LClockReach$Zone;I)V"⟩
abbrev cX0_holdsAt : ByteArray := prog_2_method_16_code
def yX0_holdsAt : MethodName := ⟨RX0, "holdsAt", "(I[I)Z"⟩
abbrev cX0_hurriedRings : ByteArray := prog_2_method_17_code
def yX0_hurriedRings : MethodName := ⟨RX0, "hurriedRings", "()I"⟩
abbrev cX0_hurriedBehind : ByteArray := prog_2_method_18_code
def yX0_hurriedBehind : MethodName := ⟨RX0, "hurriedBehind", "(I)I"⟩
def RX1 : String := "ClockReach$Graph"
def TX1 : u_T := fun k => match k with
  | 0 => ("ClockReach$Graph", "zones", "[LClockReach$Zone;", true)
  | 1 => ("ClockReach$Graph", "sites", "[I", true)
  | 2 => ("ClockReach$Graph", "parents", "[I", true)
  | 3 => ("ClockReach$Graph", "entries", "[I", true)
  | 4 => ("ClockReach$Graph", "depths", "[I", true)
  | 5 => ("ClockReach$Graph", "broods", "[I", true)
  | 6 => ("ClockReach$Graph", "count", "I", false)
  | 7 => ("ClockReach$Graph", "full", "Z", false)
  | 8 => ("ClockReach$Graph", "crossed", "I", false)
  | 9 => ("ClockReach$Graph", "way", "I", false)
  | 10 => ("ClockReach$Graph", "avoided", "I", false)
  | 11 => ("ClockReach$Graph", "goal", "I", false)
  | 12 => ("ClockReach$Graph", "found", "Z", false)
  | 13 => ("ClockReach$Graph", "most", "I", true)
  | 14 => ("ClockReach$Graph", "leaves", "Z", false)
  | 15 => ("ClockReach$Graph", "size", "I", false)
  | 16 => ("ClockReach$Graph", "high", "[I", true)
  | _ => ("ClockReach$Graph", "low", "[I", true)
def tyX1 : Nat → FieldType := fun k => match k with
  | 0 => .array (.object "ClockReach$Zone")
  | 1 => .array .int
  | 2 => .array .int
  | 3 => .array .int
  | 4 => .array .int
  | 5 => .array .int
  | 6 => .int
  | 7 => .boolean
  | 8 => .int
  | 9 => .int
  | 10 => .int
  | 11 => .int
  | 12 => .boolean
  | 13 => .int
  | 14 => .boolean
  | 15 => .int
  | 16 => .array .int
  | _ => .array .int
abbrev wsX10 : List Cond := u_ws RX1 TX1 18
theorem nmX1 : ∀ a, a < 18 → ∀ b, b < 18 → a ≠ b → (TX1 a).2.1 ≠ (TX1 b).2.1 := by decide +kernel
theorem tyX1_ok : ∀ k, k < 18 → parseFieldDescriptor (TX1 k).2.2.1 = some (tyX1 k) := by decide +kernel
abbrev cX1_init : ByteArray := prog_3_method_1_code
def yX1_init : MethodName := ⟨RX1, "<init>", "(II)V"⟩
abbrev cX1_plan : ByteArray := prog_3_method_2_code
def yX1_plan : MethodName := ⟨RX1, "plan", "(LClockReach$Automaton;IZI)V"⟩
abbrev cX1_open : ByteArray := prog_3_method_3_code
def yX1_open : MethodName := ⟨RX1, "open", "(LClockReach$Automaton;I[I)V"⟩
abbrev cX1_record : ByteArray := prog_3_method_4_code
def yX1_record : MethodName := ⟨RX1, "record", "(III)V"⟩
abbrev cX1_grow : ByteArray := prog_3_method_5_code
def yX1_grow : MethodName := ⟨RX1, "grow", "(LClockReach$Automaton;)V"⟩
abbrev cX1_step : ByteArray := prog_3_method_6_code
def yX1_step : MethodName := ⟨RX1, "step", "(LClockReach$Automaton;II)V"⟩
abbrev cX1_isKnown : ByteArray := prog_3_method_7_code
def yX1_isKnown : MethodName := ⟨RX1, "isKnown", "(LClockReach$Zone;I)Z"⟩
abbrev cX1_firstAt : ByteArray := prog_3_method_8_code
def yX1_firstAt : MethodName := ⟨RX1, "firstAt", "(I)I"⟩
abbrev cX1_allSites : ByteArray := prog_3_method_9_code
def yX1_allSites : MethodName := ⟨RX1, "allSites", "()I"⟩
abbrev cX1_loosestAt : ByteArray := prog_3_method_10_code
def yX1_loosestAt : MethodName := ⟨RX1, "loosestAt", "(III)I"⟩
def RX2 : String := "ClockReach$History"
def TX2 : u_T := fun k => match k with
  | 0 => ("ClockReach$History", "count", "I", false)
  | 1 => ("ClockReach$History", "codes", "[I", true)
  | _ => ("ClockReach$History", "olds", "[I", true)
def tyX2 : Nat → FieldType := fun k => match k with
  | 0 => .int
  | 1 => .array .int
  | _ => .array .int
abbrev wsX20 : List Cond := u_ws RX2 TX2 3
theorem nmX2 : ∀ a, a < 3 → ∀ b, b < 3 → a ≠ b → (TX2 a).2.1 ≠ (TX2 b).2.1 := by decide +kernel
theorem tyX2_ok : ∀ k, k < 3 → parseFieldDescriptor (TX2 k).2.2.1 = some (tyX2 k) := by decide +kernel
abbrev cX2_init : ByteArray := prog_4_method_1_code
def yX2_init : MethodName := ⟨RX2, "<init>", "()V"⟩
abbrev cX2_codeOfPlace : ByteArray := prog_4_method_2_code
def yX2_codeOfPlace : MethodName := ⟨RX2, "codeOfPlace", "(I)I"⟩
abbrev cX2_keep : ByteArray := prog_4_method_3_code
def yX2_keep : MethodName := ⟨RX2, "keep", "(II)V"⟩
abbrev cX2_takesBack : ByteArray := prog_4_method_4_code
def yX2_takesBack : MethodName := ⟨RX2, "takesBack", "(LClockReach$Automaton;)Z"⟩
def RX3 : String := "ClockReach$Play"
def TX3 : u_T := fun k => match k with
  | 0 => ("ClockReach$Play", "on", "Z", false)
  | 1 => ("ClockReach$Play", "site", "I", false)
  | 2 => ("ClockReach$Play", "time", "I", false)
  | 3 => ("ClockReach$Play", "times", "[I", true)
  | _ => ("ClockReach$Play", "behind", "[I", true)
def tyX3 : Nat → FieldType := fun k => match k with
  | 0 => .boolean
  | 1 => .int
  | 2 => .int
  | 3 => .array .int
  | _ => .array .int
abbrev wsX30 : List Cond := u_ws RX3 TX3 5
theorem nmX3 : ∀ a, a < 5 → ∀ b, b < 5 → a ≠ b → (TX3 a).2.1 ≠ (TX3 b).2.1 := by decide +kernel
theorem tyX3_ok : ∀ k, k < 5 → parseFieldDescriptor (TX3 k).2.2.1 = some (tyX3 k) := by decide +kernel
abbrev cX3_init : ByteArray := prog_5_method_1_code
def yX3_init : MethodName := ⟨RX3, "<init>", "()V"⟩
abbrev cX3_startsIn : ByteArray := prog_5_method_2_code
def yX3_startsIn : MethodName := ⟨RX3, "startsIn", "(LClockReach$Automaton;)Z"⟩
abbrev cX3_longestWait : ByteArray := prog_5_method_3_code
def yX3_longestWait : MethodName := ⟨RX3, "longestWait", "(LClockReach$Automaton;)I"⟩
abbrev cX3_pass : ByteArray := prog_5_method_4_code
def yX3_pass : MethodName := ⟨RX3, "pass", "(I)V"⟩
abbrev cX3_opens : ByteArray := prog_5_method_5_code
def yX3_opens : MethodName := ⟨RX3, "opens", "(LClockReach$Automaton;I)Z"⟩
abbrev cX3_cross : ByteArray := prog_5_method_6_code
def yX3_cross : MethodName := ⟨RX3, "cross", "(LClockReach$Automaton;I)V"⟩
abbrev cX3_openEdges : ByteArray := prog_5_method_7_code
def yX3_openEdges : MethodName := ⟨RX3, "openEdges", "(LClockReach$Automaton;)I"⟩
abbrev cX3_goesBy : ByteArray := prog_5_method_8_code
def yX3_goesBy : MethodName := ⟨RX3, "goesBy", "(LClockReach$Automaton;II)Z"⟩
def RX4 : String := "ClockReach$Reader"
def TX4 : u_T := fun k => match k with
  | 0 => ("ClockReach$Reader", "fault", "I", false)
  | 1 => ("ClockReach$Reader", "faultAt", "I", false)
  | 2 => ("ClockReach$Reader", "text", "[I", false)
  | 3 => ("ClockReach$Reader", "length", "I", false)
  | 4 => ("ClockReach$Reader", "position", "I", false)
  | 5 => ("ClockReach$Reader", "kind", "I", false)
  | 6 => ("ClockReach$Reader", "value", "I", false)
  | 7 => ("ClockReach$Reader", "tokenAt", "I", false)
  | 8 => ("ClockReach$Reader", "into", "LClockReach$Automaton;", false)
  | 9 => ("ClockReach$Reader", "words", "[I", true)
  | 10 => ("ClockReach$Reader", "clockNames", "[I", true)
  | _ => ("ClockReach$Reader", "placeNames", "[I", true)
def tyX4 : Nat → FieldType := fun k => match k with
  | 0 => .int
  | 1 => .int
  | 2 => .array .int
  | 3 => .int
  | 4 => .int
  | 5 => .int
  | 6 => .int
  | 7 => .int
  | 8 => .object "ClockReach$Automaton"
  | 9 => .array .int
  | 10 => .array .int
  | _ => .array .int
abbrev wsX40 : List Cond := u_ws RX4 TX4 12
theorem nmX4 : ∀ a, a < 12 → ∀ b, b < 12 → a ≠ b → (TX4 a).2.1 ≠ (TX4 b).2.1 := by decide +kernel
theorem tyX4_ok : ∀ k, k < 12 → parseFieldDescriptor (TX4 k).2.2.1 = some (tyX4 k) := by decide +kernel
abbrev cX4_init : ByteArray := prog_6_method_1_code
def yX4_init : MethodName := ⟨RX4, "<init>", "()V"⟩
abbrev cX4_code : ByteArray := prog_6_method_2_code
def yX4_code : MethodName := ⟨RX4, "code", "(Ljava/lang/String;)I"⟩
abbrev cX4_reads : ByteArray := prog_6_method_3_code
def yX4_reads : MethodName := ⟨RX4, "reads", "([IILClockReach$Automaton;)Z"⟩
abbrev cX4_refuse : ByteArray := prog_6_method_4_code
def yX4_refuse : MethodName := ⟨RX4, "refuse", "(I)Z"⟩
abbrev cX4_refuseToken : ByteArray := prog_6_method_5_code
def yX4_refuseToken : MethodName := ⟨RX4, "refuseToken", "()Z"⟩
abbrev cX4_readsStop : ByteArray := prog_6_method_6_code
def yX4_readsStop : MethodName := ⟨RX4, "readsStop", "()Z"⟩
abbrev cX4_readsClock : ByteArray := prog_6_method_7_code
def yX4_readsClock : MethodName := ⟨RX4, "readsClock", "()Z"⟩
abbrev cX4_readsPlace : ByteArray := prog_6_method_8_code
def yX4_readsPlace : MethodName := ⟨RX4, "readsPlace", "()Z"⟩
abbrev cX4_readsStart : ByteArray := prog_6_method_9_code
def yX4_readsStart : MethodName := ⟨RX4, "readsStart", "()Z"⟩
abbrev cX4_readsEdge : ByteArray := prog_6_method_10_code
def yX4_readsEdge : MethodName := ⟨RX4, "readsEdge", "()Z"⟩
abbrev cX4_readsResets : ByteArray := prog_6_method_11_code
def yX4_readsResets : MethodName := ⟨RX4, "readsResets", "(I)Z"⟩
abbrev cX4_readsConditions : ByteArray := prog_6_method_12_code
def yX4_readsConditions : MethodName := ⟨RX4, "readsConditions", "(III)Z"⟩
abbrev cX4_readHow : ByteArray := prog_6_method_13_code
def yX4_readHow : MethodName := ⟨RX4, "readHow", "(Z)I"⟩
abbrev cX4_isNewName : ByteArray := prog_6_method_14_code
def yX4_isNewName : MethodName := ⟨RX4, "isNewName", "()Z"⟩
abbrev cX4_toldName : ByteArray := prog_6_method_15_code
def yX4_toldName : MethodName := ⟨RX4, "toldName", "([II)I"⟩
abbrev cX4_indexOf : ByteArray := prog_6_method_16_code
def yX4_indexOf : MethodName := ⟨RX4, "indexOf", "([II)I"⟩
abbrev cX4_advance : ByteArray := prog_6_method_17_code
def yX4_advance : MethodName := ⟨RX4, "advance", "()V"⟩
abbrev cX4_scanWord : ByteArray := prog_6_method_18_code
def yX4_scanWord : MethodName := ⟨RX4, "scanWord", "()V"⟩
abbrev cX4_scanNumber : ByteArray := prog_6_method_19_code
def yX4_scanNumber : MethodName := ⟨RX4, "scanNumber", "()V"⟩
abbrev cX4_scanSign : ByteArray := prog_6_method_20_code
def yX4_scanSign : MethodName := ⟨RX4, "scanSign", "()V"⟩
def RX5 : String := "ClockReach$Remainder"
def TX5 : u_T := fun k => match k with
  | 0 => ("ClockReach$Remainder", "covers", "[LClockReach$Zone;", true)
  | 1 => ("ClockReach$Remainder", "count", "I", false)
  | 2 => ("ClockReach$Remainder", "made", "[LClockReach$Zone;", true)
  | 3 => ("ClockReach$Remainder", "used", "I", false)
  | 4 => ("ClockReach$Remainder", "pieces", "[LClockReach$Zone;", true)
  | 5 => ("ClockReach$Remainder", "cutting", "[I", true)
  | 6 => ("ClockReach$Remainder", "cells", "[I", true)
  | _ => ("ClockReach$Remainder", "scratch", "LClockReach$Zone;", true)
def tyX5 : Nat → FieldType := fun k => match k with
  | 0 => .array (.object "ClockReach$Zone")
  | 1 => .int
  | 2 => .array (.object "ClockReach$Zone")
  | 3 => .int
  | 4 => .array (.object "ClockReach$Zone")
  | 5 => .array .int
  | 6 => .array .int
  | _ => .object "ClockReach$Zone"
abbrev wsX50 : List Cond := u_ws RX5 TX5 8
theorem nmX5 : ∀ a, a < 8 → ∀ b, b < 8 → a ≠ b → (TX5 a).2.1 ≠ (TX5 b).2.1 := by decide +kernel
theorem tyX5_ok : ∀ k, k < 8 → parseFieldDescriptor (TX5 k).2.2.1 = some (tyX5 k) := by decide +kernel
abbrev cX5_init : ByteArray := prog_7_method_1_code
def yX5_init : MethodName := ⟨RX5, "<init>", "()V"⟩
abbrev cX5_clear : ByteArray := prog_7_method_2_code
def yX5_clear : MethodName := ⟨RX5, "clear", "()V"⟩
abbrev cX5_add : ByteArray := prog_7_method_3_code
def yX5_add : MethodName := ⟨RX5, "add", "(LClockReach$Zone;)V"⟩
abbrev cX5_addLeaving : ByteArray := prog_7_method_4_code
def yX5_addLeaving : MethodName := ⟨RX5, "addLeaving", "(LClockReach$Automaton;II)V"⟩
abbrev cX5_meet : ByteArray := prog_7_method_5_code
def yX5_meet : MethodName := ⟨RX5, "meet", "(LClockReach$Zone;LClockReach$Zone;)Z"⟩
abbrev cX5_leavesAny : ByteArray := prog_7_method_6_code
def yX5_leavesAny : MethodName := ⟨RX5, "leavesAny", "(LClockReach$Zone;)Z"⟩
abbrev cX5_nextCover : ByteArray := prog_7_method_7_code
def yX5_nextCover : MethodName := ⟨RX5, "nextCover", "(LClockReach$Zone;I)I"⟩
abbrev cX5_splits : ByteArray := prog_7_method_8_code
def yX5_splits : MethodName := ⟨RX5, "splits", "(I)Z"⟩
def RX6 : String := "ClockReach$Timing"
def TX6 : u_T := fun k => match k with
  | 0 => ("ClockReach$Timing", "path", "[I", true)
  | 1 => ("ClockReach$Timing", "length", "I", false)
  | 2 => ("ClockReach$Timing", "at", "[I", true)
  | 3 => ("ClockReach$Timing", "laters", "[I", true)
  | 4 => ("ClockReach$Timing", "earliers", "[I", true)
  | 5 => ("ClockReach$Timing", "gaps", "[I", true)
  | 6 => ("ClockReach$Timing", "rules", "I", false)
  | 7 => ("ClockReach$Timing", "since", "[I", true)
  | 8 => ("ClockReach$Timing", "zeros", "[I", true)
  | _ => ("ClockReach$Timing", "zone", "LClockReach$Zone;", true)
def tyX6 : Nat → FieldType := fun k => match k with
  | 0 => .array .int
  | 1 => .int
  | 2 => .array .int
  | 3 => .array .int
  | 4 => .array .int
  | 5 => .array .int
  | 6 => .int
  | 7 => .array .int
  | 8 => .array .int
  | _ => .object "ClockReach$Zone"
abbrev wsX60 : List Cond := u_ws RX6 TX6 10
theorem nmX6 : ∀ a, a < 10 → ∀ b, b < 10 → a ≠ b → (TX6 a).2.1 ≠ (TX6 b).2.1 := by decide +kernel
theorem tyX6_ok : ∀ k, k < 10 → parseFieldDescriptor (TX6 k).2.2.1 = some (tyX6 k) := by decide +kernel
abbrev cX6_init : ByteArray := prog_8_method_1_code
def yX6_init : MethodName := ⟨RX6, "<init>", "()V"⟩
abbrev cX6_loadRun : ByteArray := prog_8_method_2_code
def yX6_loadRun : MethodName := ⟨RX6, "loadRun", "(LClockReach$Graph;I)V"⟩
abbrev cX6_layRules : ByteArray := prog_8_method_3_code
def yX6_layRules : MethodName := ⟨RX6, "layRules", "(LClockReach$Automaton;)V"⟩
abbrev cX6_layConditions : ByteArray := prog_8_method_4_code
def yX6_layConditions : MethodName := ⟨RX6, "layConditions", "(LClockReach$Automaton;II)V"⟩
abbrev cX6_layRule : ByteArray := prog_8_method_5_code
def yX6_layRule : MethodName := ⟨RX6, "layRule", "(III)V"⟩
abbrev cX6_findsLeast : ByteArray := prog_8_method_6_code
def yX6_findsLeast : MethodName := ⟨RX6, "findsLeast", "()Z"⟩
abbrev cX6_findsGreatest : ByteArray := prog_8_method_7_code
def yX6_findsGreatest : MethodName := ⟨RX6, "findsGreatest", "(I)Z"⟩
abbrev cX6_clockBehind : ByteArray := prog_8_method_8_code
def yX6_clockBehind : MethodName := ⟨RX6, "clockBehind", "(LClockReach$Automaton;II)I"⟩
abbrev cX6_spanOf : ByteArray := prog_8_method_9_code
def yX6_spanOf : MethodName := ⟨RX6, "spanOf", "(LClockReach$Automaton;I)I"⟩
def RX7 : String := "ClockReach$Zone"
def TX7 : u_T := fun k => match k with
  | 0 => ("ClockReach$Zone", "cells", "[I", true)
  | _ => ("ClockReach$Zone", "size", "I", false)
def tyX7 : Nat → FieldType := fun k => match k with
  | 0 => .array .int
  | _ => .int
abbrev wsX70 : List Cond := u_ws RX7 TX7 2
theorem nmX7 : ∀ a, a < 2 → ∀ b, b < 2 → a ≠ b → (TX7 a).2.1 ≠ (TX7 b).2.1 := by decide +kernel
theorem tyX7_ok : ∀ k, k < 2 → parseFieldDescriptor (TX7 k).2.2.1 = some (tyX7 k) := by decide +kernel
abbrev cX7_init : ByteArray := prog_9_method_1_code
def yX7_init : MethodName := ⟨RX7, "<init>", "(I)V"⟩
abbrev cX7_ticks : ByteArray := prog_9_method_2_code
def yX7_ticks : MethodName := ⟨RX7, "ticks", "(I)I"⟩
abbrev cX7_wholePart : ByteArray := prog_9_method_3_code
def yX7_wholePart : MethodName := ⟨RX7, "wholePart", "(I)I"⟩
abbrev cX7_cellOf : ByteArray := prog_9_method_4_code
def yX7_cellOf : MethodName := ⟨RX7, "cellOf", "(II)I"⟩
abbrev cX7_setPoint : ByteArray := prog_9_method_5_code
def yX7_setPoint : MethodName := ⟨RX7, "setPoint", "(I[I)V"⟩
abbrev cX7_setAll : ByteArray := prog_9_method_6_code
def yX7_setAll : MethodName := ⟨RX7, "setAll", "(I)V"⟩
abbrev cX7_copyOf : ByteArray := prog_9_method_7_code
def yX7_copyOf : MethodName := ⟨RX7, "copyOf", "(LClockReach$Zone;)V"⟩
abbrev cX7_narrow : ByteArray := prog_9_method_8_code
def yX7_narrow : MethodName := ⟨RX7, "narrow", "(III)Z"⟩
abbrev cX7_setBack : ByteArray := prog_9_method_9_code
def yX7_setBack : MethodName := ⟨RX7, "setBack", "(I)V"⟩
abbrev cX7_delay : ByteArray := prog_9_method_10_code
def yX7_delay : MethodName := ⟨RX7, "delay", "()V"⟩
abbrev cX7_setPast : ByteArray := prog_9_method_11_code
def yX7_setPast : MethodName := ⟨RX7, "setPast", "()V"⟩
abbrev cX7_forget : ByteArray := prog_9_method_12_code
def yX7_forget : MethodName := ⟨RX7, "forget", "([I[I)V"⟩
abbrev cX7_close : ByteArray := prog_9_method_13_code
def yX7_close : MethodName := ⟨RX7, "close", "()V"⟩
abbrev cX7_holdsAll : ByteArray := prog_9_method_14_code
def yX7_holdsAll : MethodName := ⟨RX7, "holdsAll", "(LClockReach$Zone;)Z"⟩
abbrev cX7_equalTo : ByteArray := prog_9_method_15_code
def yX7_equalTo : MethodName := ⟨RX7, "equalTo", "(LClockReach$Zone;)Z"⟩
abbrev cX7_holdsTimes : ByteArray := prog_9_method_16_code
def yX7_holdsTimes : MethodName := ⟨RX7, "holdsTimes", "([I)Z"⟩
abbrev cX7_wholeValues : ByteArray := prog_9_method_17_code
def yX7_wholeValues : MethodName := ⟨RX7, "wholeValues", "([I)I"⟩
abbrev cX7_wholeFrom : ByteArray := prog_9_method_18_code
def yX7_wholeFrom : MethodName := ⟨RX7, "wholeFrom", "(LClockReach$Zone;I[I)I"⟩
def RX8 : String := "ClockReach"
def TX8 : u_T := fun k => match k with
  | 0 => ("ClockReach", "tape", "[I", true)
  | 1 => ("ClockReach", "taped", "I", false)
  | 2 => ("ClockReach", "reader", "LClockReach$Reader;", true)
  | 3 => ("ClockReach", "model", "LClockReach$Automaton;", false)
  | 4 => ("ClockReach", "draft", "LClockReach$Automaton;", false)
  | 5 => ("ClockReach", "history", "LClockReach$History;", true)
  | 6 => ("ClockReach", "shown", "LClockReach$Graph;", true)
  | 7 => ("ClockReach", "hasShown", "Z", false)
  | 8 => ("ClockReach", "tried", "LClockReach$Graph;", true)
  | 9 => ("ClockReach", "soon", "LClockReach$Graph;", true)
  | 10 => ("ClockReach", "soonStands", "Z", false)
  | 11 => ("ClockReach", "remainder", "LClockReach$Remainder;", true)
  | 12 => ("ClockReach", "timing", "LClockReach$Timing;", true)
  | 13 => ("ClockReach", "play", "LClockReach$Play;", true)
  | 14 => ("ClockReach", "beginUnits", "[I", true)
  | _ => ("ClockReach", "sample", "[I", true)
def tyX8 : Nat → FieldType := fun k => match k with
  | 0 => .array .int
  | 1 => .int
  | 2 => .object "ClockReach$Reader"
  | 3 => .object "ClockReach$Automaton"
  | 4 => .object "ClockReach$Automaton"
  | 5 => .object "ClockReach$History"
  | 6 => .object "ClockReach$Graph"
  | 7 => .boolean
  | 8 => .object "ClockReach$Graph"
  | 9 => .object "ClockReach$Graph"
  | 10 => .boolean
  | 11 => .object "ClockReach$Remainder"
  | 12 => .object "ClockReach$Timing"
  | 13 => .object "ClockReach$Play"
  | 14 => .array .int
  | _ => .array .int
abbrev wsX80 : List Cond := u_ws RX8 TX8 16
theorem nmX8 : ∀ a, a < 16 → ∀ b, b < 16 → a ≠ b → (TX8 a).2.1 ≠ (TX8 b).2.1 := by decide +kernel
theorem tyX8_ok : ∀ k, k < 16 → parseFieldDescriptor (TX8 k).2.2.1 = some (tyX8 k) := by decide +kernel
abbrev cX8_init : ByteArray := prog_1_method_1_code
def yX8_init : MethodName := ⟨RX8, "<init>", "()V"⟩
abbrev cX8_feed : ByteArray := prog_1_method_2_code
def yX8_feed : MethodName := ⟨RX8, "feed", "(IIIII)I"⟩
abbrev cX8_putBytes : ByteArray := prog_1_method_3_code
def yX8_putBytes : MethodName := ⟨RX8, "putBytes", "(I)V"⟩
abbrev cX8_end : ByteArray := prog_1_method_4_code
def yX8_end : MethodName := ⟨RX8, "end", "(I)I"⟩
abbrev cX8_automaton : ByteArray := prog_1_method_5_code
def yX8_automaton : MethodName := ⟨RX8, "automaton", "()I"⟩
abbrev cX8_dropViews : ByteArray := prog_1_method_6_code
def yX8_dropViews : MethodName := ⟨RX8, "dropViews", "()V"⟩
abbrev cX8_fault : ByteArray := prog_1_method_7_code
def yX8_fault : MethodName := ⟨RX8, "fault", "(I)I"⟩
abbrev cX8_about : ByteArray := prog_1_method_8_code
def yX8_about : MethodName := ⟨RX8, "about", "(I)I"⟩
abbrev cX8_bit : ByteArray := prog_1_method_9_code
def yX8_bit : MethodName := ⟨RX8, "bit", "(Z)I"⟩
abbrev cX8_place : ByteArray := prog_1_method_10_code
def yX8_place : MethodName := ⟨RX8, "place", "(II)I"⟩
abbrev cX8_isPlace : ByteArray := prog_1_method_11_code
def yX8_isPlace : MethodName := ⟨RX8, "isPlace", "(I)Z"⟩
abbrev cX8_isEdge : ByteArray := prog_1_method_12_code
def yX8_isEdge : MethodName := ⟨RX8, "isEdge", "(I)Z"⟩
abbrev cX8_isClock : ByteArray := prog_1_method_13_code
def yX8_isClock : MethodName := ⟨RX8, "isClock", "(I)Z"⟩
abbrev cX8_edge : ByteArray := prog_1_method_14_code
def yX8_edge : MethodName := ⟨RX8, "edge", "(II)I"⟩
abbrev cX8_condition : ByteArray := prog_1_method_15_code
def yX8_condition : MethodName := ⟨RX8, "condition", "(III)I"⟩
abbrev cX8_slotOf : ByteArray := prog_1_method_16_code
def yX8_slotOf : MethodName := ⟨RX8, "slotOf", "(II)I"⟩
abbrev cX8_limit : ByteArray := prog_1_method_17_code
def yX8_limit : MethodName := ⟨RX8, "limit", "(II)I"⟩
abbrev cX8_number : ByteArray := prog_1_method_18_code
def yX8_number : MethodName := ⟨RX8, "number", "(III)I"⟩
abbrev cX8_urgent : ByteArray := prog_1_method_19_code
def yX8_urgent : MethodName := ⟨RX8, "urgent", "(IZ)Z"⟩
abbrev cX8_undo : ByteArray := prog_1_method_20_code
def yX8_undo : MethodName := ⟨RX8, "undo", "()Z"⟩
abbrev cX8_graph : ByteArray := prog_1_method_21_code
def yX8_graph : MethodName := ⟨RX8, "graph", "(IZ)I"⟩
abbrev cX8_beginAtZero : ByteArray := prog_1_method_22_code
def yX8_beginAtZero : MethodName := ⟨RX8, "beginAtZero", "(LClockReach$Graph;)V"⟩
abbrev cX8_isState : ByteArray := prog_1_method_23_code
def yX8_isState : MethodName := ⟨RX8, "isState", "(I)Z"⟩
abbrev cX8_state : ByteArray := prog_1_method_24_code
def yX8_state : MethodName := ⟨RX8, "state", "(II)I"⟩
abbrev cX8_isStuck : ByteArray := prog_1_method_25_code
def yX8_isStuck : MethodName := ⟨RX8, "isStuck", "(I)Z"⟩
abbrev cX8_bound : ByteArray := prog_1_method_26_code
def yX8_bound : MethodName := ⟨RX8, "bound", "(IIII)I"⟩
abbrev cX8_within : ByteArray := prog_1_method_27_code
def yX8_within : MethodName := ⟨RX8, "within", "(II)I"⟩
abbrev cX8_has : ByteArray := prog_1_method_28_code
def yX8_has : MethodName := ⟨RX8, "has", "(IIII)I"⟩
abbrev cX8_first : ByteArray := prog_1_method_29_code
def yX8_first : MethodName := ⟨RX8, "first", "(I)I"⟩
abbrev cX8_reached : ByteArray := prog_1_method_30_code
def yX8_reached : MethodName := ⟨RX8, "reached", "()I"⟩
abbrev cX8_taken : ByteArray := prog_1_method_31_code
def yX8_taken : MethodName := ⟨RX8, "taken", "()I"⟩
abbrev cX8_overlap : ByteArray := prog_1_method_32_code
def yX8_overlap : MethodName := ⟨RX8, "overlap", "(II)I"⟩
abbrev cX8_covered : ByteArray := prog_1_method_33_code
def yX8_covered : MethodName := ⟨RX8, "covered", "(I)I"⟩
abbrev cX8_points : ByteArray := prog_1_method_34_code
def yX8_points : MethodName := ⟨RX8, "points", "(I)I"⟩
abbrev cX8_rings : ByteArray := prog_1_method_35_code
def yX8_rings : MethodName := ⟨RX8, "rings", "()I"⟩
abbrev cX8_from : ByteArray := prog_1_method_36_code
def yX8_from : MethodName := ⟨RX8, "from", "(IIIII)I"⟩
abbrev cX8_avoids : ByteArray := prog_1_method_37_code
def yX8_avoids : MethodName := ⟨RX8, "avoids", "(II)I"⟩
abbrev cX8_canReach : ByteArray := prog_1_method_38_code
def yX8_canReach : MethodName := ⟨RX8, "canReach", "(II)Z"⟩
abbrev cX8_isStep : ByteArray := prog_1_method_39_code
def yX8_isStep : MethodName := ⟨RX8, "isStep", "(II)Z"⟩
abbrev cX8_run : ByteArray := prog_1_method_40_code
def yX8_run : MethodName := ⟨RX8, "run", "(II)I"⟩
abbrev cX8_timesRun : ByteArray := prog_1_method_41_code
def yX8_timesRun : MethodName := ⟨RX8, "timesRun", "(I)Z"⟩
abbrev cX8_when : ByteArray := prog_1_method_42_code
def yX8_when : MethodName := ⟨RX8, "when", "(II)I"⟩
abbrev cX8_then : ByteArray := prog_1_method_43_code
def yX8_then : MethodName := ⟨RX8, "then", "(III)I"⟩
abbrev cX8_spans : ByteArray := prog_1_method_44_code
def yX8_spans : MethodName := ⟨RX8, "spans", "(II)I"⟩
abbrev cX8_tells : ByteArray := prog_1_method_45_code
def yX8_tells : MethodName := ⟨RX8, "tells", "(IIIIII)I"⟩
abbrev cX8_latest : ByteArray := prog_1_method_46_code
def yX8_latest : MethodName := ⟨RX8, "latest", "(III)I"⟩
abbrev cX8_soonest : ByteArray := prog_1_method_47_code
def yX8_soonest : MethodName := ⟨RX8, "soonest", "(II)I"⟩
abbrev cX8_lets : ByteArray := prog_1_method_48_code
def yX8_lets : MethodName := ⟨RX8, "lets", "(IIII)I"⟩
abbrev cX8_begin : ByteArray := prog_1_method_49_code
def yX8_begin : MethodName := ⟨RX8, "begin", "()I"⟩
abbrev cX8_waits : ByteArray := prog_1_method_50_code
def yX8_waits : MethodName := ⟨RX8, "waits", "(I)Z"⟩
abbrev cX8_takes : ByteArray := prog_1_method_51_code
def yX8_takes : MethodName := ⟨RX8, "takes", "(I)I"⟩
abbrev cX8_now : ByteArray := prog_1_method_52_code
def yX8_now : MethodName := ⟨RX8, "now", "(I)I"⟩
abbrev cX8_clock : ByteArray := prog_1_method_53_code
def yX8_clock : MethodName := ⟨RX8, "clock", "(I)I"⟩
abbrev cX8_replays : ByteArray := prog_1_method_54_code
def yX8_replays : MethodName := ⟨RX8, "replays", "(I)Z"⟩
def RX9 : String := "ClockReachModel"
def TX9 : u_T := fun k => match k with
  | 0 => ("ClockReachModel", "thrown", "I", false)
  | 1 => ("ClockReachModel", "clockName", "[I", true)
  | 2 => ("ClockReachModel", "placeName", "[I", true)
  | 3 => ("ClockReachModel", "urgent", "[I", true)
  | 4 => ("ClockReachModel", "untils", "[I", true)
  | 5 => ("ClockReachModel", "edgeFrom", "[I", true)
  | 6 => ("ClockReachModel", "edgeTo", "[I", true)
  | 7 => ("ClockReachModel", "whens", "[I", true)
  | 8 => ("ClockReachModel", "sets", "[I", true)
  | 9 => ("ClockReachModel", "ofClock", "[I", true)
  | 10 => ("ClockReachModel", "how", "[I", true)
  | 11 => ("ClockReachModel", "limit", "[I", true)
  | 12 => ("ClockReachModel", "clockMany", "[I", true)
  | 13 => ("ClockReachModel", "placeMany", "[I", true)
  | 14 => ("ClockReachModel", "edgeMany", "[I", true)
  | 15 => ("ClockReachModel", "begins", "[I", true)
  | 16 => ("ClockReachModel", "bank", "I", false)
  | 17 => ("ClockReachModel", "tape", "[I", true)
  | 18 => ("ClockReachModel", "taped", "I", false)
  | 19 => ("ClockReachModel", "size", "I", false)
  | 20 => ("ClockReachModel", "at", "I", false)
  | 21 => ("ClockReachModel", "behind", "I", false)
  | 22 => ("ClockReachModel", "token", "I", false)
  | 23 => ("ClockReachModel", "value", "I", false)
  | 24 => ("ClockReachModel", "faultKind", "I", false)
  | 25 => ("ClockReachModel", "faultPlace", "I", false)
  | 26 => ("ClockReachModel", "wrong", "I", false)
  | 27 => ("ClockReachModel", "wrongAt", "I", false)
  | 28 => ("ClockReachModel", "rb", "I", false)
  | 29 => ("ClockReachModel", "hasGraph", "Z", false)
  | 30 => ("ClockReachModel", "isPlayed", "Z", false)
  | 31 => ("ClockReachModel", "actOf", "[I", true)
  | 32 => ("ClockReachModel", "actWas", "[I", true)
  | 33 => ("ClockReachModel", "acts", "I", false)
  | 34 => ("ClockReachModel", "zone", "[I", true)
  | 35 => ("ClockReachModel", "z", "[I", true)
  | 36 => ("ClockReachModel", "y", "[I", true)
  | 37 => ("ClockReachModel", "cover", "[I", true)
  | 38 => ("ClockReachModel", "statePlace", "[I", true)
  | 39 => ("ClockReachModel", "stateFrom", "[I", true)
  | 40 => ("ClockReachModel", "stateBy", "[I", true)
  | 41 => ("ClockReachModel", "stateDeep", "[I", true)
  | 42 => ("ClockReachModel", "stateMany", "[I", true)
  | 43 => ("ClockReachModel", "takenBy", "[I", true)
  | 44 => ("ClockReachModel", "isFull", "[Z", true)
  | 45 => ("ClockReachModel", "graphWay", "I", false)
  | 46 => ("ClockReachModel", "side", "I", false)
  | 47 => ("ClockReachModel", "high", "[I", true)
  | 48 => ("ClockReachModel", "low", "[I", true)
  | 49 => ("ClockReachModel", "piece", "[I", true)
  | 50 => ("ClockReachModel", "pieceFrom", "[I", true)
  | 51 => ("ClockReachModel", "covers", "[I", true)
  | 52 => ("ClockReachModel", "pieces", "I", false)
  | 53 => ("ClockReachModel", "coverMany", "I", false)
  | 54 => ("ClockReachModel", "path", "[I", true)
  | 55 => ("ClockReachModel", "later", "[I", true)
  | 56 => ("ClockReachModel", "sooner", "[I", true)
  | 57 => ("ClockReachModel", "gap", "[I", true)
  | 58 => ("ClockReachModel", "setAt", "[I", true)
  | 59 => ("ClockReachModel", "time", "[I", true)
  | 60 => ("ClockReachModel", "span", "[I", true)
  | 61 => ("ClockReachModel", "pathMany", "I", false)
  | 62 => ("ClockReachModel", "gaps", "I", false)
  | 63 => ("ClockReachModel", "isBroken", "Z", false)
  | 64 => ("ClockReachModel", "clockTime", "[I", true)
  | 65 => ("ClockReachModel", "playPlace", "I", false)
  | _ => ("ClockReachModel", "played", "I", false)
def tyX9 : Nat → FieldType := fun k => match k with
  | 0 => .int
  | 1 => .array .int
  | 2 => .array .int
  | 3 => .array .int
  | 4 => .array .int
  | 5 => .array .int
  | 6 => .array .int
  | 7 => .array .int
  | 8 => .array .int
  | 9 => .array .int
  | 10 => .array .int
  | 11 => .array .int
  | 12 => .array .int
  | 13 => .array .int
  | 14 => .array .int
  | 15 => .array .int
  | 16 => .int
  | 17 => .array .int
  | 18 => .int
  | 19 => .int
  | 20 => .int
  | 21 => .int
  | 22 => .int
  | 23 => .int
  | 24 => .int
  | 25 => .int
  | 26 => .int
  | 27 => .int
  | 28 => .int
  | 29 => .boolean
  | 30 => .boolean
  | 31 => .array .int
  | 32 => .array .int
  | 33 => .int
  | 34 => .array .int
  | 35 => .array .int
  | 36 => .array .int
  | 37 => .array .int
  | 38 => .array .int
  | 39 => .array .int
  | 40 => .array .int
  | 41 => .array .int
  | 42 => .array .int
  | 43 => .array .int
  | 44 => .array .boolean
  | 45 => .int
  | 46 => .int
  | 47 => .array .int
  | 48 => .array .int
  | 49 => .array .int
  | 50 => .array .int
  | 51 => .array .int
  | 52 => .int
  | 53 => .int
  | 54 => .array .int
  | 55 => .array .int
  | 56 => .array .int
  | 57 => .array .int
  | 58 => .array .int
  | 59 => .array .int
  | 60 => .array .int
  | 61 => .int
  | 62 => .int
  | 63 => .boolean
  | 64 => .array .int
  | 65 => .int
  | _ => .int
abbrev wsX90 : List Cond := u_ws RX9 TX9 67
theorem nmX9 : ∀ a, a < 67 → ∀ b, b < 67 → a ≠ b → (TX9 a).2.1 ≠ (TX9 b).2.1 := by decide +kernel
theorem tyX9_ok : ∀ k, k < 67 → parseFieldDescriptor (TX9 k).2.2.1 = some (tyX9 k) := by decide +kernel
abbrev cX9_init : ByteArray := prog_11_method_1_code
def yX9_init : MethodName := ⟨RX9, "<init>", "()V"⟩
abbrev cX9_thrown : ByteArray := prog_11_method_2_code
def yX9_thrown : MethodName := ⟨RX9, "thrown", "()I"⟩
abbrev cX9_in : ByteArray := prog_11_method_3_code
def yX9_in : MethodName := ⟨RX9, "in", "(III)Z"⟩
abbrev cX9_isOf : ByteArray := prog_11_method_4_code
def yX9_isOf : MethodName := ⟨RX9, "isOf", "(II)Z"⟩
abbrev cX9_lesser : ByteArray := prog_11_method_5_code
def yX9_lesser : MethodName := ⟨RX9, "lesser", "(II)I"⟩
abbrev cX9_greater : ByteArray := prog_11_method_6_code
def yX9_greater : MethodName := ⟨RX9, "greater", "(II)I"⟩
abbrev cX9_four : ByteArray := prog_11_method_7_code
def yX9_four : MethodName := ⟨RX9, "four", "(I)V"⟩
abbrev cX9_feed : ByteArray := prog_11_method_8_code
def yX9_feed : MethodName := ⟨RX9, "feed", "(IIIII)I"⟩
abbrev cX9_end : ByteArray := prog_11_method_9_code
def yX9_end : MethodName := ⟨RX9, "end", "(I)I"⟩
abbrev cX9_byteAt : ByteArray := prog_11_method_10_code
def yX9_byteAt : MethodName := ⟨RX9, "byteAt", "(I)I"⟩
abbrev cX9_isSmall : ByteArray := prog_11_method_11_code
def yX9_isSmall : MethodName := ⟨RX9, "isSmall", "(I)Z"⟩
abbrev cX9_isDigit : ByteArray := prog_11_method_12_code
def yX9_isDigit : MethodName := ⟨RX9, "isDigit", "(I)Z"⟩
abbrev cX9_next : ByteArray := prog_11_method_13_code
def yX9_next : MethodName := ⟨RX9, "next", "()V"⟩
abbrev cX9_isGood : ByteArray := prog_11_method_14_code
def yX9_isGood : MethodName := ⟨RX9, "isGood", "()Z"⟩
abbrev cX9_fails : ByteArray := prog_11_method_15_code
def yX9_fails : MethodName := ⟨RX9, "fails", "(I)V"⟩
abbrev cX9_isWord : ByteArray := prog_11_method_16_code
def yX9_isWord : MethodName := ⟨RX9, "isWord", "(I)Z"⟩
abbrev cX9_isSign : ByteArray := prog_11_method_17_code
def yX9_isSign : MethodName := ⟨RX9, "isSign", "(I)Z"⟩
abbrev cX9_isKept : ByteArray := prog_11_method_18_code
def yX9_isKept : MethodName := ⟨RX9, "isKept", "()Z"⟩
abbrev cX9_clockCalled : ByteArray := prog_11_method_19_code
def yX9_clockCalled : MethodName := ⟨RX9, "clockCalled", "()I"⟩
abbrev cX9_placeCalled : ByteArray := prog_11_method_20_code
def yX9_placeCalled : MethodName := ⟨RX9, "placeCalled", "()I"⟩
abbrev cX9_mustBeName : ByteArray := prog_11_method_21_code
def yX9_mustBeName : MethodName := ⟨RX9, "mustBeName", "()V"⟩
abbrev cX9_freshName : ByteArray := prog_11_method_22_code
def yX9_freshName : MethodName := ⟨RX9, "freshName", "()I"⟩
abbrev cX9_toldClock : ByteArray := prog_11_method_23_code
def yX9_toldClock : MethodName := ⟨RX9, "toldClock", "()I"⟩
abbrev cX9_toldPlace : ByteArray := prog_11_method_24_code
def yX9_toldPlace : MethodName := ⟨RX9, "toldPlace", "()I"⟩
abbrev cX9_readCondition : ByteArray := prog_11_method_25_code
def yX9_readCondition : MethodName := ⟨RX9, "readCondition", "(IZ)V"⟩
abbrev cX9_readPlace : ByteArray := prog_11_method_26_code
def yX9_readPlace : MethodName := ⟨RX9, "readPlace", "()V"⟩
abbrev cX9_readEdge : ByteArray := prog_11_method_27_code
def yX9_readEdge : MethodName := ⟨RX9, "readEdge", "()V"⟩
abbrev cX9_readLine : ByteArray := prog_11_method_28_code
def yX9_readLine : MethodName := ⟨RX9, "readLine", "()V"⟩
abbrev cX9_automaton : ByteArray := prog_11_method_29_code
def yX9_automaton : MethodName := ⟨RX9, "automaton", "()I"⟩
abbrev cX9_fault : ByteArray := prog_11_method_30_code
def yX9_fault : MethodName := ⟨RX9, "fault", "(I)I"⟩
abbrev cX9_another : ByteArray := prog_11_method_31_code
def yX9_another : MethodName := ⟨RX9, "another", "()V"⟩
abbrev cX9_clocks : ByteArray := prog_11_method_32_code
def yX9_clocks : MethodName := ⟨RX9, "clocks", "()I"⟩
abbrev cX9_isClock : ByteArray := prog_11_method_33_code
def yX9_isClock : MethodName := ⟨RX9, "isClock", "(I)Z"⟩
abbrev cX9_isPlace : ByteArray := prog_11_method_34_code
def yX9_isPlace : MethodName := ⟨RX9, "isPlace", "(I)Z"⟩
abbrev cX9_isEdge : ByteArray := prog_11_method_35_code
def yX9_isEdge : MethodName := ⟨RX9, "isEdge", "(I)Z"⟩
abbrev cX9_outOf : ByteArray := prog_11_method_36_code
def yX9_outOf : MethodName := ⟨RX9, "outOf", "(I)I"⟩
abbrev cX9_into : ByteArray := prog_11_method_37_code
def yX9_into : MethodName := ⟨RX9, "into", "(I)I"⟩
abbrev cX9_setBy : ByteArray := prog_11_method_38_code
def yX9_setBy : MethodName := ⟨RX9, "setBy", "(I)I"⟩
abbrev cX9_isUrgent : ByteArray := prog_11_method_39_code
def yX9_isUrgent : MethodName := ⟨RX9, "isUrgent", "(I)Z"⟩
abbrev cX9_manyOf : ByteArray := prog_11_method_40_code
def yX9_manyOf : MethodName := ⟨RX9, "manyOf", "(I)I"⟩
abbrev cX9_spot : ByteArray := prog_11_method_41_code
def yX9_spot : MethodName := ⟨RX9, "spot", "(II)I"⟩
abbrev cX9_edgesOf : ByteArray := prog_11_method_42_code
def yX9_edgesOf : MethodName := ⟨RX9, "edgesOf", "(IZ)I"⟩
abbrev cX9_about : ByteArray := prog_11_method_43_code
def yX9_about : MethodName := ⟨RX9, "about", "(I)I"⟩
abbrev cX9_place : ByteArray := prog_11_method_44_code
def yX9_place : MethodName := ⟨RX9, "place", "(II)I"⟩
abbrev cX9_edge : ByteArray := prog_11_method_45_code
def yX9_edge : MethodName := ⟨RX9, "edge", "(II)I"⟩
abbrev cX9_isCondition : ByteArray := prog_11_method_46_code
def yX9_isCondition : MethodName := ⟨RX9, "isCondition", "(II)Z"⟩
abbrev cX9_condition : ByteArray := prog_11_method_47_code
def yX9_condition : MethodName := ⟨RX9, "condition", "(III)I"⟩
abbrev cX9_most : ByteArray := prog_11_method_48_code
def yX9_most : MethodName := ⟨RX9, "most", "(II)I"⟩
abbrev cX9_limit : ByteArray := prog_11_method_49_code
def yX9_limit : MethodName := ⟨RX9, "limit", "(II)I"⟩
abbrev cX9_keepAct : ByteArray := prog_11_method_50_code
def yX9_keepAct : MethodName := ⟨RX9, "keepAct", "(II)V"⟩
abbrev cX9_number : ByteArray := prog_11_method_51_code
def yX9_number : MethodName := ⟨RX9, "number", "(III)I"⟩
abbrev cX9_urgent : ByteArray := prog_11_method_52_code
def yX9_urgent : MethodName := ⟨RX9, "urgent", "(IZ)Z"⟩
abbrev cX9_undo : ByteArray := prog_11_method_53_code
def yX9_undo : MethodName := ⟨RX9, "undo", "()Z"⟩
abbrev cX9_together : ByteArray := prog_11_method_54_code
def yX9_together : MethodName := ⟨RX9, "together", "(II)I"⟩
abbrev cX9_closes : ByteArray := prog_11_method_55_code
def yX9_closes : MethodName := ⟨RX9, "closes", "([I)Z"⟩
abbrev cX9_tightens : ByteArray := prog_11_method_56_code
def yX9_tightens : MethodName := ⟨RX9, "tightens", "([IIII)V"⟩
abbrev cX9_holds : ByteArray := prog_11_method_57_code
def yX9_holds : MethodName := ⟨RX9, "holds", "([II)V"⟩
abbrev cX9_holdsAll : ByteArray := prog_11_method_58_code
def yX9_holdsAll : MethodName := ⟨RX9, "holdsAll", "([II)V"⟩
abbrev cX9_copies : ByteArray := prog_11_method_59_code
def yX9_copies : MethodName := ⟨RX9, "copies", "([II[II)V"⟩
abbrev cX9_goesBack : ByteArray := prog_11_method_60_code
def yX9_goesBack : MethodName := ⟨RX9, "goesBack", "([II)V"⟩
abbrev cX9_delays : ByteArray := prog_11_method_61_code
def yX9_delays : MethodName := ⟨RX9, "delays", "([II)V"⟩
abbrev cX9_layForgotten : ByteArray := prog_11_method_62_code
def yX9_layForgotten : MethodName := ⟨RX9, "layForgotten", "(I)V"⟩
abbrev cX9_forgets : ByteArray := prog_11_method_63_code
def yX9_forgets : MethodName := ⟨RX9, "forgets", "([II)V"⟩
abbrev cX9_spotOf : ByteArray := prog_11_method_64_code
def yX9_spotOf : MethodName := ⟨RX9, "spotOf", "(II)I"⟩
abbrev cX9_hasAll : ByteArray := prog_11_method_65_code
def yX9_hasAll : MethodName := ⟨RX9, "hasAll", "(I[IZ)Z"⟩
abbrev cX9_comes : ByteArray := prog_11_method_66_code
def yX9_comes : MethodName := ⟨RX9, "comes", "(IIIIIZI)V"⟩
abbrev cX9_goesBy : ByteArray := prog_11_method_67_code
def yX9_goesBy : MethodName := ⟨RX9, "goesBy", "(I)Z"⟩
abbrev cX9_explores : ByteArray := prog_11_method_68_code
def yX9_explores : MethodName := ⟨RX9, "explores", "(IIIZII)V"⟩
abbrev cX9_layPoint : ByteArray := prog_11_method_69_code
def yX9_layPoint : MethodName := ⟨RX9, "layPoint", "(III)V"⟩
abbrev cX9_hasPlace : ByteArray := prog_11_method_70_code
def yX9_hasPlace : MethodName := ⟨RX9, "hasPlace", "(II)Z"⟩
abbrev cX9_graph : ByteArray := prog_11_method_71_code
def yX9_graph : MethodName := ⟨RX9, "graph", "(IZ)I"⟩
abbrev cX9_isState : ByteArray := prog_11_method_72_code
def yX9_isState : MethodName := ⟨RX9, "isState", "(I)Z"⟩
abbrev cX9_state : ByteArray := prog_11_method_73_code
def yX9_state : MethodName := ⟨RX9, "state", "(II)I"⟩
abbrev cX9_boundOf : ByteArray := prog_11_method_74_code
def yX9_boundOf : MethodName := ⟨RX9, "boundOf", "(III)I"⟩
abbrev cX9_bound : ByteArray := prog_11_method_75_code
def yX9_bound : MethodName := ⟨RX9, "bound", "(IIII)I"⟩
abbrev cX9_within : ByteArray := prog_11_method_76_code
def yX9_within : MethodName := ⟨RX9, "within", "(II)I"⟩
abbrev cX9_hasTimes : ByteArray := prog_11_method_77_code
def yX9_hasTimes : MethodName := ⟨RX9, "hasTimes", "(IIII)Z"⟩
abbrev cX9_has : ByteArray := prog_11_method_78_code
def yX9_has : MethodName := ⟨RX9, "has", "(IIII)I"⟩
abbrev cX9_first : ByteArray := prog_11_method_79_code
def yX9_first : MethodName := ⟨RX9, "first", "(I)I"⟩
abbrev cX9_reached : ByteArray := prog_11_method_80_code
def yX9_reached : MethodName := ⟨RX9, "reached", "()I"⟩
abbrev cX9_taken : ByteArray := prog_11_method_81_code
def yX9_taken : MethodName := ⟨RX9, "taken", "()I"⟩
abbrev cX9_overlap : ByteArray := prog_11_method_82_code
def yX9_overlap : MethodName := ⟨RX9, "overlap", "(II)I"⟩
abbrev cX9_points : ByteArray := prog_11_method_83_code
def yX9_points : MethodName := ⟨RX9, "points", "(I)I"⟩
abbrev cX9_keepsPiece : ByteArray := prog_11_method_84_code
def yX9_keepsPiece : MethodName := ⟨RX9, "keepsPiece", "(I)V"⟩
abbrev cX9_parts : ByteArray := prog_11_method_85_code
def yX9_parts : MethodName := ⟨RX9, "parts", "(I)Z"⟩
abbrev cX9_isOver : ByteArray := prog_11_method_86_code
def yX9_isOver : MethodName := ⟨RX9, "isOver", "()Z"⟩
abbrev cX9_covered : ByteArray := prog_11_method_87_code
def yX9_covered : MethodName := ⟨RX9, "covered", "(I)I"⟩
abbrev cX9_layAhead : ByteArray := prog_11_method_88_code
def yX9_layAhead : MethodName := ⟨RX9, "layAhead", "(I)Z"⟩
abbrev cX9_isStuck : ByteArray := prog_11_method_89_code
def yX9_isStuck : MethodName := ⟨RX9, "isStuck", "(I)Z"⟩
abbrev cX9_rings : ByteArray := prog_11_method_90_code
def yX9_rings : MethodName := ⟨RX9, "rings", "()I"⟩
abbrev cX9_goesTo : ByteArray := prog_11_method_91_code
def yX9_goesTo : MethodName := ⟨RX9, "goesTo", "(I)I"⟩
abbrev cX9_from : ByteArray := prog_11_method_92_code
def yX9_from : MethodName := ⟨RX9, "from", "(IIIII)I"⟩
abbrev cX9_avoids : ByteArray := prog_11_method_93_code
def yX9_avoids : MethodName := ⟨RX9, "avoids", "(II)I"⟩
abbrev cX9_soonest : ByteArray := prog_11_method_94_code
def yX9_soonest : MethodName := ⟨RX9, "soonest", "(II)I"⟩
abbrev cX9_lets : ByteArray := prog_11_method_95_code
def yX9_lets : MethodName := ⟨RX9, "lets", "(IIII)I"⟩
abbrev cX9_layPath : ByteArray := prog_11_method_96_code
def yX9_layPath : MethodName := ⟨RX9, "layPath", "(I)V"⟩
abbrev cX9_holdsApart : ByteArray := prog_11_method_97_code
def yX9_holdsApart : MethodName := ⟨RX9, "holdsApart", "(III)V"⟩
abbrev cX9_layConditions : ByteArray := prog_11_method_98_code
def yX9_layConditions : MethodName := ⟨RX9, "layConditions", "(II)V"⟩
abbrev cX9_layGaps : ByteArray := prog_11_method_99_code
def yX9_layGaps : MethodName := ⟨RX9, "layGaps", "()V"⟩
abbrev cX9_timesOf : ByteArray := prog_11_method_100_code
def yX9_timesOf : MethodName := ⟨RX9, "timesOf", "(I)I"⟩
abbrev cX9_laysLeast : ByteArray := prog_11_method_101_code
def yX9_laysLeast : MethodName := ⟨RX9, "laysLeast", "()Z"⟩
abbrev cX9_laysGreatest : ByteArray := prog_11_method_102_code
def yX9_laysGreatest : MethodName := ⟨RX9, "laysGreatest", "(I)Z"⟩
abbrev cX9_isStep : ByteArray := prog_11_method_103_code
def yX9_isStep : MethodName := ⟨RX9, "isStep", "(II)Z"⟩
abbrev cX9_run : ByteArray := prog_11_method_104_code
def yX9_run : MethodName := ⟨RX9, "run", "(II)I"⟩
abbrev cX9_when : ByteArray := prog_11_method_105_code
def yX9_when : MethodName := ⟨RX9, "when", "(II)I"⟩
abbrev cX9_then : ByteArray := prog_11_method_106_code
def yX9_then : MethodName := ⟨RX9, "then", "(III)I"⟩
abbrev cX9_latest : ByteArray := prog_11_method_107_code
def yX9_latest : MethodName := ⟨RX9, "latest", "(III)I"⟩
abbrev cX9_spanned : ByteArray := prog_11_method_108_code
def yX9_spanned : MethodName := ⟨RX9, "spanned", "(I)I"⟩
abbrev cX9_spans : ByteArray := prog_11_method_109_code
def yX9_spans : MethodName := ⟨RX9, "spans", "(II)I"⟩
abbrev cX9_tells : ByteArray := prog_11_method_110_code
def yX9_tells : MethodName := ⟨RX9, "tells", "(IIIIII)I"⟩
abbrev cX9_isHeld : ByteArray := prog_11_method_111_code
def yX9_isHeld : MethodName := ⟨RX9, "isHeld", "(II)Z"⟩
abbrev cX9_beginsPlay : ByteArray := prog_11_method_112_code
def yX9_beginsPlay : MethodName := ⟨RX9, "beginsPlay", "()Z"⟩
abbrev cX9_begin : ByteArray := prog_11_method_113_code
def yX9_begin : MethodName := ⟨RX9, "begin", "()I"⟩
abbrev cX9_mayWait : ByteArray := prog_11_method_114_code
def yX9_mayWait : MethodName := ⟨RX9, "mayWait", "()I"⟩
abbrev cX9_passes : ByteArray := prog_11_method_115_code
def yX9_passes : MethodName := ⟨RX9, "passes", "(I)V"⟩
abbrev cX9_waits : ByteArray := prog_11_method_116_code
def yX9_waits : MethodName := ⟨RX9, "waits", "(I)Z"⟩
abbrev cX9_canTake : ByteArray := prog_11_method_117_code
def yX9_canTake : MethodName := ⟨RX9, "canTake", "(I)Z"⟩
abbrev cX9_take : ByteArray := prog_11_method_118_code
def yX9_take : MethodName := ⟨RX9, "take", "(I)V"⟩
abbrev cX9_takes : ByteArray := prog_11_method_119_code
def yX9_takes : MethodName := ⟨RX9, "takes", "(I)I"⟩
abbrev cX9_now : ByteArray := prog_11_method_120_code
def yX9_now : MethodName := ⟨RX9, "now", "(I)I"⟩
abbrev cX9_clock : ByteArray := prog_11_method_121_code
def yX9_clock : MethodName := ⟨RX9, "clock", "(I)I"⟩
abbrev cX9_replays : ByteArray := prog_11_method_122_code
def yX9_replays : MethodName := ⟨RX9, "replays", "(I)Z"⟩
def RJx145de : String := "java/io/Serializable"
def TJx145de : u_T := fun k => match k with
  | _ => ("", "", "", false)
def tyJx145de : Nat → FieldType := fun k => match k with
  | _ => .int
abbrev wsJx145de0 : List Cond := u_ws RJx145de TJx145de 0
theorem nmJx145de : ∀ a, a < 0 → ∀ b, b < 0 → a ≠ b → (TJx145de a).2.1 ≠ (TJx145de b).2.1 := by decide +kernel
theorem tyJx145de_ok : ∀ k, k < 0 → parseFieldDescriptor (TJx145de k).2.2.1 = some (tyJx145de k) := by decide +kernel
def RJx9f9b0 : String := "java/lang/CharSequence"
def TJx9f9b0 : u_T := fun k => match k with
  | _ => ("", "", "", false)
def tyJx9f9b0 : Nat → FieldType := fun k => match k with
  | _ => .int
abbrev wsJx9f9b00 : List Cond := u_ws RJx9f9b0 TJx9f9b0 0
theorem nmJx9f9b0 : ∀ a, a < 0 → ∀ b, b < 0 → a ≠ b → (TJx9f9b0 a).2.1 ≠ (TJx9f9b0 b).2.1 := by decide +kernel
theorem tyJx9f9b0_ok : ∀ k, k < 0 → parseFieldDescriptor (TJx9f9b0 k).2.2.1 = some (tyJx9f9b0 k) := by decide +kernel
def RJxb160c : String := "java/lang/Comparable"
def TJxb160c : u_T := fun k => match k with
  | _ => ("", "", "", false)
def tyJxb160c : Nat → FieldType := fun k => match k with
  | _ => .int
abbrev wsJxb160c0 : List Cond := u_ws RJxb160c TJxb160c 0
theorem nmJxb160c : ∀ a, a < 0 → ∀ b, b < 0 → a ≠ b → (TJxb160c a).2.1 ≠ (TJxb160c b).2.1 := by decide +kernel
theorem tyJxb160c_ok : ∀ k, k < 0 → parseFieldDescriptor (TJxb160c k).2.2.1 = some (tyJxb160c k) := by decide +kernel
def RJ9 : String := "java/lang/Math"
def TJ9 : u_T := fun k => match k with
  | _ => ("", "", "", false)
def tyJ9 : Nat → FieldType := fun k => match k with
  | _ => .int
abbrev wsJ90 : List Cond := u_ws RJ9 TJ9 0
theorem nmJ9 : ∀ a, a < 0 → ∀ b, b < 0 → a ≠ b → (TJ9 a).2.1 ≠ (TJ9 b).2.1 := by decide +kernel
theorem tyJ9_ok : ∀ k, k < 0 → parseFieldDescriptor (TJ9 k).2.2.1 = some (tyJ9 k) := by decide +kernel
abbrev cJ9_max_7cf53 : ByteArray := prog_16_method_65_code
def yJ9_max_7cf53 : MethodName := ⟨RJ9, "max", "(II)I"⟩
abbrev cJ9_min_7cf53 : ByteArray := prog_16_method_69_code
def yJ9_min_7cf53 : MethodName := ⟨RJ9, "min", "(II)I"⟩
def RJ0 : String := "java/lang/String"
def TJ0 : u_T := fun k => match k with
  | _ => ("", "", "", false)
def tyJ0 : Nat → FieldType := fun k => match k with
  | _ => .int
abbrev wsJ00 : List Cond := u_ws RJ0 TJ0 0
theorem nmJ0 : ∀ a, a < 0 → ∀ b, b < 0 → a ≠ b → (TJ0 a).2.1 ≠ (TJ0 b).2.1 := by decide +kernel
theorem tyJ0_ok : ∀ k, k < 0 → parseFieldDescriptor (TJ0 k).2.2.1 = some (tyJ0 k) := by decide +kernel
abbrev cJ0_length_8abf5 : ByteArray := prog_18_method_54_code
def yJ0_length_8abf5 : MethodName := ⟨RJ0, "length", "()I"⟩
abbrev cJ0_charAt_5068e : ByteArray := prog_18_method_56_code
def yJ0_charAt_5068e : MethodName := ⟨RJ0, "charAt", "(I)C"⟩
abbrev cJ0_coder_7d493 : ByteArray := prog_18_method_152_code
def yJ0_coder_7d493 : MethodName := ⟨RJ0, "coder", "()B"⟩
abbrev cJ0_isLatin1_aae02 : ByteArray := prog_18_method_154_code
def yJ0_isLatin1_aae02 : MethodName := ⟨RJ0, "isLatin1", "()Z"⟩
abbrev cJ0_checkIndex_df160 : ByteArray := prog_18_method_155_code
def yJ0_checkIndex_df160 : MethodName := ⟨RJ0, "checkIndex", "(II)V"⟩
def RJ1 : String := "java/lang/StringLatin1"
def TJ1 : u_T := fun k => match k with
  | _ => ("", "", "", false)
def tyJ1 : Nat → FieldType := fun k => match k with
  | _ => .int
abbrev wsJ10 : List Cond := u_ws RJ1 TJ1 0
theorem nmJ1 : ∀ a, a < 0 → ∀ b, b < 0 → a ≠ b → (TJ1 a).2.1 ≠ (TJ1 b).2.1 := by decide +kernel
theorem tyJ1_ok : ∀ k, k < 0 → parseFieldDescriptor (TJ1 k).2.2.1 = some (tyJ1 k) := by decide +kernel
abbrev cJ1_charAt_3b067 : ByteArray := prog_19_method_2_code
def yJ1_charAt_3b067 : MethodName := ⟨RJ1, "charAt", "([BI)C"⟩
def RJ2 : String := "java/lang/StringUTF16"
def TJ2 : u_T := fun k => match k with
  | _ => ("", "", "", false)
def tyJ2 : Nat → FieldType := fun k => match k with
  | _ => .int
abbrev wsJ20 : List Cond := u_ws RJ2 TJ2 0
theorem nmJ2 : ∀ a, a < 0 → ∀ b, b < 0 → a ≠ b → (TJ2 a).2.1 ≠ (TJ2 b).2.1 := by decide +kernel
theorem tyJ2_ok : ∀ k, k < 0 → parseFieldDescriptor (TJ2 k).2.2.1 = some (tyJ2 k) := by decide +kernel
abbrev cJ2_getChar_3b067 : ByteArray := prog_20_method_5_code
def yJ2_getChar_3b067 : MethodName := ⟨RJ2, "getChar", "([BI)C"⟩
abbrev cJ2_length_9d52b : ByteArray := prog_20_method_6_code
def yJ2_length_9d52b : MethodName := ⟨RJ2, "length", "([B)I"⟩
abbrev cJ2_charAt_3b067 : ByteArray := prog_20_method_83_code
def yJ2_charAt_3b067 : MethodName := ⟨RJ2, "charAt", "([BI)C"⟩
abbrev cJ2_checkIndex_2214a : ByteArray := prog_20_method_91_code
def yJ2_checkIndex_2214a : MethodName := ⟨RJ2, "checkIndex", "(I[B)V"⟩
def RJxfd54e : String := "java/lang/constant/Constable"
def TJxfd54e : u_T := fun k => match k with
  | _ => ("", "", "", false)
def tyJxfd54e : Nat → FieldType := fun k => match k with
  | _ => .int
abbrev wsJxfd54e0 : List Cond := u_ws RJxfd54e TJxfd54e 0
theorem nmJxfd54e : ∀ a, a < 0 → ∀ b, b < 0 → a ≠ b → (TJxfd54e a).2.1 ≠ (TJxfd54e b).2.1 := by decide +kernel
theorem tyJxfd54e_ok : ∀ k, k < 0 → parseFieldDescriptor (TJxfd54e k).2.2.1 = some (tyJxfd54e k) := by decide +kernel
def RJx3cf43 : String := "java/lang/constant/ConstantDesc"
def TJx3cf43 : u_T := fun k => match k with
  | _ => ("", "", "", false)
def tyJx3cf43 : Nat → FieldType := fun k => match k with
  | _ => .int
abbrev wsJx3cf430 : List Cond := u_ws RJx3cf43 TJx3cf43 0
theorem nmJx3cf43 : ∀ a, a < 0 → ∀ b, b < 0 → a ≠ b → (TJx3cf43 a).2.1 ≠ (TJx3cf43 b).2.1 := by decide +kernel
theorem tyJx3cf43_ok : ∀ k, k < 0 → parseFieldDescriptor (TJx3cf43 k).2.2.1 = some (tyJx3cf43 k) := by decide +kernel
def RJ3 : String := "jdk/internal/util/Preconditions"
def TJ3 : u_T := fun k => match k with
  | _ => ("", "", "", false)
def tyJ3 : Nat → FieldType := fun k => match k with
  | _ => .int
abbrev wsJ30 : List Cond := u_ws RJ3 TJ3 0
theorem nmJ3 : ∀ a, a < 0 → ∀ b, b < 0 → a ≠ b → (TJ3 a).2.1 ≠ (TJ3 b).2.1 := by decide +kernel
theorem tyJ3_ok : ∀ k, k < 0 → parseFieldDescriptor (TJ3 k).2.2.1 = some (tyJ3 k) := by decide +kernel
abbrev cJ3_checkIndex_8e157 : ByteArray := prog_25_method_11_code
def yJ3_checkIndex_8e157 : MethodName := ⟨RJ3, "checkIndex", "(IILjava/util/function/BiFunction;)I"⟩
def RL : String := "ClockReachLaw"
abbrev cL_clock : ByteArray := method_3_code
def yL_clock : MethodName := ⟨RL, "clock", "(LClockReach;I[J)I"⟩
abbrev cL_law : ByteArray := code
def yL_law : MethodName := ⟨RL, "law", "([I)Z"⟩
end
section
abbrev vwCl : List vw_C := [(RX0, TX0, 17), (RX1, TX1, 18), (RX2, TX2, 3), (RX3, TX3, 5), (RX4, TX4, 12), (RX5, TX5, 8), (RX6, TX6, 10), (RX7, TX7, 2), (RX8, TX8, 16), (RX9, TX9, 67)]
theorem fa_lt (a b : Int32) : a < b ↔ a.toInt < b.toInt := Int32.lt_iff_toInt_lt
theorem fa_le (a b : Int32) : a ≤ b ↔ a.toInt ≤ b.toInt := Int32.le_iff_toInt_le
theorem fa_eq (a b : Int32) : a = b ↔ a.toInt = b.toInt := ⟨fun h => by rw [h], fun h => Int32.toInt_inj.mp h⟩
/-- how a method begins: its world in the heap -/
def pu_B (D : va_G) (ws : va_W) (tys : List (ClassId × FieldType)) (sz : Nat) : State → Prop := fun U => U.heap.size = sz ∧ va_P D vwCl ws U.heap ∧ va_K D vwCl tys U ∧ va_D (fun _ => True) ws
/-- how it ends -/
def pu_E (D : va_G) (ws : va_W) (tys : List (ClassId × FieldType)) (A : Nat → Prop) (t : State) : Prop := va_P D vwCl ws t.heap ∧ va_K D vwCl tys t ∧ va_D A ws
theorem pu_bl {D : va_G} {ws : va_W} {tys : List (ClassId × FieldType)} {sz : Nat} {av : List Value} : FrameBlind (va_Pc av (pu_B D ws tys sz)) := by
  intro a U g mk q
  obtain ⟨q0, q1, qP, qK, qD⟩ := q
  exact ⟨q0, q1, qP, va_K.moved (u := U) (U := U.calling g mk a) (Vm.Alike.refl U.vm) qK, qD⟩
theorem pu_in {D : va_G} {ws : va_W} {tys : List (ClassId × FieldType)} {s : State} {H : Heap} {A : Nat → Prop} {av : List Value} (hP : va_P D vwCl ws H) (hK : va_K D vwCl tys s) (hD : va_D A ws) : ∀ U : State, U.heap = H → s.WarmedH U.vm → va_Pc av (pu_B D ws tys H.size) av.toArray U := fun U hU hW => ⟨rfl, by rw [hU], by rw [hU]; exact hP, va_K.moved hW.alike hK, hD.weaken (fun _ _ _ _ => trivial)⟩
theorem pu_keep {D : va_G} {ws : va_W} {H H1 : Heap} (hP : va_P D vwCl ws H) (hk : ∀ q : Nat, q < H.size → ¬ va_A [] H.size q → H1[q]? = H[q]?) : va_P D vwCl ws H1 := hP.kept (fun k q hq => hk q.1 (hP k q hq).lt (fun h => by
  rcases h with ⟨k, e, h⟩ | h
  · simp at h
  · exact absurd (hP k q hq).lt (by omega)))
theorem pu_fr {A : Nat → Prop} {H0 H : Heap} {locs : List Loc} (hS : va_S A H0 H locs) (hA : ∀ q, H0.size ≤ q → A q) : ∀ q, va_A [] H.size q → A q := fun q h => by
  rcases h with ⟨k, e, h⟩ | h
  · simp at h
  · exact hA q (Nat.le_trans hS.1 h)
theorem pu_P0 {D : va_G} {H : Heap} : va_P D vwCl [] H := fun k q h => by simp at h
theorem pu_D0 {A : Nat → Prop} : va_D A [] := ⟨fun i j p q h => by simp at h, fun k q h => by simp at h⟩
theorem pu_fs {N : Nat} {ty : Nat → FieldType} {fs : List Value} (h : (List.range N).all (fun j => decide (defaultValue (ty j) = vp_V fs j)) = true) : ∀ j, j < N → defaultValue (ty j) = vp_V fs j := fun j hj => of_decide_eq_true (List.all_eq_true.mp h j (List.mem_range.mpr hj))
theorem pu_z0 {p : Int32} (h : ¬ p < 0) (g : ¬ 0 < p) : p = 0 := by
  rw [fa_eq]; rw [fa_lt] at h g
  have y : (0 : Int32).toInt = 0 := by decide
  omega
abbrev wX (a : Nat → Nat) (k : Nat → ClassId) : va_W := [((a 0), .inr (8, [.ref (a 6), .int 0, .ref (a 4), .ref (a 1), .ref (a 5), .ref (a 2), .ref (a 10), .int 0, .ref (a 11), .ref (a 12), .int 0, .ref (a 13), .ref (a 14), .ref (a 3), .ref (a 15), .ref (a 16)])), ((a 1), .inr (0, [.int 0, .int 0, .int 0, .int (-1), .ref (a 20), .ref (a 21), .ref (a 22), .ref (a 23), .ref (a 7), .ref (a 24), .ref (a 25), .ref (a 26), .ref (a 27), .ref (a 28), .ref (a 29), .ref (a 30), .ref (a 31)])), ((a 2), .inr (2, [.int 0, .ref (a 60), .ref (a 61)])), ((a 3), .inr (3, [.int 0, .int 0, .int 0, .ref (a 62), .ref (a 63)])), ((a 4), .inr (4, [.int 0, .int (-1), .null, .int 0, .int 0, .int 0, .int 0, .int 0, .null, .ref (a 64), .ref (a 65), .ref (a 66)])), ((a 5), .inr (0, [.int 0, .int 0, .int 0, .int (-1), .ref (a 8), .ref (a 41), .ref (a 42), .ref (a 43), .ref (a 9), .ref (a 44), .ref (a 45), .ref (a 46), .ref (a 47), .ref (a 48), .ref (a 49), .ref (a 50), .ref (a 51)])), ((a 6), .inl ((k 0), 900, .inl (fun _ => 0))), ((a 7), .inl ((k 1), 22, .inl (fun _ => 0))), ((a 8), .inl ((k 2), 8, .inl (fun _ => 0))), ((a 9), .inl ((k 3), 22, .inl (fun _ => 0)))]
abbrev tX (k : Nat → ClassId) : List (ClassId × FieldType) := [(k 0, .int), (k 1, .int), (k 2, .boolean), (k 3, .int)]
abbrev begF : Nat → Int32 := upd (upd (fun _ => 0) (0 : Int32).toNatClampNeg (-1)) (1 : Int32).toNatClampNeg (-1)
abbrev wM (b : Nat → Nat) (j : Nat → ClassId) : va_W := [((b 0), .inr (9, [.int 0, .ref (b 10), .ref (b 11), .ref (b 12), .ref (b 13), .ref (b 14), .ref (b 15), .ref (b 16), .ref (b 17), .ref (b 18), .ref (b 19), .ref (b 20), .ref (b 1), .ref (b 2), .ref (b 3), .ref (b 4), .int 0, .ref (b 5), .int 0, .int 0, .int 0, .int 0, .int 0, .int 0, .int 0, .int (-1), .int 0, .int 0, .int 0, .int 0, .int 0, .ref (b 21), .ref (b 22), .int 0, .ref (b 23), .ref (b 24), .ref (b 25), .ref (b 26), .ref (b 27), .ref (b 28), .ref (b 29), .ref (b 30), .ref (b 31), .ref (b 32), .ref (b 33), .int 0, .int 0, .ref (b 34), .ref (b 35), .ref (b 36), .ref (b 37), .ref (b 38), .int 0, .int 0, .ref (b 39), .ref (b 40), .ref (b 41), .ref (b 42), .ref (b 43), .ref (b 44), .ref (b 45), .int 0, .int 0, .int 0, .ref (b 46), .int 0, .int 0])), ((b 1), .inl ((j 1), 2, .inl (fun _ => 0))), ((b 2), .inl ((j 2), 2, .inl (fun _ => 0))), ((b 3), .inl ((j 3), 2, .inl (fun _ => 0))), ((b 4), .inl ((j 4), 2, .inl begF)), ((b 5), .inl ((j 5), 900, .inl (fun _ => 0)))]
abbrev tM (j : Nat → ClassId) : List (ClassId × FieldType) := [(j 1, .int), (j 2, .int), (j 3, .int), (j 4, .int), (j 5, .int)]
def abF (p : Int32) : Int32 := if p = 0 then 0 else if p = 1 then 0 else if p = 2 then 0 else if p = 4 then 0 else if p = 8 then 0 else if p = 9 then 0 else -1
def flF (p : Int32) : Int32 := if p = 0 then 0 else -1
theorem flF_0 {p : Int32} (h : p = 0) : flF p = 0 := if_pos h
theorem flF_n {p : Int32} (h : ¬ p = 0) : flF p = -1 := if_neg h
theorem flF_lt {p : Int32} (h : p < 0) : (-1 : Int32) = flF p := (flF_n (fun e => by subst e; exact absurd h (by decide))).symm
theorem flF_gt {p : Int32} (h : 0 < p) : (-1 : Int32) = flF p := (flF_n (fun e => by subst e; exact absurd h (by decide))).symm
theorem flF_eq {p : Int32} (h : ¬ p < 0) (g : ¬ 0 < p) : p = flF p := by
  have e : p = 0 := by
    rw [fa_eq]; rw [fa_lt] at h g
    have y : (0 : Int32).toInt = 0 := by decide
    omega
  rw [flF_0 e]; exact e
theorem flF_le {p : Int32} (h : ¬ p < 0) (g : p ≤ 0) : p = flF p := flF_eq h (fun z => by
  rw [fa_lt] at z; rw [fa_le] at g
  omega)
theorem flF_nle {p : Int32} (h : ¬ p ≤ 0) : (-1 : Int32) = flF p := flF_gt (by
  rw [fa_lt]; rw [fa_le] at h
  omega)
end
section
theorem dX8_isPlace_0 : decode cX8_isPlace 0 = .ok (.iload_n 1, 1) := by decide +kernel
theorem dX8_isPlace_1 : decode cX8_isPlace 1 = .ok (.ifCond .lt 18, 3) := by decide +kernel
theorem dX8_isPlace_4 : decode cX8_isPlace 4 = .ok (.iload_n 1, 1) := by decide +kernel
theorem dX8_isPlace_5 : decode cX8_isPlace 5 = .ok (.aload_n 0, 1) := by decide +kernel
theorem dX8_isPlace_6 : decode cX8_isPlace 6 = .ok (.getfield 23, 3) := by decide +kernel
theorem dX8_isPlace_9 : decode cX8_isPlace 9 = .ok (.getfield 97, 3) := by decide +kernel
theorem dX8_isPlace_12 : decode cX8_isPlace 12 = .ok (.if_icmp .ge 7, 3) := by decide +kernel
theorem dX8_isPlace_19 : decode cX8_isPlace 19 = .ok (.iconst 0, 1) := by decide +kernel
theorem dX8_isPlace_20 : decode cX8_isPlace 20 = .ok (.ireturn, 1) := by decide +kernel
def vs_X8_isPlace : List Cond := .code yX8_isPlace cX8_isPlace 2 (some .boolean) :: ([.fieldLink RX8 23 "ClockReach" "model" "LClockReach$Automaton;", .fieldLink RX8 97 "ClockReach$Automaton" "places" "I"] ++ wsX80 ++ wsX00)
set_option maxHeartbeats 4000000 in
set_option maxRecDepth 100000 in
theorem c_X8_isPlace (l : Launch) (dC : Nat → ClassId) (dI : Nat → Nat → Nat) (sz : Nat) (a : Nat → Nat) (k : Nat → ClassId) (p0 : Int32) : Met l yX8_isPlace vs_X8_isPlace ({ frames := 0, cells := 0, slots := 0, locals := 0 }) (va_Pc [.ref (a 0), .int p0] (pu_B (dC, dI) (wX a k) (tX k) sz)) (va_Qi (fun (r : Int32) (_ : Unit) => r = 0) (fun _ _ => True) (va_A [] sz)) 0 0 (va_A [] sz) := by
  refine Met.ofW (cc := cX8_isPlace) (maxL := 2) (ret := (some .boolean)) (by decide) rfl ?_
  intro p e s m args below meth c s₁ B hml hv
  obtain ⟨rfl, rfl, hP, hK, hD0⟩ := hv
  have hx := B.exec
  have hb := B.bytes
  have hr := B.returns
  have hts := atoms_spec (ws := vs_X8_isPlace) B.pre
  have v_1 := hts (.fieldLink RX8 23 "ClockReach" "model" "LClockReach$Automaton;") (List.mem_of_getElem? (i := 1) rfl)
  have v_2 := hts (.fieldLink RX8 97 "ClockReach$Automaton" "places" "I") (List.mem_of_getElem? (i := 2) rfl)
  have hown : s.vm.findClass RX8 = some m.cls := findClass_of_methodNamed B.named
  have hlocks := B.notSynchronized
  have hiX0 : ∀ w ∈ wsX00, w ∈ vs_X8_isPlace := fun _ h => List.mem_cons_of_mem _ (List.mem_append_right _ h)
  have hiX8 : ∀ w ∈ wsX80, w ∈ vs_X8_isPlace := fun _ h => List.mem_cons_of_mem _ (List.mem_append_left _ (List.mem_append_right _ h))
  have hD := hD0
  have hA : ∀ q : Nat, s.heap.size ≤ q → va_A [] s.heap.size q := fun _ h => Or.inr h
  have hS : va_S (va_A [] s.heap.size) s.heap s.heap [] := va_S.rf
  have hl := lv_entry ([.ref (a 0), .int p0]) (n := 2) (Nat.le_of_ble_eq_true rfl)
  rw [lg_entry_eq]
  generalize (lg_sl ([.ref (a 0), .int p0]) ++ List.replicate (2 - (lg_sl ([.ref (a 0), .int p0])).length) Slot.unset).toArray = ls at hl ⊢
  have hl : lv_has ls 2 [(0, .ref (a 0)), (1, .int p0)] := hl
  refine lv_iload_n hx hb dX8_isPlace_0 rfl (lv_at hl 1 rfl) ?_
  refine lv_if_lt (tgt := 19) hx hb dX8_isPlace_1 (by decide) (fun c_1 => ?_) (fun c_1 => ?_)
  · refine lv_iconst (v := 0) hx hb dX8_isPlace_19 (by decide) ?_
    exact W.zret (v := 0) (ty := .boolean) hx hb hr rfl (fun t ht hW => ⟨⟨0, (), rfl, by first | rfl | decide | simp_all, trivial⟩, hS.F ht⟩) hS.2.2 dX8_isPlace_20
  · refine lv_iload_n hx hb dX8_isPlace_4 rfl (lv_at hl 1 rfl) ?_
    refine lv_aload_n hx hb dX8_isPlace_5 rfl (lv_at hl 0 rfl) ?_
    refine va_get (D := (dC, dI)) (ci := 8) (v := .ref (a 1)) (C := RX8) (T := TX8) (N := 16) hx hb hts hiX8 hown hK hP 0 rfl rfl 3 (by decide) v_1 (fun _ h9 => h9) rfl dX8_isPlace_6 ?_
    refine va_get (D := (dC, dI)) (ci := 0) (v := .int 0) (C := RX0) (T := TX0) (N := 17) hx hb hts hiX0 hown hK hP 1 rfl rfl 1 (by decide) v_2 (fun _ h9 => h9) rfl dX8_isPlace_9 ?_
    refine lv_icmp_ge (tgt := 19) hx hb dX8_isPlace_12 (by decide) (fun c_2 => ?_) (fun c_2 => ?_)
    · refine lv_iconst (v := 0) hx hb dX8_isPlace_19 (by decide) ?_
      exact W.zret (v := 0) (ty := .boolean) hx hb hr rfl (fun t ht hW => ⟨⟨0, (), rfl, by first | rfl | decide | simp_all, trivial⟩, hS.F ht⟩) hS.2.2 dX8_isPlace_20
    · have z_0 := c_1
      have z_1 := c_2
      exfalso
      simp only [fa_lt, fa_le, fa_eq] at z_0 z_1
      have y_0 : (0 : Int32).toInt = 0 := by decide
      omega
theorem dX8_isEdge_0 : decode cX8_isEdge 0 = .ok (.iload_n 1, 1) := by decide +kernel
theorem dX8_isEdge_1 : decode cX8_isEdge 1 = .ok (.ifCond .lt 18, 3) := by decide +kernel
theorem dX8_isEdge_4 : decode cX8_isEdge 4 = .ok (.iload_n 1, 1) := by decide +kernel
theorem dX8_isEdge_5 : decode cX8_isEdge 5 = .ok (.aload_n 0, 1) := by decide +kernel
theorem dX8_isEdge_6 : decode cX8_isEdge 6 = .ok (.getfield 23, 3) := by decide +kernel
theorem dX8_isEdge_9 : decode cX8_isEdge 9 = .ok (.getfield 119, 3) := by decide +kernel
theorem dX8_isEdge_12 : decode cX8_isEdge 12 = .ok (.if_icmp .ge 7, 3) := by decide +kernel
theorem dX8_isEdge_19 : decode cX8_isEdge 19 = .ok (.iconst 0, 1) := by decide +kernel
theorem dX8_isEdge_20 : decode cX8_isEdge 20 = .ok (.ireturn, 1) := by decide +kernel
def vs_X8_isEdge : List Cond := .code yX8_isEdge cX8_isEdge 2 (some .boolean) :: ([.fieldLink RX8 23 "ClockReach" "model" "LClockReach$Automaton;", .fieldLink RX8 119 "ClockReach$Automaton" "edges" "I"] ++ wsX80 ++ wsX00)
set_option maxHeartbeats 4000000 in
set_option maxRecDepth 100000 in
theorem c_X8_isEdge (l : Launch) (dC : Nat → ClassId) (dI : Nat → Nat → Nat) (sz : Nat) (a : Nat → Nat) (k : Nat → ClassId) (p0 : Int32) : Met l yX8_isEdge vs_X8_isEdge ({ frames := 0, cells := 0, slots := 0, locals := 0 }) (va_Pc [.ref (a 0), .int p0] (pu_B (dC, dI) (wX a k) (tX k) sz)) (va_Qi (fun (r : Int32) (_ : Unit) => r = 0) (fun _ _ => True) (va_A [] sz)) 0 0 (va_A [] sz) := by
  refine Met.ofW (cc := cX8_isEdge) (maxL := 2) (ret := (some .boolean)) (by decide) rfl ?_
  intro p e s m args below meth c s₁ B hml hv
  obtain ⟨rfl, rfl, hP, hK, hD0⟩ := hv
  have hx := B.exec
  have hb := B.bytes
  have hr := B.returns
  have hts := atoms_spec (ws := vs_X8_isEdge) B.pre
  have v_1 := hts (.fieldLink RX8 23 "ClockReach" "model" "LClockReach$Automaton;") (List.mem_of_getElem? (i := 1) rfl)
  have v_2 := hts (.fieldLink RX8 119 "ClockReach$Automaton" "edges" "I") (List.mem_of_getElem? (i := 2) rfl)
  have hown : s.vm.findClass RX8 = some m.cls := findClass_of_methodNamed B.named
  have hlocks := B.notSynchronized
  have hiX0 : ∀ w ∈ wsX00, w ∈ vs_X8_isEdge := fun _ h => List.mem_cons_of_mem _ (List.mem_append_right _ h)
  have hiX8 : ∀ w ∈ wsX80, w ∈ vs_X8_isEdge := fun _ h => List.mem_cons_of_mem _ (List.mem_append_left _ (List.mem_append_right _ h))
  have hD := hD0
  have hA : ∀ q : Nat, s.heap.size ≤ q → va_A [] s.heap.size q := fun _ h => Or.inr h
  have hS : va_S (va_A [] s.heap.size) s.heap s.heap [] := va_S.rf
  have hl := lv_entry ([.ref (a 0), .int p0]) (n := 2) (Nat.le_of_ble_eq_true rfl)
  rw [lg_entry_eq]
  generalize (lg_sl ([.ref (a 0), .int p0]) ++ List.replicate (2 - (lg_sl ([.ref (a 0), .int p0])).length) Slot.unset).toArray = ls at hl ⊢
  have hl : lv_has ls 2 [(0, .ref (a 0)), (1, .int p0)] := hl
  refine lv_iload_n hx hb dX8_isEdge_0 rfl (lv_at hl 1 rfl) ?_
  refine lv_if_lt (tgt := 19) hx hb dX8_isEdge_1 (by decide) (fun c_1 => ?_) (fun c_1 => ?_)
  · refine lv_iconst (v := 0) hx hb dX8_isEdge_19 (by decide) ?_
    exact W.zret (v := 0) (ty := .boolean) hx hb hr rfl (fun t ht hW => ⟨⟨0, (), rfl, by first | rfl | decide | simp_all, trivial⟩, hS.F ht⟩) hS.2.2 dX8_isEdge_20
  · refine lv_iload_n hx hb dX8_isEdge_4 rfl (lv_at hl 1 rfl) ?_
    refine lv_aload_n hx hb dX8_isEdge_5 rfl (lv_at hl 0 rfl) ?_
    refine va_get (D := (dC, dI)) (ci := 8) (v := .ref (a 1)) (C := RX8) (T := TX8) (N := 16) hx hb hts hiX8 hown hK hP 0 rfl rfl 3 (by decide) v_1 (fun _ h9 => h9) rfl dX8_isEdge_6 ?_
    refine va_get (D := (dC, dI)) (ci := 0) (v := .int 0) (C := RX0) (T := TX0) (N := 17) hx hb hts hiX0 hown hK hP 1 rfl rfl 2 (by decide) v_2 (fun _ h9 => h9) rfl dX8_isEdge_9 ?_
    refine lv_icmp_ge (tgt := 19) hx hb dX8_isEdge_12 (by decide) (fun c_2 => ?_) (fun c_2 => ?_)
    · refine lv_iconst (v := 0) hx hb dX8_isEdge_19 (by decide) ?_
      exact W.zret (v := 0) (ty := .boolean) hx hb hr rfl (fun t ht hW => ⟨⟨0, (), rfl, by first | rfl | decide | simp_all, trivial⟩, hS.F ht⟩) hS.2.2 dX8_isEdge_20
    · have z_0 := c_1
      have z_1 := c_2
      exfalso
      simp only [fa_lt, fa_le, fa_eq] at z_0 z_1
      have y_0 : (0 : Int32).toInt = 0 := by decide
      omega
theorem dX8_isClock_0 : decode cX8_isClock 0 = .ok (.iload_n 1, 1) := by decide +kernel
theorem dX8_isClock_1 : decode cX8_isClock 1 = .ok (.ifCond .lt 18, 3) := by decide +kernel
theorem dX8_isClock_4 : decode cX8_isClock 4 = .ok (.iload_n 1, 1) := by decide +kernel
theorem dX8_isClock_5 : decode cX8_isClock 5 = .ok (.aload_n 0, 1) := by decide +kernel
theorem dX8_isClock_6 : decode cX8_isClock 6 = .ok (.getfield 23, 3) := by decide +kernel
theorem dX8_isClock_9 : decode cX8_isClock 9 = .ok (.getfield 116, 3) := by decide +kernel
theorem dX8_isClock_12 : decode cX8_isClock 12 = .ok (.if_icmp .ge 7, 3) := by decide +kernel
theorem dX8_isClock_19 : decode cX8_isClock 19 = .ok (.iconst 0, 1) := by decide +kernel
theorem dX8_isClock_20 : decode cX8_isClock 20 = .ok (.ireturn, 1) := by decide +kernel
def vs_X8_isClock : List Cond := .code yX8_isClock cX8_isClock 2 (some .boolean) :: ([.fieldLink RX8 23 "ClockReach" "model" "LClockReach$Automaton;", .fieldLink RX8 116 "ClockReach$Automaton" "clocks" "I"] ++ wsX80 ++ wsX00)
set_option maxHeartbeats 4000000 in
set_option maxRecDepth 100000 in
theorem c_X8_isClock (l : Launch) (dC : Nat → ClassId) (dI : Nat → Nat → Nat) (sz : Nat) (a : Nat → Nat) (k : Nat → ClassId) (p0 : Int32) : Met l yX8_isClock vs_X8_isClock ({ frames := 0, cells := 0, slots := 0, locals := 0 }) (va_Pc [.ref (a 0), .int p0] (pu_B (dC, dI) (wX a k) (tX k) sz)) (va_Qi (fun (r : Int32) (_ : Unit) => r = 0) (fun _ _ => True) (va_A [] sz)) 0 0 (va_A [] sz) := by
  refine Met.ofW (cc := cX8_isClock) (maxL := 2) (ret := (some .boolean)) (by decide) rfl ?_
  intro p e s m args below meth c s₁ B hml hv
  obtain ⟨rfl, rfl, hP, hK, hD0⟩ := hv
  have hx := B.exec
  have hb := B.bytes
  have hr := B.returns
  have hts := atoms_spec (ws := vs_X8_isClock) B.pre
  have v_1 := hts (.fieldLink RX8 23 "ClockReach" "model" "LClockReach$Automaton;") (List.mem_of_getElem? (i := 1) rfl)
  have v_2 := hts (.fieldLink RX8 116 "ClockReach$Automaton" "clocks" "I") (List.mem_of_getElem? (i := 2) rfl)
  have hown : s.vm.findClass RX8 = some m.cls := findClass_of_methodNamed B.named
  have hlocks := B.notSynchronized
  have hiX0 : ∀ w ∈ wsX00, w ∈ vs_X8_isClock := fun _ h => List.mem_cons_of_mem _ (List.mem_append_right _ h)
  have hiX8 : ∀ w ∈ wsX80, w ∈ vs_X8_isClock := fun _ h => List.mem_cons_of_mem _ (List.mem_append_left _ (List.mem_append_right _ h))
  have hD := hD0
  have hA : ∀ q : Nat, s.heap.size ≤ q → va_A [] s.heap.size q := fun _ h => Or.inr h
  have hS : va_S (va_A [] s.heap.size) s.heap s.heap [] := va_S.rf
  have hl := lv_entry ([.ref (a 0), .int p0]) (n := 2) (Nat.le_of_ble_eq_true rfl)
  rw [lg_entry_eq]
  generalize (lg_sl ([.ref (a 0), .int p0]) ++ List.replicate (2 - (lg_sl ([.ref (a 0), .int p0])).length) Slot.unset).toArray = ls at hl ⊢
  have hl : lv_has ls 2 [(0, .ref (a 0)), (1, .int p0)] := hl
  refine lv_iload_n hx hb dX8_isClock_0 rfl (lv_at hl 1 rfl) ?_
  refine lv_if_lt (tgt := 19) hx hb dX8_isClock_1 (by decide) (fun c_1 => ?_) (fun c_1 => ?_)
  · refine lv_iconst (v := 0) hx hb dX8_isClock_19 (by decide) ?_
    exact W.zret (v := 0) (ty := .boolean) hx hb hr rfl (fun t ht hW => ⟨⟨0, (), rfl, by first | rfl | decide | simp_all, trivial⟩, hS.F ht⟩) hS.2.2 dX8_isClock_20
  · refine lv_iload_n hx hb dX8_isClock_4 rfl (lv_at hl 1 rfl) ?_
    refine lv_aload_n hx hb dX8_isClock_5 rfl (lv_at hl 0 rfl) ?_
    refine va_get (D := (dC, dI)) (ci := 8) (v := .ref (a 1)) (C := RX8) (T := TX8) (N := 16) hx hb hts hiX8 hown hK hP 0 rfl rfl 3 (by decide) v_1 (fun _ h9 => h9) rfl dX8_isClock_6 ?_
    refine va_get (D := (dC, dI)) (ci := 0) (v := .int 0) (C := RX0) (T := TX0) (N := 17) hx hb hts hiX0 hown hK hP 1 rfl rfl 0 (by decide) v_2 (fun _ h9 => h9) rfl dX8_isClock_9 ?_
    refine lv_icmp_ge (tgt := 19) hx hb dX8_isClock_12 (by decide) (fun c_2 => ?_) (fun c_2 => ?_)
    · refine lv_iconst (v := 0) hx hb dX8_isClock_19 (by decide) ?_
      exact W.zret (v := 0) (ty := .boolean) hx hb hr rfl (fun t ht hW => ⟨⟨0, (), rfl, by first | rfl | decide | simp_all, trivial⟩, hS.F ht⟩) hS.2.2 dX8_isClock_20
    · have z_0 := c_1
      have z_1 := c_2
      exfalso
      simp only [fa_lt, fa_le, fa_eq] at z_0 z_1
      have y_0 : (0 : Int32).toInt = 0 := by decide
      omega
theorem dX8_isState_0 : decode cX8_isState 0 = .ok (.aload_n 0, 1) := by decide +kernel
theorem dX8_isState_1 : decode cX8_isState 1 = .ok (.getfield 100, 3) := by decide +kernel
theorem dX8_isState_4 : decode cX8_isState 4 = .ok (.ifCond .eq 22, 3) := by decide +kernel
theorem dX8_isState_26 : decode cX8_isState 26 = .ok (.iconst 0, 1) := by decide +kernel
theorem dX8_isState_27 : decode cX8_isState 27 = .ok (.ireturn, 1) := by decide +kernel
def vs_X8_isState : List Cond := .code yX8_isState cX8_isState 2 (some .boolean) :: ([.fieldLink RX8 100 "ClockReach" "hasShown" "Z"] ++ wsX80)
set_option maxHeartbeats 4000000 in
set_option maxRecDepth 100000 in
theorem c_X8_isState (l : Launch) (dC : Nat → ClassId) (dI : Nat → Nat → Nat) (sz : Nat) (a : Nat → Nat) (k : Nat → ClassId) (p0 : Int32) : Met l yX8_isState vs_X8_isState ({ frames := 0, cells := 0, slots := 0, locals := 0 }) (va_Pc [.ref (a 0), .int p0] (pu_B (dC, dI) (wX a k) (tX k) sz)) (va_Qi (fun (r : Int32) (_ : Unit) => r = 0) (fun _ _ => True) (va_A [] sz)) 0 0 (va_A [] sz) := by
  refine Met.ofW (cc := cX8_isState) (maxL := 2) (ret := (some .boolean)) (by decide) rfl ?_
  intro p e s m args below meth c s₁ B hml hv
  obtain ⟨rfl, rfl, hP, hK, hD0⟩ := hv
  have hx := B.exec
  have hb := B.bytes
  have hr := B.returns
  have hts := atoms_spec (ws := vs_X8_isState) B.pre
  have v_1 := hts (.fieldLink RX8 100 "ClockReach" "hasShown" "Z") (List.mem_of_getElem? (i := 1) rfl)
  have hown : s.vm.findClass RX8 = some m.cls := findClass_of_methodNamed B.named
  have hlocks := B.notSynchronized
  have hiX8 : ∀ w ∈ wsX80, w ∈ vs_X8_isState := fun _ h => List.mem_cons_of_mem _ (List.mem_append_right _ h)
  have hD := hD0
  have hA : ∀ q : Nat, s.heap.size ≤ q → va_A [] s.heap.size q := fun _ h => Or.inr h
  have hS : va_S (va_A [] s.heap.size) s.heap s.heap [] := va_S.rf
  have hl := lv_entry ([.ref (a 0), .int p0]) (n := 2) (Nat.le_of_ble_eq_true rfl)
  rw [lg_entry_eq]
  generalize (lg_sl ([.ref (a 0), .int p0]) ++ List.replicate (2 - (lg_sl ([.ref (a 0), .int p0])).length) Slot.unset).toArray = ls at hl ⊢
  have hl : lv_has ls 2 [(0, .ref (a 0)), (1, .int p0)] := hl
  refine lv_aload_n hx hb dX8_isState_0 rfl (lv_at hl 0 rfl) ?_
  refine va_get (D := (dC, dI)) (ci := 8) (v := .int 0) (C := RX8) (T := TX8) (N := 16) hx hb hts hiX8 hown hK hP 0 rfl rfl 7 (by decide) v_1 (fun _ h9 => h9) rfl dX8_isState_1 ?_
  refine lv_if_eq (tgt := 26) hx hb dX8_isState_4 (by decide) (fun _ => ?_) (fun z => absurd z (by decide))
  refine lv_iconst (v := 0) hx hb dX8_isState_26 (by decide) ?_
  exact W.zret (v := 0) (ty := .boolean) hx hb hr rfl (fun t ht hW => ⟨⟨0, (), rfl, by first | rfl | decide | simp_all, trivial⟩, hS.F ht⟩) hS.2.2 dX8_isState_27
theorem dX8_slotOf_0 : decode cX8_slotOf 0 = .ok (.iconst (-1), 1) := by decide +kernel
theorem dX8_slotOf_1 : decode cX8_slotOf 1 = .ok (.istore_n 3, 1) := by decide +kernel
theorem dX8_slotOf_2 : decode cX8_slotOf 2 = .ok (.aload_n 0, 1) := by decide +kernel
theorem dX8_slotOf_3 : decode cX8_slotOf 3 = .ok (.iload_n 1, 1) := by decide +kernel
theorem dX8_slotOf_4 : decode cX8_slotOf 4 = .ok (.invokevirtual 165, 3) := by decide +kernel
theorem dX8_slotOf_7 : decode cX8_slotOf 7 = .ok (.ifCond .eq 8, 3) := by decide +kernel
theorem dX8_slotOf_15 : decode cX8_slotOf 15 = .ok (.iload_n 1, 1) := by decide +kernel
theorem dX8_slotOf_16 : decode cX8_slotOf 16 = .ok (.bipush 100, 2) := by decide +kernel
theorem dX8_slotOf_18 : decode cX8_slotOf 18 = .ok (.if_icmp .lt 22, 3) := by decide +kernel
theorem dX8_slotOf_21 : decode cX8_slotOf 21 = .ok (.aload_n 0, 1) := by decide +kernel
theorem dX8_slotOf_22 : decode cX8_slotOf 22 = .ok (.iload_n 1, 1) := by decide +kernel
theorem dX8_slotOf_23 : decode cX8_slotOf 23 = .ok (.bipush 100, 2) := by decide +kernel
theorem dX8_slotOf_25 : decode cX8_slotOf 25 = .ok (.isub, 1) := by decide +kernel
theorem dX8_slotOf_26 : decode cX8_slotOf 26 = .ok (.invokevirtual 140, 3) := by decide +kernel
theorem dX8_slotOf_29 : decode cX8_slotOf 29 = .ok (.ifCond .eq 11, 3) := by decide +kernel
theorem dX8_slotOf_40 : decode cX8_slotOf 40 = .ok (.iload_n 3, 1) := by decide +kernel
theorem dX8_slotOf_41 : decode cX8_slotOf 41 = .ok (.iconst (-1), 1) := by decide +kernel
theorem dX8_slotOf_42 : decode cX8_slotOf 42 = .ok (.if_icmp .eq 20, 3) := by decide +kernel
theorem dX8_slotOf_62 : decode cX8_slotOf 62 = .ok (.iconst (-1), 1) := by decide +kernel
theorem dX8_slotOf_63 : decode cX8_slotOf 63 = .ok (.ireturn, 1) := by decide +kernel
def vs_X8_slotOf : List Cond := .code yX8_slotOf cX8_slotOf 4 (some .int) :: ([.methodLink RX8 165 yX8_isEdge, .instanceMethod yX8_isEdge, .selects RX8 yX8_isEdge yX8_isEdge, .initialized RX8, .code yX8_isEdge cX8_isEdge 2 (some .boolean), .fieldLink RX8 23 "ClockReach" "model" "LClockReach$Automaton;", .fieldLink RX8 119 "ClockReach$Automaton" "edges" "I", .methodLink RX8 140 yX8_isPlace, .instanceMethod yX8_isPlace, .selects RX8 yX8_isPlace yX8_isPlace, .code yX8_isPlace cX8_isPlace 2 (some .boolean), .fieldLink RX8 97 "ClockReach$Automaton" "places" "I"] ++ wsX80 ++ wsX00)
theorem g_X8_slotOf_X8_isEdge : GoodIn vs_X8_slotOf (wsV RX8 165 RX8 yX8_isEdge vs_X8_isEdge) := goodIn_r _ [1, 2, 3, 4, 5, 6, 7, 13, 14, 15, 16, 17, 18, 19, 20, 21, 22, 23, 24, 25, 26, 27, 28, 29, 30, 31, 32, 33, 34, 35, 36, 37, 38, 39, 40, 41, 42, 43, 44, 45] (by decide +kernel) (by decide +kernel)
theorem g_X8_slotOf_X8_isPlace : GoodIn vs_X8_slotOf (wsV RX8 140 RX8 yX8_isPlace vs_X8_isPlace) := goodIn_r _ [8, 9, 10, 4, 11, 6, 12, 13, 14, 15, 16, 17, 18, 19, 20, 21, 22, 23, 24, 25, 26, 27, 28, 29, 30, 31, 32, 33, 34, 35, 36, 37, 38, 39, 40, 41, 42, 43, 44, 45] (by decide +kernel) (by decide +kernel)
set_option maxHeartbeats 4000000 in
set_option maxRecDepth 100000 in
theorem c_X8_slotOf (l : Launch) (dC : Nat → ClassId) (dI : Nat → Nat → Nat) (sz : Nat) (a : Nat → Nat) (k : Nat → ClassId) (p0 : Int32) (p1 : Int32) : Met l yX8_slotOf vs_X8_slotOf ({ frames := 1, cells := 0, slots := 0, locals := 21 }) (va_Pc [.ref (a 0), .int p0, .int p1] (pu_B (dC, dI) (wX a k) (tX k) sz)) (va_Qi (fun (r : Int32) (_ : Unit) => r = -1) (fun _ _ => True) (va_A [] sz)) 0 0 (va_A [] sz) := by
  refine Met.ofW (cc := cX8_slotOf) (maxL := 4) (ret := (some .int)) (by decide) rfl ?_
  intro p e s m args below meth c s₁ B hml hv
  obtain ⟨rfl, rfl, hP, hK, hD0⟩ := hv
  have hx := B.exec
  have hb := B.bytes
  have hr := B.returns
  have hts := atoms_spec (ws := vs_X8_slotOf) B.pre
  have hown : s.vm.findClass RX8 = some m.cls := findClass_of_methodNamed B.named
  have hlocks := B.notSynchronized
  have hD := hD0
  have hA : ∀ q : Nat, s.heap.size ≤ q → va_A [] s.heap.size q := fun _ h => Or.inr h
  have hS : va_S (va_A [] s.heap.size) s.heap s.heap [] := va_S.rf
  have hl := lv_entry ([.ref (a 0), .int p0, .int p1]) (n := 4) (Nat.le_of_ble_eq_true rfl)
  rw [lg_entry_eq]
  generalize (lg_sl ([.ref (a 0), .int p0, .int p1]) ++ List.replicate (4 - (lg_sl ([.ref (a 0), .int p0, .int p1])).length) Slot.unset).toArray = ls at hl ⊢
  have hl : lv_has ls 4 [(0, .ref (a 0)), (1, .int p0), (2, .int p1)] := hl
  refine lv_iconst (v := (-1)) hx hb dX8_slotOf_0 (by decide) ?_
  refine lv_istore_n (lv' := [(3, .int (-1)), (0, .ref (a 0)), (1, .int p0), (2, .int p1)]) hx hb dX8_slotOf_1 rfl hl (by decide) rfl (fun ls hl => ?_)
  refine lv_aload_n hx hb dX8_slotOf_2 rfl (lv_at hl 1 rfl) ?_
  refine lv_iload_n hx hb dX8_slotOf_3 rfl (lv_at hl 2 rfl) ?_
  refine va_calli (va_runV (As := [.int p0]) (rest := []) ⟨hx, hb, hml, hown, hts⟩ (c_X8_isEdge l dC dI _ a k p0) (cwV 1 hts g_X8_slotOf_X8_isEdge rfl rfl rfl (by decide +kernel) ⟨Nat.le_of_ble_eq_true rfl, Nat.le_of_ble_eq_true rfl⟩) ⟨pu_bl, va_recv hK hP (ci := 8) (q0 := 0) rfl rfl, pu_in hP hK hD⟩ rfl rfl hl.1 rfl (lv_room (Nat.le_of_ble_eq_true rfl)) dX8_slotOf_4 ⟨Nat.le_of_ble_eq_true rfl, Nat.le_of_ble_eq_true rfl⟩) hS (fun q _ h => pu_fr hS hA q h) (pu_fr hS hA) (fun r_1 u t H1 locs ht hvm hw hB hz1 hk1 hS => ?_)
  have hP := pu_keep hP hk1
  clear hk1 hz1 hB ht hvm
  generalize H1 = H at hP hS ⊢
  obtain rfl : r_1 = 0 := hw
  refine lv_if_eq (tgt := 15) hx hb dX8_slotOf_7 (by decide) (fun _ => ?_) (fun z => absurd z (by decide))
  refine lv_iload_n hx hb dX8_slotOf_15 rfl (lv_at hl 2 rfl) ?_
  refine lv_bipush (v := 100) hx hb dX8_slotOf_16 (by decide) ?_
  refine lv_icmp_lt (tgt := 40) hx hb dX8_slotOf_18 (by decide) (fun c_2 => ?_) (fun c_2 => ?_)
  · refine lv_iload_n hx hb dX8_slotOf_40 rfl (lv_at hl 0 rfl) ?_
    refine lv_iconst (v := (-1)) hx hb dX8_slotOf_41 (by decide) ?_
    refine lv_icmp_eq (tgt := 62) hx hb dX8_slotOf_42 (by decide) (fun _ => ?_) (fun z => absurd z (by decide))
    refine lv_iconst (v := (-1)) hx hb dX8_slotOf_62 (by decide) ?_
    exact W.iret (v := (-1)) hx hb hr (fun t ht hW => ⟨⟨(-1), (), rfl, by first | rfl | decide | simp_all, trivial⟩, hS.F ht⟩) hS.2.2 dX8_slotOf_63
  · refine lv_aload_n hx hb dX8_slotOf_21 rfl (lv_at hl 1 rfl) ?_
    refine lv_iload_n hx hb dX8_slotOf_22 rfl (lv_at hl 2 rfl) ?_
    refine lv_bipush (v := 100) hx hb dX8_slotOf_23 (by decide) ?_
    refine lv_isub hx hb dX8_slotOf_25 ?_
    refine va_calli (va_runV (As := [.int (p0 - 100)]) (rest := []) ⟨hx, hb, hml, hown, hts⟩ (c_X8_isPlace l dC dI _ a k (p0 - 100)) (cwV 1 hts g_X8_slotOf_X8_isPlace rfl rfl rfl (by decide +kernel) ⟨Nat.le_of_ble_eq_true rfl, Nat.le_of_ble_eq_true rfl⟩) ⟨pu_bl, va_recv hK hP (ci := 8) (q0 := 0) rfl rfl, pu_in hP hK hD⟩ rfl rfl hl.1 rfl (lv_room (Nat.le_of_ble_eq_true rfl)) dX8_slotOf_26 ⟨Nat.le_of_ble_eq_true rfl, Nat.le_of_ble_eq_true rfl⟩) hS (fun q _ h => pu_fr hS hA q h) (pu_fr hS hA) (fun r_3 u t H1 locs ht hvm hw hB hz1 hk1 hS => ?_)
    have hP := pu_keep hP hk1
    clear hk1 hz1 hB ht hvm
    generalize H1 = H at hP hS ⊢
    obtain rfl : r_3 = 0 := hw
    refine lv_if_eq (tgt := 40) hx hb dX8_slotOf_29 (by decide) (fun _ => ?_) (fun z => absurd z (by decide))
    refine lv_iload_n hx hb dX8_slotOf_40 rfl (lv_at hl 0 rfl) ?_
    refine lv_iconst (v := (-1)) hx hb dX8_slotOf_41 (by decide) ?_
    refine lv_icmp_eq (tgt := 62) hx hb dX8_slotOf_42 (by decide) (fun _ => ?_) (fun z => absurd z (by decide))
    refine lv_iconst (v := (-1)) hx hb dX8_slotOf_62 (by decide) ?_
    exact W.iret (v := (-1)) hx hb hr (fun t ht hW => ⟨⟨(-1), (), rfl, by first | rfl | decide | simp_all, trivial⟩, hS.F ht⟩) hS.2.2 dX8_slotOf_63
theorem dX8_isStep_0 : decode cX8_isStep 0 = .ok (.aload_n 0, 1) := by decide +kernel
theorem dX8_isStep_1 : decode cX8_isStep 1 = .ok (.iload_n 1, 1) := by decide +kernel
theorem dX8_isStep_2 : decode cX8_isStep 2 = .ok (.invokevirtual 228, 3) := by decide +kernel
theorem dX8_isStep_5 : decode cX8_isStep 5 = .ok (.ifCond .eq 24, 3) := by decide +kernel
theorem dX8_isStep_29 : decode cX8_isStep 29 = .ok (.iconst 0, 1) := by decide +kernel
theorem dX8_isStep_30 : decode cX8_isStep 30 = .ok (.ireturn, 1) := by decide +kernel
def vs_X8_isStep : List Cond := .code yX8_isStep cX8_isStep 3 (some .boolean) :: ([.methodLink RX8 228 yX8_isState, .instanceMethod yX8_isState, .selects RX8 yX8_isState yX8_isState, .initialized RX8, .code yX8_isState cX8_isState 2 (some .boolean), .fieldLink RX8 100 "ClockReach" "hasShown" "Z"] ++ wsX80)
theorem g_X8_isStep_X8_isState : GoodIn vs_X8_isStep (wsV RX8 228 RX8 yX8_isState vs_X8_isState) := goodIn_r _ [1, 2, 3, 4, 5, 6, 7, 8, 9, 10, 11, 12, 13, 14, 15, 16, 17, 18, 19, 20, 21, 22] (by decide +kernel) (by decide +kernel)
set_option maxHeartbeats 4000000 in
set_option maxRecDepth 100000 in
theorem c_X8_isStep (l : Launch) (dC : Nat → ClassId) (dI : Nat → Nat → Nat) (sz : Nat) (a : Nat → Nat) (k : Nat → ClassId) (p0 : Int32) (p1 : Int32) : Met l yX8_isStep vs_X8_isStep ({ frames := 1, cells := 0, slots := 0, locals := 21 }) (va_Pc [.ref (a 0), .int p0, .int p1] (pu_B (dC, dI) (wX a k) (tX k) sz)) (va_Qi (fun (r : Int32) (_ : Unit) => r = 0) (fun _ _ => True) (va_A [] sz)) 0 0 (va_A [] sz) := by
  refine Met.ofW (cc := cX8_isStep) (maxL := 3) (ret := (some .boolean)) (by decide) rfl ?_
  intro p e s m args below meth c s₁ B hml hv
  obtain ⟨rfl, rfl, hP, hK, hD0⟩ := hv
  have hx := B.exec
  have hb := B.bytes
  have hr := B.returns
  have hts := atoms_spec (ws := vs_X8_isStep) B.pre
  have hown : s.vm.findClass RX8 = some m.cls := findClass_of_methodNamed B.named
  have hlocks := B.notSynchronized
  have hD := hD0
  have hA : ∀ q : Nat, s.heap.size ≤ q → va_A [] s.heap.size q := fun _ h => Or.inr h
  have hS : va_S (va_A [] s.heap.size) s.heap s.heap [] := va_S.rf
  have hl := lv_entry ([.ref (a 0), .int p0, .int p1]) (n := 3) (Nat.le_of_ble_eq_true rfl)
  rw [lg_entry_eq]
  generalize (lg_sl ([.ref (a 0), .int p0, .int p1]) ++ List.replicate (3 - (lg_sl ([.ref (a 0), .int p0, .int p1])).length) Slot.unset).toArray = ls at hl ⊢
  have hl : lv_has ls 3 [(0, .ref (a 0)), (1, .int p0), (2, .int p1)] := hl
  refine lv_aload_n hx hb dX8_isStep_0 rfl (lv_at hl 0 rfl) ?_
  refine lv_iload_n hx hb dX8_isStep_1 rfl (lv_at hl 1 rfl) ?_
  refine va_calli (va_runV (As := [.int p0]) (rest := []) ⟨hx, hb, hml, hown, hts⟩ (c_X8_isState l dC dI _ a k p0) (cwV 1 hts g_X8_isStep_X8_isState rfl rfl rfl (by decide +kernel) ⟨Nat.le_of_ble_eq_true rfl, Nat.le_of_ble_eq_true rfl⟩) ⟨pu_bl, va_recv hK hP (ci := 8) (q0 := 0) rfl rfl, pu_in hP hK hD⟩ rfl rfl hl.1 rfl (lv_room (Nat.le_of_ble_eq_true rfl)) dX8_isStep_2 ⟨Nat.le_of_ble_eq_true rfl, Nat.le_of_ble_eq_true rfl⟩) hS (fun q _ h => pu_fr hS hA q h) (pu_fr hS hA) (fun r_1 u t H1 locs ht hvm hw hB hz1 hk1 hS => ?_)
  have hP := pu_keep hP hk1
  clear hk1 hz1 hB ht hvm
  generalize H1 = H at hP hS ⊢
  obtain rfl : r_1 = 0 := hw
  refine lv_if_eq (tgt := 29) hx hb dX8_isStep_5 (by decide) (fun _ => ?_) (fun z => absurd z (by decide))
  refine lv_iconst (v := 0) hx hb dX8_isStep_29 (by decide) ?_
  exact W.zret (v := 0) (ty := .boolean) hx hb hr rfl (fun t ht hW => ⟨⟨0, (), rfl, by first | rfl | decide | simp_all, trivial⟩, hS.F ht⟩) hS.2.2 dX8_isStep_30
theorem dX0_allConditions_0 : decode cX0_allConditions 0 = .ok (.iconst 0, 1) := by decide +kernel
theorem dX0_allConditions_1 : decode cX0_allConditions 1 = .ok (.istore_n 1, 1) := by decide +kernel
theorem dX0_allConditions_2 : decode cX0_allConditions 2 = .ok (.iconst 0, 1) := by decide +kernel
theorem dX0_allConditions_3 : decode cX0_allConditions 3 = .ok (.istore_n 2, 1) := by decide +kernel
theorem dX0_allConditions_4 : decode cX0_allConditions 4 = .ok (.iload_n 2, 1) := by decide +kernel
theorem dX0_allConditions_5 : decode cX0_allConditions 5 = .ok (.bipush 22, 2) := by decide +kernel
theorem dX0_allConditions_7 : decode cX0_allConditions 7 = .ok (.if_icmp .ge 18, 3) := by decide +kernel
theorem dX0_allConditions_10 : decode cX0_allConditions 10 = .ok (.iload_n 1, 1) := by decide +kernel
theorem dX0_allConditions_11 : decode cX0_allConditions 11 = .ok (.aload_n 0, 1) := by decide +kernel
theorem dX0_allConditions_12 : decode cX0_allConditions 12 = .ok (.getfield 29, 3) := by decide +kernel
theorem dX0_allConditions_15 : decode cX0_allConditions 15 = .ok (.iload_n 2, 1) := by decide +kernel
theorem dX0_allConditions_16 : decode cX0_allConditions 16 = .ok (.iaload, 1) := by decide +kernel
theorem dX0_allConditions_17 : decode cX0_allConditions 17 = .ok (.iadd, 1) := by decide +kernel
theorem dX0_allConditions_18 : decode cX0_allConditions 18 = .ok (.istore_n 1, 1) := by decide +kernel
theorem dX0_allConditions_19 : decode cX0_allConditions 19 = .ok (.iinc 2 1, 3) := by decide +kernel
theorem dX0_allConditions_22 : decode cX0_allConditions 22 = .ok (.goto (-18), 3) := by decide +kernel
theorem dX0_allConditions_25 : decode cX0_allConditions 25 = .ok (.iload_n 1, 1) := by decide +kernel
theorem dX0_allConditions_26 : decode cX0_allConditions 26 = .ok (.ireturn, 1) := by decide +kernel
def vs_X0_allConditions : List Cond := .code yX0_allConditions cX0_allConditions 3 (some .int) :: ([.fieldLink RX0 29 "ClockReach$Automaton" "counts" "[I"] ++ wsX00)
set_option maxHeartbeats 4000000 in
set_option maxRecDepth 100000 in
theorem c_X0_allConditions (l : Launch) (dC : Nat → ClassId) (dI : Nat → Nat → Nat) (sz : Nat) (a : Nat → Nat) (k : Nat → ClassId) : Met l yX0_allConditions vs_X0_allConditions ({ frames := 0, cells := 0, slots := 0, locals := 0 }) (va_Pc [.ref (a 1)] (pu_B (dC, dI) (wX a k) (tX k) sz)) (va_Qi (fun (r : Int32) (_ : Unit) => r = 0) (fun _ _ => True) (va_A [] sz)) 0 0 (va_A [] sz) := by
  refine Met.ofW (cc := cX0_allConditions) (maxL := 3) (ret := (some .int)) (by decide) rfl ?_
  intro p e s m args below meth c s₁ B hml hv
  obtain ⟨rfl, rfl, hP, hK, hD0⟩ := hv
  have hx := B.exec
  have hb := B.bytes
  have hr := B.returns
  have hts := atoms_spec (ws := vs_X0_allConditions) B.pre
  have v_1 := hts (.fieldLink RX0 29 "ClockReach$Automaton" "counts" "[I") (List.mem_of_getElem? (i := 1) rfl)
  have hown : s.vm.findClass RX0 = some m.cls := findClass_of_methodNamed B.named
  have hlocks := B.notSynchronized
  have hiX0 : ∀ w ∈ wsX00, w ∈ vs_X0_allConditions := fun _ h => List.mem_cons_of_mem _ (List.mem_append_right _ h)
  have hD := hD0
  have hA : ∀ q : Nat, s.heap.size ≤ q → va_A [] s.heap.size q := fun _ h => Or.inr h
  have hS : va_S (va_A [] s.heap.size) s.heap s.heap [] := va_S.rf
  have hl := lv_entry ([.ref (a 1)]) (n := 3) (Nat.le_of_ble_eq_true rfl)
  rw [lg_entry_eq]
  generalize (lg_sl ([.ref (a 1)]) ++ List.replicate (3 - (lg_sl ([.ref (a 1)])).length) Slot.unset).toArray = ls at hl ⊢
  have hl : lv_has ls 3 [(0, .ref (a 1))] := hl
  refine lv_iconst (v := 0) hx hb dX0_allConditions_0 (by decide) ?_
  refine lv_istore_n (lv' := [(1, .int 0), (0, .ref (a 1))]) hx hb dX0_allConditions_1 rfl hl (by decide) rfl (fun ls hl => ?_)
  refine lv_iconst (v := 0) hx hb dX0_allConditions_2 (by decide) ?_
  refine lv_istore_n (lv' := [(2, .int 0), (1, .int 0), (0, .ref (a 1))]) hx hb dX0_allConditions_3 rfl hl (by decide) rfl (fun ls hl => ?_)
  refine lv_iload_n hx hb dX0_allConditions_4 rfl (lv_at hl 0 rfl) ?_
  refine lv_bipush (v := 22) hx hb dX0_allConditions_5 (by decide) ?_
  refine lv_icmp_ge (tgt := 25) hx hb dX0_allConditions_7 (by decide) (fun z => absurd z (by decide)) (fun _ => ?_)
  refine lv_iload_n hx hb dX0_allConditions_10 rfl (lv_at hl 1 rfl) ?_
  refine lv_aload_n hx hb dX0_allConditions_11 rfl (lv_at hl 2 rfl) ?_
  refine va_get (D := (dC, dI)) (ci := 0) (v := .ref (a 7)) (C := RX0) (T := TX0) (N := 17) hx hb hts hiX0 hown hK hP 1 rfl rfl 8 (by decide) v_1 (fun _ h9 => h9) rfl dX0_allConditions_12 ?_
  refine lv_iload_n hx hb dX0_allConditions_15 rfl (lv_at hl 0 rfl) ?_
  refine va_iald hx hb hK hP 7 1 rfl rfl (show ¬ (_ ∨ _) by decide) dX0_allConditions_16 ?_
  refine lv_topi (fun y_1 ey_1 => ?_)
  obtain rfl : y_1 = 0 := ey_1.trans (by first | rfl | decide)
  refine lv_iadd hx hb dX0_allConditions_17 ?_
  refine lv_topi (fun y_2 ey_2 => ?_)
  obtain rfl : y_2 = 0 := ey_2.trans (by decide)
  refine lv_istore_n (lv' := [(1, .int 0), (2, .int 0), (0, .ref (a 1))]) hx hb dX0_allConditions_18 rfl hl (by decide) rfl (fun ls hl => ?_)
  refine lv_iinc (v := 1) (lv' := [(2, .int 1), (1, .int 0), (0, .ref (a 1))]) hx hb dX0_allConditions_19 hl (k := 1) rfl (by decide) (by decide) rfl (fun ls hl => ?_)
  refine lv_goto (tgt := 4) hx hb dX0_allConditions_22 (by decide) ?_
  refine lv_iload_n hx hb dX0_allConditions_4 rfl (lv_at hl 0 rfl) ?_
  refine lv_bipush (v := 22) hx hb dX0_allConditions_5 (by decide) ?_
  refine lv_icmp_ge (tgt := 25) hx hb dX0_allConditions_7 (by decide) (fun z => absurd z (by decide)) (fun _ => ?_)
  refine lv_iload_n hx hb dX0_allConditions_10 rfl (lv_at hl 1 rfl) ?_
  refine lv_aload_n hx hb dX0_allConditions_11 rfl (lv_at hl 2 rfl) ?_
  refine va_get (D := (dC, dI)) (ci := 0) (v := .ref (a 7)) (C := RX0) (T := TX0) (N := 17) hx hb hts hiX0 hown hK hP 1 rfl rfl 8 (by decide) v_1 (fun _ h9 => h9) rfl dX0_allConditions_12 ?_
  refine lv_iload_n hx hb dX0_allConditions_15 rfl (lv_at hl 0 rfl) ?_
  refine va_iald hx hb hK hP 7 1 rfl rfl (show ¬ (_ ∨ _) by decide) dX0_allConditions_16 ?_
  refine lv_topi (fun y_3 ey_3 => ?_)
  obtain rfl : y_3 = 0 := ey_3.trans (by first | rfl | decide)
  refine lv_iadd hx hb dX0_allConditions_17 ?_
  refine lv_topi (fun y_4 ey_4 => ?_)
  obtain rfl : y_4 = 0 := ey_4.trans (by decide)
  refine lv_istore_n (lv' := [(1, .int 0), (2, .int 1), (0, .ref (a 1))]) hx hb dX0_allConditions_18 rfl hl (by decide) rfl (fun ls hl => ?_)
  refine lv_iinc (v := 2) (lv' := [(2, .int 2), (1, .int 0), (0, .ref (a 1))]) hx hb dX0_allConditions_19 hl (k := 1) rfl (by decide) (by decide) rfl (fun ls hl => ?_)
  refine lv_goto (tgt := 4) hx hb dX0_allConditions_22 (by decide) ?_
  refine lv_iload_n hx hb dX0_allConditions_4 rfl (lv_at hl 0 rfl) ?_
  refine lv_bipush (v := 22) hx hb dX0_allConditions_5 (by decide) ?_
  refine lv_icmp_ge (tgt := 25) hx hb dX0_allConditions_7 (by decide) (fun z => absurd z (by decide)) (fun _ => ?_)
  refine lv_iload_n hx hb dX0_allConditions_10 rfl (lv_at hl 1 rfl) ?_
  refine lv_aload_n hx hb dX0_allConditions_11 rfl (lv_at hl 2 rfl) ?_
  refine va_get (D := (dC, dI)) (ci := 0) (v := .ref (a 7)) (C := RX0) (T := TX0) (N := 17) hx hb hts hiX0 hown hK hP 1 rfl rfl 8 (by decide) v_1 (fun _ h9 => h9) rfl dX0_allConditions_12 ?_
  refine lv_iload_n hx hb dX0_allConditions_15 rfl (lv_at hl 0 rfl) ?_
  refine va_iald hx hb hK hP 7 1 rfl rfl (show ¬ (_ ∨ _) by decide) dX0_allConditions_16 ?_
  refine lv_topi (fun y_5 ey_5 => ?_)
  obtain rfl : y_5 = 0 := ey_5.trans (by first | rfl | decide)
  refine lv_iadd hx hb dX0_allConditions_17 ?_
  refine lv_topi (fun y_6 ey_6 => ?_)
  obtain rfl : y_6 = 0 := ey_6.trans (by decide)
  refine lv_istore_n (lv' := [(1, .int 0), (2, .int 2), (0, .ref (a 1))]) hx hb dX0_allConditions_18 rfl hl (by decide) rfl (fun ls hl => ?_)
  refine lv_iinc (v := 3) (lv' := [(2, .int 3), (1, .int 0), (0, .ref (a 1))]) hx hb dX0_allConditions_19 hl (k := 1) rfl (by decide) (by decide) rfl (fun ls hl => ?_)
  refine lv_goto (tgt := 4) hx hb dX0_allConditions_22 (by decide) ?_
  refine lv_iload_n hx hb dX0_allConditions_4 rfl (lv_at hl 0 rfl) ?_
  refine lv_bipush (v := 22) hx hb dX0_allConditions_5 (by decide) ?_
  refine lv_icmp_ge (tgt := 25) hx hb dX0_allConditions_7 (by decide) (fun z => absurd z (by decide)) (fun _ => ?_)
  refine lv_iload_n hx hb dX0_allConditions_10 rfl (lv_at hl 1 rfl) ?_
  refine lv_aload_n hx hb dX0_allConditions_11 rfl (lv_at hl 2 rfl) ?_
  refine va_get (D := (dC, dI)) (ci := 0) (v := .ref (a 7)) (C := RX0) (T := TX0) (N := 17) hx hb hts hiX0 hown hK hP 1 rfl rfl 8 (by decide) v_1 (fun _ h9 => h9) rfl dX0_allConditions_12 ?_
  refine lv_iload_n hx hb dX0_allConditions_15 rfl (lv_at hl 0 rfl) ?_
  refine va_iald hx hb hK hP 7 1 rfl rfl (show ¬ (_ ∨ _) by decide) dX0_allConditions_16 ?_
  refine lv_topi (fun y_7 ey_7 => ?_)
  obtain rfl : y_7 = 0 := ey_7.trans (by first | rfl | decide)
  refine lv_iadd hx hb dX0_allConditions_17 ?_
  refine lv_topi (fun y_8 ey_8 => ?_)
  obtain rfl : y_8 = 0 := ey_8.trans (by decide)
  refine lv_istore_n (lv' := [(1, .int 0), (2, .int 3), (0, .ref (a 1))]) hx hb dX0_allConditions_18 rfl hl (by decide) rfl (fun ls hl => ?_)
  refine lv_iinc (v := 4) (lv' := [(2, .int 4), (1, .int 0), (0, .ref (a 1))]) hx hb dX0_allConditions_19 hl (k := 1) rfl (by decide) (by decide) rfl (fun ls hl => ?_)
  refine lv_goto (tgt := 4) hx hb dX0_allConditions_22 (by decide) ?_
  refine lv_iload_n hx hb dX0_allConditions_4 rfl (lv_at hl 0 rfl) ?_
  refine lv_bipush (v := 22) hx hb dX0_allConditions_5 (by decide) ?_
  refine lv_icmp_ge (tgt := 25) hx hb dX0_allConditions_7 (by decide) (fun z => absurd z (by decide)) (fun _ => ?_)
  refine lv_iload_n hx hb dX0_allConditions_10 rfl (lv_at hl 1 rfl) ?_
  refine lv_aload_n hx hb dX0_allConditions_11 rfl (lv_at hl 2 rfl) ?_
  refine va_get (D := (dC, dI)) (ci := 0) (v := .ref (a 7)) (C := RX0) (T := TX0) (N := 17) hx hb hts hiX0 hown hK hP 1 rfl rfl 8 (by decide) v_1 (fun _ h9 => h9) rfl dX0_allConditions_12 ?_
  refine lv_iload_n hx hb dX0_allConditions_15 rfl (lv_at hl 0 rfl) ?_
  refine va_iald hx hb hK hP 7 1 rfl rfl (show ¬ (_ ∨ _) by decide) dX0_allConditions_16 ?_
  refine lv_topi (fun y_9 ey_9 => ?_)
  obtain rfl : y_9 = 0 := ey_9.trans (by first | rfl | decide)
  refine lv_iadd hx hb dX0_allConditions_17 ?_
  refine lv_topi (fun y_10 ey_10 => ?_)
  obtain rfl : y_10 = 0 := ey_10.trans (by decide)
  refine lv_istore_n (lv' := [(1, .int 0), (2, .int 4), (0, .ref (a 1))]) hx hb dX0_allConditions_18 rfl hl (by decide) rfl (fun ls hl => ?_)
  refine lv_iinc (v := 5) (lv' := [(2, .int 5), (1, .int 0), (0, .ref (a 1))]) hx hb dX0_allConditions_19 hl (k := 1) rfl (by decide) (by decide) rfl (fun ls hl => ?_)
  refine lv_goto (tgt := 4) hx hb dX0_allConditions_22 (by decide) ?_
  refine lv_iload_n hx hb dX0_allConditions_4 rfl (lv_at hl 0 rfl) ?_
  refine lv_bipush (v := 22) hx hb dX0_allConditions_5 (by decide) ?_
  refine lv_icmp_ge (tgt := 25) hx hb dX0_allConditions_7 (by decide) (fun z => absurd z (by decide)) (fun _ => ?_)
  refine lv_iload_n hx hb dX0_allConditions_10 rfl (lv_at hl 1 rfl) ?_
  refine lv_aload_n hx hb dX0_allConditions_11 rfl (lv_at hl 2 rfl) ?_
  refine va_get (D := (dC, dI)) (ci := 0) (v := .ref (a 7)) (C := RX0) (T := TX0) (N := 17) hx hb hts hiX0 hown hK hP 1 rfl rfl 8 (by decide) v_1 (fun _ h9 => h9) rfl dX0_allConditions_12 ?_
  refine lv_iload_n hx hb dX0_allConditions_15 rfl (lv_at hl 0 rfl) ?_
  refine va_iald hx hb hK hP 7 1 rfl rfl (show ¬ (_ ∨ _) by decide) dX0_allConditions_16 ?_
  refine lv_topi (fun y_11 ey_11 => ?_)
  obtain rfl : y_11 = 0 := ey_11.trans (by first | rfl | decide)
  refine lv_iadd hx hb dX0_allConditions_17 ?_
  refine lv_topi (fun y_12 ey_12 => ?_)
  obtain rfl : y_12 = 0 := ey_12.trans (by decide)
  refine lv_istore_n (lv' := [(1, .int 0), (2, .int 5), (0, .ref (a 1))]) hx hb dX0_allConditions_18 rfl hl (by decide) rfl (fun ls hl => ?_)
  refine lv_iinc (v := 6) (lv' := [(2, .int 6), (1, .int 0), (0, .ref (a 1))]) hx hb dX0_allConditions_19 hl (k := 1) rfl (by decide) (by decide) rfl (fun ls hl => ?_)
  refine lv_goto (tgt := 4) hx hb dX0_allConditions_22 (by decide) ?_
  refine lv_iload_n hx hb dX0_allConditions_4 rfl (lv_at hl 0 rfl) ?_
  refine lv_bipush (v := 22) hx hb dX0_allConditions_5 (by decide) ?_
  refine lv_icmp_ge (tgt := 25) hx hb dX0_allConditions_7 (by decide) (fun z => absurd z (by decide)) (fun _ => ?_)
  refine lv_iload_n hx hb dX0_allConditions_10 rfl (lv_at hl 1 rfl) ?_
  refine lv_aload_n hx hb dX0_allConditions_11 rfl (lv_at hl 2 rfl) ?_
  refine va_get (D := (dC, dI)) (ci := 0) (v := .ref (a 7)) (C := RX0) (T := TX0) (N := 17) hx hb hts hiX0 hown hK hP 1 rfl rfl 8 (by decide) v_1 (fun _ h9 => h9) rfl dX0_allConditions_12 ?_
  refine lv_iload_n hx hb dX0_allConditions_15 rfl (lv_at hl 0 rfl) ?_
  refine va_iald hx hb hK hP 7 1 rfl rfl (show ¬ (_ ∨ _) by decide) dX0_allConditions_16 ?_
  refine lv_topi (fun y_13 ey_13 => ?_)
  obtain rfl : y_13 = 0 := ey_13.trans (by first | rfl | decide)
  refine lv_iadd hx hb dX0_allConditions_17 ?_
  refine lv_topi (fun y_14 ey_14 => ?_)
  obtain rfl : y_14 = 0 := ey_14.trans (by decide)
  refine lv_istore_n (lv' := [(1, .int 0), (2, .int 6), (0, .ref (a 1))]) hx hb dX0_allConditions_18 rfl hl (by decide) rfl (fun ls hl => ?_)
  refine lv_iinc (v := 7) (lv' := [(2, .int 7), (1, .int 0), (0, .ref (a 1))]) hx hb dX0_allConditions_19 hl (k := 1) rfl (by decide) (by decide) rfl (fun ls hl => ?_)
  refine lv_goto (tgt := 4) hx hb dX0_allConditions_22 (by decide) ?_
  refine lv_iload_n hx hb dX0_allConditions_4 rfl (lv_at hl 0 rfl) ?_
  refine lv_bipush (v := 22) hx hb dX0_allConditions_5 (by decide) ?_
  refine lv_icmp_ge (tgt := 25) hx hb dX0_allConditions_7 (by decide) (fun z => absurd z (by decide)) (fun _ => ?_)
  refine lv_iload_n hx hb dX0_allConditions_10 rfl (lv_at hl 1 rfl) ?_
  refine lv_aload_n hx hb dX0_allConditions_11 rfl (lv_at hl 2 rfl) ?_
  refine va_get (D := (dC, dI)) (ci := 0) (v := .ref (a 7)) (C := RX0) (T := TX0) (N := 17) hx hb hts hiX0 hown hK hP 1 rfl rfl 8 (by decide) v_1 (fun _ h9 => h9) rfl dX0_allConditions_12 ?_
  refine lv_iload_n hx hb dX0_allConditions_15 rfl (lv_at hl 0 rfl) ?_
  refine va_iald hx hb hK hP 7 1 rfl rfl (show ¬ (_ ∨ _) by decide) dX0_allConditions_16 ?_
  refine lv_topi (fun y_15 ey_15 => ?_)
  obtain rfl : y_15 = 0 := ey_15.trans (by first | rfl | decide)
  refine lv_iadd hx hb dX0_allConditions_17 ?_
  refine lv_topi (fun y_16 ey_16 => ?_)
  obtain rfl : y_16 = 0 := ey_16.trans (by decide)
  refine lv_istore_n (lv' := [(1, .int 0), (2, .int 7), (0, .ref (a 1))]) hx hb dX0_allConditions_18 rfl hl (by decide) rfl (fun ls hl => ?_)
  refine lv_iinc (v := 8) (lv' := [(2, .int 8), (1, .int 0), (0, .ref (a 1))]) hx hb dX0_allConditions_19 hl (k := 1) rfl (by decide) (by decide) rfl (fun ls hl => ?_)
  refine lv_goto (tgt := 4) hx hb dX0_allConditions_22 (by decide) ?_
  refine lv_iload_n hx hb dX0_allConditions_4 rfl (lv_at hl 0 rfl) ?_
  refine lv_bipush (v := 22) hx hb dX0_allConditions_5 (by decide) ?_
  refine lv_icmp_ge (tgt := 25) hx hb dX0_allConditions_7 (by decide) (fun z => absurd z (by decide)) (fun _ => ?_)
  refine lv_iload_n hx hb dX0_allConditions_10 rfl (lv_at hl 1 rfl) ?_
  refine lv_aload_n hx hb dX0_allConditions_11 rfl (lv_at hl 2 rfl) ?_
  refine va_get (D := (dC, dI)) (ci := 0) (v := .ref (a 7)) (C := RX0) (T := TX0) (N := 17) hx hb hts hiX0 hown hK hP 1 rfl rfl 8 (by decide) v_1 (fun _ h9 => h9) rfl dX0_allConditions_12 ?_
  refine lv_iload_n hx hb dX0_allConditions_15 rfl (lv_at hl 0 rfl) ?_
  refine va_iald hx hb hK hP 7 1 rfl rfl (show ¬ (_ ∨ _) by decide) dX0_allConditions_16 ?_
  refine lv_topi (fun y_17 ey_17 => ?_)
  obtain rfl : y_17 = 0 := ey_17.trans (by first | rfl | decide)
  refine lv_iadd hx hb dX0_allConditions_17 ?_
  refine lv_topi (fun y_18 ey_18 => ?_)
  obtain rfl : y_18 = 0 := ey_18.trans (by decide)
  refine lv_istore_n (lv' := [(1, .int 0), (2, .int 8), (0, .ref (a 1))]) hx hb dX0_allConditions_18 rfl hl (by decide) rfl (fun ls hl => ?_)
  refine lv_iinc (v := 9) (lv' := [(2, .int 9), (1, .int 0), (0, .ref (a 1))]) hx hb dX0_allConditions_19 hl (k := 1) rfl (by decide) (by decide) rfl (fun ls hl => ?_)
  refine lv_goto (tgt := 4) hx hb dX0_allConditions_22 (by decide) ?_
  refine lv_iload_n hx hb dX0_allConditions_4 rfl (lv_at hl 0 rfl) ?_
  refine lv_bipush (v := 22) hx hb dX0_allConditions_5 (by decide) ?_
  refine lv_icmp_ge (tgt := 25) hx hb dX0_allConditions_7 (by decide) (fun z => absurd z (by decide)) (fun _ => ?_)
  refine lv_iload_n hx hb dX0_allConditions_10 rfl (lv_at hl 1 rfl) ?_
  refine lv_aload_n hx hb dX0_allConditions_11 rfl (lv_at hl 2 rfl) ?_
  refine va_get (D := (dC, dI)) (ci := 0) (v := .ref (a 7)) (C := RX0) (T := TX0) (N := 17) hx hb hts hiX0 hown hK hP 1 rfl rfl 8 (by decide) v_1 (fun _ h9 => h9) rfl dX0_allConditions_12 ?_
  refine lv_iload_n hx hb dX0_allConditions_15 rfl (lv_at hl 0 rfl) ?_
  refine va_iald hx hb hK hP 7 1 rfl rfl (show ¬ (_ ∨ _) by decide) dX0_allConditions_16 ?_
  refine lv_topi (fun y_19 ey_19 => ?_)
  obtain rfl : y_19 = 0 := ey_19.trans (by first | rfl | decide)
  refine lv_iadd hx hb dX0_allConditions_17 ?_
  refine lv_topi (fun y_20 ey_20 => ?_)
  obtain rfl : y_20 = 0 := ey_20.trans (by decide)
  refine lv_istore_n (lv' := [(1, .int 0), (2, .int 9), (0, .ref (a 1))]) hx hb dX0_allConditions_18 rfl hl (by decide) rfl (fun ls hl => ?_)
  refine lv_iinc (v := 10) (lv' := [(2, .int 10), (1, .int 0), (0, .ref (a 1))]) hx hb dX0_allConditions_19 hl (k := 1) rfl (by decide) (by decide) rfl (fun ls hl => ?_)
  refine lv_goto (tgt := 4) hx hb dX0_allConditions_22 (by decide) ?_
  refine lv_iload_n hx hb dX0_allConditions_4 rfl (lv_at hl 0 rfl) ?_
  refine lv_bipush (v := 22) hx hb dX0_allConditions_5 (by decide) ?_
  refine lv_icmp_ge (tgt := 25) hx hb dX0_allConditions_7 (by decide) (fun z => absurd z (by decide)) (fun _ => ?_)
  refine lv_iload_n hx hb dX0_allConditions_10 rfl (lv_at hl 1 rfl) ?_
  refine lv_aload_n hx hb dX0_allConditions_11 rfl (lv_at hl 2 rfl) ?_
  refine va_get (D := (dC, dI)) (ci := 0) (v := .ref (a 7)) (C := RX0) (T := TX0) (N := 17) hx hb hts hiX0 hown hK hP 1 rfl rfl 8 (by decide) v_1 (fun _ h9 => h9) rfl dX0_allConditions_12 ?_
  refine lv_iload_n hx hb dX0_allConditions_15 rfl (lv_at hl 0 rfl) ?_
  refine va_iald hx hb hK hP 7 1 rfl rfl (show ¬ (_ ∨ _) by decide) dX0_allConditions_16 ?_
  refine lv_topi (fun y_21 ey_21 => ?_)
  obtain rfl : y_21 = 0 := ey_21.trans (by first | rfl | decide)
  refine lv_iadd hx hb dX0_allConditions_17 ?_
  refine lv_topi (fun y_22 ey_22 => ?_)
  obtain rfl : y_22 = 0 := ey_22.trans (by decide)
  refine lv_istore_n (lv' := [(1, .int 0), (2, .int 10), (0, .ref (a 1))]) hx hb dX0_allConditions_18 rfl hl (by decide) rfl (fun ls hl => ?_)
  refine lv_iinc (v := 11) (lv' := [(2, .int 11), (1, .int 0), (0, .ref (a 1))]) hx hb dX0_allConditions_19 hl (k := 1) rfl (by decide) (by decide) rfl (fun ls hl => ?_)
  refine lv_goto (tgt := 4) hx hb dX0_allConditions_22 (by decide) ?_
  refine lv_iload_n hx hb dX0_allConditions_4 rfl (lv_at hl 0 rfl) ?_
  refine lv_bipush (v := 22) hx hb dX0_allConditions_5 (by decide) ?_
  refine lv_icmp_ge (tgt := 25) hx hb dX0_allConditions_7 (by decide) (fun z => absurd z (by decide)) (fun _ => ?_)
  refine lv_iload_n hx hb dX0_allConditions_10 rfl (lv_at hl 1 rfl) ?_
  refine lv_aload_n hx hb dX0_allConditions_11 rfl (lv_at hl 2 rfl) ?_
  refine va_get (D := (dC, dI)) (ci := 0) (v := .ref (a 7)) (C := RX0) (T := TX0) (N := 17) hx hb hts hiX0 hown hK hP 1 rfl rfl 8 (by decide) v_1 (fun _ h9 => h9) rfl dX0_allConditions_12 ?_
  refine lv_iload_n hx hb dX0_allConditions_15 rfl (lv_at hl 0 rfl) ?_
  refine va_iald hx hb hK hP 7 1 rfl rfl (show ¬ (_ ∨ _) by decide) dX0_allConditions_16 ?_
  refine lv_topi (fun y_23 ey_23 => ?_)
  obtain rfl : y_23 = 0 := ey_23.trans (by first | rfl | decide)
  refine lv_iadd hx hb dX0_allConditions_17 ?_
  refine lv_topi (fun y_24 ey_24 => ?_)
  obtain rfl : y_24 = 0 := ey_24.trans (by decide)
  refine lv_istore_n (lv' := [(1, .int 0), (2, .int 11), (0, .ref (a 1))]) hx hb dX0_allConditions_18 rfl hl (by decide) rfl (fun ls hl => ?_)
  refine lv_iinc (v := 12) (lv' := [(2, .int 12), (1, .int 0), (0, .ref (a 1))]) hx hb dX0_allConditions_19 hl (k := 1) rfl (by decide) (by decide) rfl (fun ls hl => ?_)
  refine lv_goto (tgt := 4) hx hb dX0_allConditions_22 (by decide) ?_
  refine lv_iload_n hx hb dX0_allConditions_4 rfl (lv_at hl 0 rfl) ?_
  refine lv_bipush (v := 22) hx hb dX0_allConditions_5 (by decide) ?_
  refine lv_icmp_ge (tgt := 25) hx hb dX0_allConditions_7 (by decide) (fun z => absurd z (by decide)) (fun _ => ?_)
  refine lv_iload_n hx hb dX0_allConditions_10 rfl (lv_at hl 1 rfl) ?_
  refine lv_aload_n hx hb dX0_allConditions_11 rfl (lv_at hl 2 rfl) ?_
  refine va_get (D := (dC, dI)) (ci := 0) (v := .ref (a 7)) (C := RX0) (T := TX0) (N := 17) hx hb hts hiX0 hown hK hP 1 rfl rfl 8 (by decide) v_1 (fun _ h9 => h9) rfl dX0_allConditions_12 ?_
  refine lv_iload_n hx hb dX0_allConditions_15 rfl (lv_at hl 0 rfl) ?_
  refine va_iald hx hb hK hP 7 1 rfl rfl (show ¬ (_ ∨ _) by decide) dX0_allConditions_16 ?_
  refine lv_topi (fun y_25 ey_25 => ?_)
  obtain rfl : y_25 = 0 := ey_25.trans (by first | rfl | decide)
  refine lv_iadd hx hb dX0_allConditions_17 ?_
  refine lv_topi (fun y_26 ey_26 => ?_)
  obtain rfl : y_26 = 0 := ey_26.trans (by decide)
  refine lv_istore_n (lv' := [(1, .int 0), (2, .int 12), (0, .ref (a 1))]) hx hb dX0_allConditions_18 rfl hl (by decide) rfl (fun ls hl => ?_)
  refine lv_iinc (v := 13) (lv' := [(2, .int 13), (1, .int 0), (0, .ref (a 1))]) hx hb dX0_allConditions_19 hl (k := 1) rfl (by decide) (by decide) rfl (fun ls hl => ?_)
  refine lv_goto (tgt := 4) hx hb dX0_allConditions_22 (by decide) ?_
  refine lv_iload_n hx hb dX0_allConditions_4 rfl (lv_at hl 0 rfl) ?_
  refine lv_bipush (v := 22) hx hb dX0_allConditions_5 (by decide) ?_
  refine lv_icmp_ge (tgt := 25) hx hb dX0_allConditions_7 (by decide) (fun z => absurd z (by decide)) (fun _ => ?_)
  refine lv_iload_n hx hb dX0_allConditions_10 rfl (lv_at hl 1 rfl) ?_
  refine lv_aload_n hx hb dX0_allConditions_11 rfl (lv_at hl 2 rfl) ?_
  refine va_get (D := (dC, dI)) (ci := 0) (v := .ref (a 7)) (C := RX0) (T := TX0) (N := 17) hx hb hts hiX0 hown hK hP 1 rfl rfl 8 (by decide) v_1 (fun _ h9 => h9) rfl dX0_allConditions_12 ?_
  refine lv_iload_n hx hb dX0_allConditions_15 rfl (lv_at hl 0 rfl) ?_
  refine va_iald hx hb hK hP 7 1 rfl rfl (show ¬ (_ ∨ _) by decide) dX0_allConditions_16 ?_
  refine lv_topi (fun y_27 ey_27 => ?_)
  obtain rfl : y_27 = 0 := ey_27.trans (by first | rfl | decide)
  refine lv_iadd hx hb dX0_allConditions_17 ?_
  refine lv_topi (fun y_28 ey_28 => ?_)
  obtain rfl : y_28 = 0 := ey_28.trans (by decide)
  refine lv_istore_n (lv' := [(1, .int 0), (2, .int 13), (0, .ref (a 1))]) hx hb dX0_allConditions_18 rfl hl (by decide) rfl (fun ls hl => ?_)
  refine lv_iinc (v := 14) (lv' := [(2, .int 14), (1, .int 0), (0, .ref (a 1))]) hx hb dX0_allConditions_19 hl (k := 1) rfl (by decide) (by decide) rfl (fun ls hl => ?_)
  refine lv_goto (tgt := 4) hx hb dX0_allConditions_22 (by decide) ?_
  refine lv_iload_n hx hb dX0_allConditions_4 rfl (lv_at hl 0 rfl) ?_
  refine lv_bipush (v := 22) hx hb dX0_allConditions_5 (by decide) ?_
  refine lv_icmp_ge (tgt := 25) hx hb dX0_allConditions_7 (by decide) (fun z => absurd z (by decide)) (fun _ => ?_)
  refine lv_iload_n hx hb dX0_allConditions_10 rfl (lv_at hl 1 rfl) ?_
  refine lv_aload_n hx hb dX0_allConditions_11 rfl (lv_at hl 2 rfl) ?_
  refine va_get (D := (dC, dI)) (ci := 0) (v := .ref (a 7)) (C := RX0) (T := TX0) (N := 17) hx hb hts hiX0 hown hK hP 1 rfl rfl 8 (by decide) v_1 (fun _ h9 => h9) rfl dX0_allConditions_12 ?_
  refine lv_iload_n hx hb dX0_allConditions_15 rfl (lv_at hl 0 rfl) ?_
  refine va_iald hx hb hK hP 7 1 rfl rfl (show ¬ (_ ∨ _) by decide) dX0_allConditions_16 ?_
  refine lv_topi (fun y_29 ey_29 => ?_)
  obtain rfl : y_29 = 0 := ey_29.trans (by first | rfl | decide)
  refine lv_iadd hx hb dX0_allConditions_17 ?_
  refine lv_topi (fun y_30 ey_30 => ?_)
  obtain rfl : y_30 = 0 := ey_30.trans (by decide)
  refine lv_istore_n (lv' := [(1, .int 0), (2, .int 14), (0, .ref (a 1))]) hx hb dX0_allConditions_18 rfl hl (by decide) rfl (fun ls hl => ?_)
  refine lv_iinc (v := 15) (lv' := [(2, .int 15), (1, .int 0), (0, .ref (a 1))]) hx hb dX0_allConditions_19 hl (k := 1) rfl (by decide) (by decide) rfl (fun ls hl => ?_)
  refine lv_goto (tgt := 4) hx hb dX0_allConditions_22 (by decide) ?_
  refine lv_iload_n hx hb dX0_allConditions_4 rfl (lv_at hl 0 rfl) ?_
  refine lv_bipush (v := 22) hx hb dX0_allConditions_5 (by decide) ?_
  refine lv_icmp_ge (tgt := 25) hx hb dX0_allConditions_7 (by decide) (fun z => absurd z (by decide)) (fun _ => ?_)
  refine lv_iload_n hx hb dX0_allConditions_10 rfl (lv_at hl 1 rfl) ?_
  refine lv_aload_n hx hb dX0_allConditions_11 rfl (lv_at hl 2 rfl) ?_
  refine va_get (D := (dC, dI)) (ci := 0) (v := .ref (a 7)) (C := RX0) (T := TX0) (N := 17) hx hb hts hiX0 hown hK hP 1 rfl rfl 8 (by decide) v_1 (fun _ h9 => h9) rfl dX0_allConditions_12 ?_
  refine lv_iload_n hx hb dX0_allConditions_15 rfl (lv_at hl 0 rfl) ?_
  refine va_iald hx hb hK hP 7 1 rfl rfl (show ¬ (_ ∨ _) by decide) dX0_allConditions_16 ?_
  refine lv_topi (fun y_31 ey_31 => ?_)
  obtain rfl : y_31 = 0 := ey_31.trans (by first | rfl | decide)
  refine lv_iadd hx hb dX0_allConditions_17 ?_
  refine lv_topi (fun y_32 ey_32 => ?_)
  obtain rfl : y_32 = 0 := ey_32.trans (by decide)
  refine lv_istore_n (lv' := [(1, .int 0), (2, .int 15), (0, .ref (a 1))]) hx hb dX0_allConditions_18 rfl hl (by decide) rfl (fun ls hl => ?_)
  refine lv_iinc (v := 16) (lv' := [(2, .int 16), (1, .int 0), (0, .ref (a 1))]) hx hb dX0_allConditions_19 hl (k := 1) rfl (by decide) (by decide) rfl (fun ls hl => ?_)
  refine lv_goto (tgt := 4) hx hb dX0_allConditions_22 (by decide) ?_
  refine lv_iload_n hx hb dX0_allConditions_4 rfl (lv_at hl 0 rfl) ?_
  refine lv_bipush (v := 22) hx hb dX0_allConditions_5 (by decide) ?_
  refine lv_icmp_ge (tgt := 25) hx hb dX0_allConditions_7 (by decide) (fun z => absurd z (by decide)) (fun _ => ?_)
  refine lv_iload_n hx hb dX0_allConditions_10 rfl (lv_at hl 1 rfl) ?_
  refine lv_aload_n hx hb dX0_allConditions_11 rfl (lv_at hl 2 rfl) ?_
  refine va_get (D := (dC, dI)) (ci := 0) (v := .ref (a 7)) (C := RX0) (T := TX0) (N := 17) hx hb hts hiX0 hown hK hP 1 rfl rfl 8 (by decide) v_1 (fun _ h9 => h9) rfl dX0_allConditions_12 ?_
  refine lv_iload_n hx hb dX0_allConditions_15 rfl (lv_at hl 0 rfl) ?_
  refine va_iald hx hb hK hP 7 1 rfl rfl (show ¬ (_ ∨ _) by decide) dX0_allConditions_16 ?_
  refine lv_topi (fun y_33 ey_33 => ?_)
  obtain rfl : y_33 = 0 := ey_33.trans (by first | rfl | decide)
  refine lv_iadd hx hb dX0_allConditions_17 ?_
  refine lv_topi (fun y_34 ey_34 => ?_)
  obtain rfl : y_34 = 0 := ey_34.trans (by decide)
  refine lv_istore_n (lv' := [(1, .int 0), (2, .int 16), (0, .ref (a 1))]) hx hb dX0_allConditions_18 rfl hl (by decide) rfl (fun ls hl => ?_)
  refine lv_iinc (v := 17) (lv' := [(2, .int 17), (1, .int 0), (0, .ref (a 1))]) hx hb dX0_allConditions_19 hl (k := 1) rfl (by decide) (by decide) rfl (fun ls hl => ?_)
  refine lv_goto (tgt := 4) hx hb dX0_allConditions_22 (by decide) ?_
  refine lv_iload_n hx hb dX0_allConditions_4 rfl (lv_at hl 0 rfl) ?_
  refine lv_bipush (v := 22) hx hb dX0_allConditions_5 (by decide) ?_
  refine lv_icmp_ge (tgt := 25) hx hb dX0_allConditions_7 (by decide) (fun z => absurd z (by decide)) (fun _ => ?_)
  refine lv_iload_n hx hb dX0_allConditions_10 rfl (lv_at hl 1 rfl) ?_
  refine lv_aload_n hx hb dX0_allConditions_11 rfl (lv_at hl 2 rfl) ?_
  refine va_get (D := (dC, dI)) (ci := 0) (v := .ref (a 7)) (C := RX0) (T := TX0) (N := 17) hx hb hts hiX0 hown hK hP 1 rfl rfl 8 (by decide) v_1 (fun _ h9 => h9) rfl dX0_allConditions_12 ?_
  refine lv_iload_n hx hb dX0_allConditions_15 rfl (lv_at hl 0 rfl) ?_
  refine va_iald hx hb hK hP 7 1 rfl rfl (show ¬ (_ ∨ _) by decide) dX0_allConditions_16 ?_
  refine lv_topi (fun y_35 ey_35 => ?_)
  obtain rfl : y_35 = 0 := ey_35.trans (by first | rfl | decide)
  refine lv_iadd hx hb dX0_allConditions_17 ?_
  refine lv_topi (fun y_36 ey_36 => ?_)
  obtain rfl : y_36 = 0 := ey_36.trans (by decide)
  refine lv_istore_n (lv' := [(1, .int 0), (2, .int 17), (0, .ref (a 1))]) hx hb dX0_allConditions_18 rfl hl (by decide) rfl (fun ls hl => ?_)
  refine lv_iinc (v := 18) (lv' := [(2, .int 18), (1, .int 0), (0, .ref (a 1))]) hx hb dX0_allConditions_19 hl (k := 1) rfl (by decide) (by decide) rfl (fun ls hl => ?_)
  refine lv_goto (tgt := 4) hx hb dX0_allConditions_22 (by decide) ?_
  refine lv_iload_n hx hb dX0_allConditions_4 rfl (lv_at hl 0 rfl) ?_
  refine lv_bipush (v := 22) hx hb dX0_allConditions_5 (by decide) ?_
  refine lv_icmp_ge (tgt := 25) hx hb dX0_allConditions_7 (by decide) (fun z => absurd z (by decide)) (fun _ => ?_)
  refine lv_iload_n hx hb dX0_allConditions_10 rfl (lv_at hl 1 rfl) ?_
  refine lv_aload_n hx hb dX0_allConditions_11 rfl (lv_at hl 2 rfl) ?_
  refine va_get (D := (dC, dI)) (ci := 0) (v := .ref (a 7)) (C := RX0) (T := TX0) (N := 17) hx hb hts hiX0 hown hK hP 1 rfl rfl 8 (by decide) v_1 (fun _ h9 => h9) rfl dX0_allConditions_12 ?_
  refine lv_iload_n hx hb dX0_allConditions_15 rfl (lv_at hl 0 rfl) ?_
  refine va_iald hx hb hK hP 7 1 rfl rfl (show ¬ (_ ∨ _) by decide) dX0_allConditions_16 ?_
  refine lv_topi (fun y_37 ey_37 => ?_)
  obtain rfl : y_37 = 0 := ey_37.trans (by first | rfl | decide)
  refine lv_iadd hx hb dX0_allConditions_17 ?_
  refine lv_topi (fun y_38 ey_38 => ?_)
  obtain rfl : y_38 = 0 := ey_38.trans (by decide)
  refine lv_istore_n (lv' := [(1, .int 0), (2, .int 18), (0, .ref (a 1))]) hx hb dX0_allConditions_18 rfl hl (by decide) rfl (fun ls hl => ?_)
  refine lv_iinc (v := 19) (lv' := [(2, .int 19), (1, .int 0), (0, .ref (a 1))]) hx hb dX0_allConditions_19 hl (k := 1) rfl (by decide) (by decide) rfl (fun ls hl => ?_)
  refine lv_goto (tgt := 4) hx hb dX0_allConditions_22 (by decide) ?_
  refine lv_iload_n hx hb dX0_allConditions_4 rfl (lv_at hl 0 rfl) ?_
  refine lv_bipush (v := 22) hx hb dX0_allConditions_5 (by decide) ?_
  refine lv_icmp_ge (tgt := 25) hx hb dX0_allConditions_7 (by decide) (fun z => absurd z (by decide)) (fun _ => ?_)
  refine lv_iload_n hx hb dX0_allConditions_10 rfl (lv_at hl 1 rfl) ?_
  refine lv_aload_n hx hb dX0_allConditions_11 rfl (lv_at hl 2 rfl) ?_
  refine va_get (D := (dC, dI)) (ci := 0) (v := .ref (a 7)) (C := RX0) (T := TX0) (N := 17) hx hb hts hiX0 hown hK hP 1 rfl rfl 8 (by decide) v_1 (fun _ h9 => h9) rfl dX0_allConditions_12 ?_
  refine lv_iload_n hx hb dX0_allConditions_15 rfl (lv_at hl 0 rfl) ?_
  refine va_iald hx hb hK hP 7 1 rfl rfl (show ¬ (_ ∨ _) by decide) dX0_allConditions_16 ?_
  refine lv_topi (fun y_39 ey_39 => ?_)
  obtain rfl : y_39 = 0 := ey_39.trans (by first | rfl | decide)
  refine lv_iadd hx hb dX0_allConditions_17 ?_
  refine lv_topi (fun y_40 ey_40 => ?_)
  obtain rfl : y_40 = 0 := ey_40.trans (by decide)
  refine lv_istore_n (lv' := [(1, .int 0), (2, .int 19), (0, .ref (a 1))]) hx hb dX0_allConditions_18 rfl hl (by decide) rfl (fun ls hl => ?_)
  refine lv_iinc (v := 20) (lv' := [(2, .int 20), (1, .int 0), (0, .ref (a 1))]) hx hb dX0_allConditions_19 hl (k := 1) rfl (by decide) (by decide) rfl (fun ls hl => ?_)
  refine lv_goto (tgt := 4) hx hb dX0_allConditions_22 (by decide) ?_
  refine lv_iload_n hx hb dX0_allConditions_4 rfl (lv_at hl 0 rfl) ?_
  refine lv_bipush (v := 22) hx hb dX0_allConditions_5 (by decide) ?_
  refine lv_icmp_ge (tgt := 25) hx hb dX0_allConditions_7 (by decide) (fun z => absurd z (by decide)) (fun _ => ?_)
  refine lv_iload_n hx hb dX0_allConditions_10 rfl (lv_at hl 1 rfl) ?_
  refine lv_aload_n hx hb dX0_allConditions_11 rfl (lv_at hl 2 rfl) ?_
  refine va_get (D := (dC, dI)) (ci := 0) (v := .ref (a 7)) (C := RX0) (T := TX0) (N := 17) hx hb hts hiX0 hown hK hP 1 rfl rfl 8 (by decide) v_1 (fun _ h9 => h9) rfl dX0_allConditions_12 ?_
  refine lv_iload_n hx hb dX0_allConditions_15 rfl (lv_at hl 0 rfl) ?_
  refine va_iald hx hb hK hP 7 1 rfl rfl (show ¬ (_ ∨ _) by decide) dX0_allConditions_16 ?_
  refine lv_topi (fun y_41 ey_41 => ?_)
  obtain rfl : y_41 = 0 := ey_41.trans (by first | rfl | decide)
  refine lv_iadd hx hb dX0_allConditions_17 ?_
  refine lv_topi (fun y_42 ey_42 => ?_)
  obtain rfl : y_42 = 0 := ey_42.trans (by decide)
  refine lv_istore_n (lv' := [(1, .int 0), (2, .int 20), (0, .ref (a 1))]) hx hb dX0_allConditions_18 rfl hl (by decide) rfl (fun ls hl => ?_)
  refine lv_iinc (v := 21) (lv' := [(2, .int 21), (1, .int 0), (0, .ref (a 1))]) hx hb dX0_allConditions_19 hl (k := 1) rfl (by decide) (by decide) rfl (fun ls hl => ?_)
  refine lv_goto (tgt := 4) hx hb dX0_allConditions_22 (by decide) ?_
  refine lv_iload_n hx hb dX0_allConditions_4 rfl (lv_at hl 0 rfl) ?_
  refine lv_bipush (v := 22) hx hb dX0_allConditions_5 (by decide) ?_
  refine lv_icmp_ge (tgt := 25) hx hb dX0_allConditions_7 (by decide) (fun z => absurd z (by decide)) (fun _ => ?_)
  refine lv_iload_n hx hb dX0_allConditions_10 rfl (lv_at hl 1 rfl) ?_
  refine lv_aload_n hx hb dX0_allConditions_11 rfl (lv_at hl 2 rfl) ?_
  refine va_get (D := (dC, dI)) (ci := 0) (v := .ref (a 7)) (C := RX0) (T := TX0) (N := 17) hx hb hts hiX0 hown hK hP 1 rfl rfl 8 (by decide) v_1 (fun _ h9 => h9) rfl dX0_allConditions_12 ?_
  refine lv_iload_n hx hb dX0_allConditions_15 rfl (lv_at hl 0 rfl) ?_
  refine va_iald hx hb hK hP 7 1 rfl rfl (show ¬ (_ ∨ _) by decide) dX0_allConditions_16 ?_
  refine lv_topi (fun y_43 ey_43 => ?_)
  obtain rfl : y_43 = 0 := ey_43.trans (by first | rfl | decide)
  refine lv_iadd hx hb dX0_allConditions_17 ?_
  refine lv_topi (fun y_44 ey_44 => ?_)
  obtain rfl : y_44 = 0 := ey_44.trans (by decide)
  refine lv_istore_n (lv' := [(1, .int 0), (2, .int 21), (0, .ref (a 1))]) hx hb dX0_allConditions_18 rfl hl (by decide) rfl (fun ls hl => ?_)
  refine lv_iinc (v := 22) (lv' := [(2, .int 22), (1, .int 0), (0, .ref (a 1))]) hx hb dX0_allConditions_19 hl (k := 1) rfl (by decide) (by decide) rfl (fun ls hl => ?_)
  refine lv_goto (tgt := 4) hx hb dX0_allConditions_22 (by decide) ?_
  refine lv_iload_n hx hb dX0_allConditions_4 rfl (lv_at hl 0 rfl) ?_
  refine lv_bipush (v := 22) hx hb dX0_allConditions_5 (by decide) ?_
  refine lv_icmp_ge (tgt := 25) hx hb dX0_allConditions_7 (by decide) (fun _ => ?_) (fun z => absurd z (by decide))
  refine lv_iload_n hx hb dX0_allConditions_25 rfl (lv_at hl 1 rfl) ?_
  exact W.iret (v := 0) hx hb hr (fun t ht hW => ⟨⟨0, (), rfl, by first | rfl | decide | simp_all, trivial⟩, hS.F ht⟩) hS.2.2 dX0_allConditions_26
theorem dX0_hurriedRings_0 : decode cX0_hurriedRings 0 = .ok (.iconst 0, 1) := by decide +kernel
theorem dX0_hurriedRings_1 : decode cX0_hurriedRings 1 = .ok (.istore_n 1, 1) := by decide +kernel
theorem dX0_hurriedRings_2 : decode cX0_hurriedRings 2 = .ok (.iconst 0, 1) := by decide +kernel
theorem dX0_hurriedRings_3 : decode cX0_hurriedRings 3 = .ok (.istore_n 2, 1) := by decide +kernel
theorem dX0_hurriedRings_4 : decode cX0_hurriedRings 4 = .ok (.iload_n 2, 1) := by decide +kernel
theorem dX0_hurriedRings_5 : decode cX0_hurriedRings 5 = .ok (.aload_n 0, 1) := by decide +kernel
theorem dX0_hurriedRings_6 : decode cX0_hurriedRings 6 = .ok (.getfield 59, 3) := by decide +kernel
theorem dX0_hurriedRings_9 : decode cX0_hurriedRings 9 = .ok (.if_icmp .ge 37, 3) := by decide +kernel
theorem dX0_hurriedRings_46 : decode cX0_hurriedRings 46 = .ok (.iload_n 1, 1) := by decide +kernel
theorem dX0_hurriedRings_47 : decode cX0_hurriedRings 47 = .ok (.ireturn, 1) := by decide +kernel
def vs_X0_hurriedRings : List Cond := .code yX0_hurriedRings cX0_hurriedRings 3 (some .int) :: ([.fieldLink RX0 59 "ClockReach$Automaton" "places" "I"] ++ wsX00)
set_option maxHeartbeats 4000000 in
set_option maxRecDepth 100000 in
theorem c_X0_hurriedRings (l : Launch) (dC : Nat → ClassId) (dI : Nat → Nat → Nat) (sz : Nat) (a : Nat → Nat) (k : Nat → ClassId) : Met l yX0_hurriedRings vs_X0_hurriedRings ({ frames := 0, cells := 0, slots := 0, locals := 0 }) (va_Pc [.ref (a 1)] (pu_B (dC, dI) (wX a k) (tX k) sz)) (va_Qi (fun (r : Int32) (_ : Unit) => r = 0) (fun _ _ => True) (va_A [] sz)) 0 0 (va_A [] sz) := by
  refine Met.ofW (cc := cX0_hurriedRings) (maxL := 3) (ret := (some .int)) (by decide) rfl ?_
  intro p e s m args below meth c s₁ B hml hv
  obtain ⟨rfl, rfl, hP, hK, hD0⟩ := hv
  have hx := B.exec
  have hb := B.bytes
  have hr := B.returns
  have hts := atoms_spec (ws := vs_X0_hurriedRings) B.pre
  have v_1 := hts (.fieldLink RX0 59 "ClockReach$Automaton" "places" "I") (List.mem_of_getElem? (i := 1) rfl)
  have hown : s.vm.findClass RX0 = some m.cls := findClass_of_methodNamed B.named
  have hlocks := B.notSynchronized
  have hiX0 : ∀ w ∈ wsX00, w ∈ vs_X0_hurriedRings := fun _ h => List.mem_cons_of_mem _ (List.mem_append_right _ h)
  have hD := hD0
  have hA : ∀ q : Nat, s.heap.size ≤ q → va_A [] s.heap.size q := fun _ h => Or.inr h
  have hS : va_S (va_A [] s.heap.size) s.heap s.heap [] := va_S.rf
  have hl := lv_entry ([.ref (a 1)]) (n := 3) (Nat.le_of_ble_eq_true rfl)
  rw [lg_entry_eq]
  generalize (lg_sl ([.ref (a 1)]) ++ List.replicate (3 - (lg_sl ([.ref (a 1)])).length) Slot.unset).toArray = ls at hl ⊢
  have hl : lv_has ls 3 [(0, .ref (a 1))] := hl
  refine lv_iconst (v := 0) hx hb dX0_hurriedRings_0 (by decide) ?_
  refine lv_istore_n (lv' := [(1, .int 0), (0, .ref (a 1))]) hx hb dX0_hurriedRings_1 rfl hl (by decide) rfl (fun ls hl => ?_)
  refine lv_iconst (v := 0) hx hb dX0_hurriedRings_2 (by decide) ?_
  refine lv_istore_n (lv' := [(2, .int 0), (1, .int 0), (0, .ref (a 1))]) hx hb dX0_hurriedRings_3 rfl hl (by decide) rfl (fun ls hl => ?_)
  refine lv_iload_n hx hb dX0_hurriedRings_4 rfl (lv_at hl 0 rfl) ?_
  refine lv_aload_n hx hb dX0_hurriedRings_5 rfl (lv_at hl 2 rfl) ?_
  refine va_get (D := (dC, dI)) (ci := 0) (v := .int 0) (C := RX0) (T := TX0) (N := 17) hx hb hts hiX0 hown hK hP 1 rfl rfl 1 (by decide) v_1 (fun _ h9 => h9) rfl dX0_hurriedRings_6 ?_
  refine lv_icmp_ge (tgt := 46) hx hb dX0_hurriedRings_9 (by decide) (fun _ => ?_) (fun z => absurd z (by decide))
  refine lv_iload_n hx hb dX0_hurriedRings_46 rfl (lv_at hl 1 rfl) ?_
  exact W.iret (v := 0) hx hb hr (fun t ht hW => ⟨⟨0, (), rfl, by first | rfl | decide | simp_all, trivial⟩, hS.F ht⟩) hS.2.2 dX0_hurriedRings_47
theorem dX2_takesBack_0 : decode cX2_takesBack 0 = .ok (.aload_n 0, 1) := by decide +kernel
theorem dX2_takesBack_1 : decode cX2_takesBack 1 = .ok (.getfield 18, 3) := by decide +kernel
theorem dX2_takesBack_4 : decode cX2_takesBack 4 = .ok (.ifCond .ne 5, 3) := by decide +kernel
theorem dX2_takesBack_7 : decode cX2_takesBack 7 = .ok (.iconst 0, 1) := by decide +kernel
theorem dX2_takesBack_8 : decode cX2_takesBack 8 = .ok (.ireturn, 1) := by decide +kernel
def vs_X2_takesBack : List Cond := .code yX2_takesBack cX2_takesBack 3 (some .boolean) :: ([.fieldLink RX2 18 "ClockReach$History" "count" "I"] ++ wsX20)
set_option maxHeartbeats 4000000 in
set_option maxRecDepth 100000 in
theorem c_X2_takesBack (l : Launch) (dC : Nat → ClassId) (dI : Nat → Nat → Nat) (sz : Nat) (a : Nat → Nat) (k : Nat → ClassId) : Met l yX2_takesBack vs_X2_takesBack ({ frames := 0, cells := 0, slots := 0, locals := 0 }) (va_Pc [.ref (a 2), .ref (a 1)] (pu_B (dC, dI) (wX a k) (tX k) sz)) (va_Qi (fun (r : Int32) (_ : Unit) => r = 0) (fun _ _ => True) (va_A [] sz)) 0 0 (va_A [] sz) := by
  refine Met.ofW (cc := cX2_takesBack) (maxL := 3) (ret := (some .boolean)) (by decide) rfl ?_
  intro p e s m args below meth c s₁ B hml hv
  obtain ⟨rfl, rfl, hP, hK, hD0⟩ := hv
  have hx := B.exec
  have hb := B.bytes
  have hr := B.returns
  have hts := atoms_spec (ws := vs_X2_takesBack) B.pre
  have v_1 := hts (.fieldLink RX2 18 "ClockReach$History" "count" "I") (List.mem_of_getElem? (i := 1) rfl)
  have hown : s.vm.findClass RX2 = some m.cls := findClass_of_methodNamed B.named
  have hlocks := B.notSynchronized
  have hiX2 : ∀ w ∈ wsX20, w ∈ vs_X2_takesBack := fun _ h => List.mem_cons_of_mem _ (List.mem_append_right _ h)
  have hD := hD0
  have hA : ∀ q : Nat, s.heap.size ≤ q → va_A [] s.heap.size q := fun _ h => Or.inr h
  have hS : va_S (va_A [] s.heap.size) s.heap s.heap [] := va_S.rf
  have hl := lv_entry ([.ref (a 2), .ref (a 1)]) (n := 3) (Nat.le_of_ble_eq_true rfl)
  rw [lg_entry_eq]
  generalize (lg_sl ([.ref (a 2), .ref (a 1)]) ++ List.replicate (3 - (lg_sl ([.ref (a 2), .ref (a 1)])).length) Slot.unset).toArray = ls at hl ⊢
  have hl : lv_has ls 3 [(0, .ref (a 2)), (1, .ref (a 1))] := hl
  refine lv_aload_n hx hb dX2_takesBack_0 rfl (lv_at hl 0 rfl) ?_
  refine va_get (D := (dC, dI)) (ci := 2) (v := .int 0) (C := RX2) (T := TX2) (N := 3) hx hb hts hiX2 hown hK hP 2 rfl rfl 0 (by decide) v_1 (fun _ h9 => h9) rfl dX2_takesBack_1 ?_
  refine lv_if_ne (tgt := 9) hx hb dX2_takesBack_4 (by decide) (fun z => absurd z (by decide)) (fun _ => ?_)
  refine lv_iconst (v := 0) hx hb dX2_takesBack_7 (by decide) ?_
  exact W.zret (v := 0) (ty := .boolean) hx hb hr rfl (fun t ht hW => ⟨⟨0, (), rfl, by first | rfl | decide | simp_all, trivial⟩, hS.F ht⟩) hS.2.2 dX2_takesBack_8
theorem dX3_startsIn_0 : decode cX3_startsIn 0 = .ok (.aload_n 0, 1) := by decide +kernel
theorem dX3_startsIn_1 : decode cX3_startsIn 1 = .ok (.iconst 0, 1) := by decide +kernel
theorem dX3_startsIn_2 : decode cX3_startsIn 2 = .ok (.putfield 18, 3) := by decide +kernel
theorem dX3_startsIn_5 : decode cX3_startsIn 5 = .ok (.aload_n 1, 1) := by decide +kernel
theorem dX3_startsIn_6 : decode cX3_startsIn 6 = .ok (.getfield 22, 3) := by decide +kernel
theorem dX3_startsIn_9 : decode cX3_startsIn 9 = .ok (.ifCond .ne 5, 3) := by decide +kernel
theorem dX3_startsIn_12 : decode cX3_startsIn 12 = .ok (.iconst 0, 1) := by decide +kernel
theorem dX3_startsIn_13 : decode cX3_startsIn 13 = .ok (.ireturn, 1) := by decide +kernel
def vs_X3_startsIn : List Cond := .code yX3_startsIn cX3_startsIn 3 (some .boolean) :: ([.fieldLink RX3 18 "ClockReach$Play" "on" "Z", .fieldLink RX3 22 "ClockReach$Automaton" "places" "I"] ++ wsX30 ++ wsX00)
set_option maxHeartbeats 4000000 in
set_option maxRecDepth 100000 in
theorem c_X3_startsIn (l : Launch) (dC : Nat → ClassId) (dI : Nat → Nat → Nat) (sz : Nat) (a : Nat → Nat) (k : Nat → ClassId) : Met l yX3_startsIn vs_X3_startsIn ({ frames := 0, cells := 0, slots := 0, locals := 0 }) (va_Pc [.ref (a 3), .ref (a 1)] (pu_B (dC, dI) (wX a k) (tX k) sz)) (va_Qi (fun (r : Int32) (_ : Unit) => r = 0) (fun _ _ => True) (va_A (wX a k) sz)) 0 0 (va_A (wX a k) sz) := by
  refine Met.ofW (cc := cX3_startsIn) (maxL := 3) (ret := (some .boolean)) (by decide) rfl ?_
  intro p e s m args below meth c s₁ B hml hv
  obtain ⟨rfl, rfl, hP, hK, hD0⟩ := hv
  have hx := B.exec
  have hb := B.bytes
  have hr := B.returns
  have hts := atoms_spec (ws := vs_X3_startsIn) B.pre
  have v_1 := hts (.fieldLink RX3 18 "ClockReach$Play" "on" "Z") (List.mem_of_getElem? (i := 1) rfl)
  have v_2 := hts (.fieldLink RX3 22 "ClockReach$Automaton" "places" "I") (List.mem_of_getElem? (i := 2) rfl)
  have hown : s.vm.findClass RX3 = some m.cls := findClass_of_methodNamed B.named
  have hlocks := B.notSynchronized
  have hiX0 : ∀ w ∈ wsX00, w ∈ vs_X3_startsIn := fun _ h => List.mem_cons_of_mem _ (List.mem_append_right _ h)
  have hiX3 : ∀ w ∈ wsX30, w ∈ vs_X3_startsIn := fun _ h => List.mem_cons_of_mem _ (List.mem_append_left _ (List.mem_append_right _ h))
  have hD := hD0.self (sz := s.heap.size)
  generalize hAe : va_A (wX a k) s.heap.size = A at hD ⊢
  have hA : ∀ q : Nat, s.heap.size ≤ q → A q := fun q h => by rw [← hAe]; exact Or.inr h
  have hS : va_S A s.heap s.heap [] := va_S.rf
  have hl := lv_entry ([.ref (a 3), .ref (a 1)]) (n := 3) (Nat.le_of_ble_eq_true rfl)
  rw [lg_entry_eq]
  generalize (lg_sl ([.ref (a 3), .ref (a 1)]) ++ List.replicate (3 - (lg_sl ([.ref (a 3), .ref (a 1)])).length) Slot.unset).toArray = ls at hl ⊢
  have hl : lv_has ls 3 [(0, .ref (a 3)), (1, .ref (a 1))] := hl
  refine lv_aload_n hx hb dX3_startsIn_0 rfl (lv_at hl 0 rfl) ?_
  refine lv_iconst (v := 0) hx hb dX3_startsIn_1 (by decide) ?_
  refine va_put (D := (dC, dI)) (ci := 3) (v := .int 0) (ty := .boolean) (C := RX3) (T := TX3) (N := 5) hx hb hts hiX3 tyX3 tyX3_ok nmX3 hown hK hP hD hS 3 rfl rfl 0 (by decide) v_1 (fun _ h9 => h9) rfl (by decide +kernel) rfl rfl (Nat.le_of_ble_eq_true rfl) dX3_startsIn_2 (fun H locs hP hD hS => ?_)
  have hP : va_P (dC, dI) vwCl (wX a k) H := hP
  have hD : va_D A (wX a k) := hD
  refine lv_aload_n hx hb dX3_startsIn_5 rfl (lv_at hl 1 rfl) ?_
  refine va_get (D := (dC, dI)) (ci := 0) (v := .int 0) (C := RX0) (T := TX0) (N := 17) hx hb hts hiX0 hown hK hP 1 rfl rfl 1 (by decide) v_2 (fun _ h9 => h9) rfl dX3_startsIn_6 ?_
  refine lv_if_ne (tgt := 14) hx hb dX3_startsIn_9 (by decide) (fun z => absurd z (by decide)) (fun _ => ?_)
  refine lv_iconst (v := 0) hx hb dX3_startsIn_12 (by decide) ?_
  exact W.zret (v := 0) (ty := .boolean) hx hb hr rfl (fun t ht hW => ⟨⟨0, (), rfl, by first | rfl | decide | simp_all, trivial⟩, hS.F ht⟩) hS.2.2 dX3_startsIn_13
end
section
theorem dX8_place_0 : decode cX8_place 0 = .ok (.aload_n 0, 1) := by decide +kernel
theorem dX8_place_1 : decode cX8_place 1 = .ok (.iload_n 1, 1) := by decide +kernel
theorem dX8_place_2 : decode cX8_place 2 = .ok (.invokevirtual 140, 3) := by decide +kernel
theorem dX8_place_5 : decode cX8_place 5 = .ok (.ifCond .ne 5, 3) := by decide +kernel
theorem dX8_place_8 : decode cX8_place 8 = .ok (.iconst (-1), 1) := by decide +kernel
theorem dX8_place_9 : decode cX8_place 9 = .ok (.ireturn, 1) := by decide +kernel
def vs_X8_place : List Cond := .code yX8_place cX8_place 3 (some .int) :: ([.methodLink RX8 140 yX8_isPlace, .instanceMethod yX8_isPlace, .selects RX8 yX8_isPlace yX8_isPlace, .initialized RX8, .code yX8_isPlace cX8_isPlace 2 (some .boolean), .fieldLink RX8 23 "ClockReach" "model" "LClockReach$Automaton;", .fieldLink RX8 97 "ClockReach$Automaton" "places" "I"] ++ wsX80 ++ wsX00)
theorem g_X8_place_X8_isPlace : GoodIn vs_X8_place (wsV RX8 140 RX8 yX8_isPlace vs_X8_isPlace) := goodIn_r _ [1, 2, 3, 4, 5, 6, 7, 8, 9, 10, 11, 12, 13, 14, 15, 16, 17, 18, 19, 20, 21, 22, 23, 24, 25, 26, 27, 28, 29, 30, 31, 32, 33, 34, 35, 36, 37, 38, 39, 40] (by decide +kernel) (by decide +kernel)
set_option maxHeartbeats 4000000 in
set_option maxRecDepth 100000 in
theorem c_X8_place (l : Launch) (dC : Nat → ClassId) (dI : Nat → Nat → Nat) (sz : Nat) (a : Nat → Nat) (k : Nat → ClassId) (p0 : Int32) (p1 : Int32) : Met l yX8_place vs_X8_place ({ frames := 1, cells := 0, slots := 0, locals := 21 }) (va_Pc [.ref (a 0), .int p0, .int p1] (pu_B (dC, dI) (wX a k) (tX k) sz)) (va_Qi (fun (r : Int32) (_ : Unit) => r = -1) (fun _ _ => True) (va_A [] sz)) 0 0 (va_A [] sz) := by
  refine Met.ofW (cc := cX8_place) (maxL := 3) (ret := (some .int)) (by decide) rfl ?_
  intro p e s m args below meth c s₁ B hml hv
  obtain ⟨rfl, rfl, hP, hK, hD0⟩ := hv
  have hx := B.exec
  have hb := B.bytes
  have hr := B.returns
  have hts := atoms_spec (ws := vs_X8_place) B.pre
  have hown : s.vm.findClass RX8 = some m.cls := findClass_of_methodNamed B.named
  have hlocks := B.notSynchronized
  have hD := hD0
  have hA : ∀ q : Nat, s.heap.size ≤ q → va_A [] s.heap.size q := fun _ h => Or.inr h
  have hS : va_S (va_A [] s.heap.size) s.heap s.heap [] := va_S.rf
  have hl := lv_entry ([.ref (a 0), .int p0, .int p1]) (n := 3) (Nat.le_of_ble_eq_true rfl)
  rw [lg_entry_eq]
  generalize (lg_sl ([.ref (a 0), .int p0, .int p1]) ++ List.replicate (3 - (lg_sl ([.ref (a 0), .int p0, .int p1])).length) Slot.unset).toArray = ls at hl ⊢
  have hl : lv_has ls 3 [(0, .ref (a 0)), (1, .int p0), (2, .int p1)] := hl
  refine lv_aload_n hx hb dX8_place_0 rfl (lv_at hl 0 rfl) ?_
  refine lv_iload_n hx hb dX8_place_1 rfl (lv_at hl 1 rfl) ?_
  refine va_calli (va_runV (As := [.int p0]) (rest := []) ⟨hx, hb, hml, hown, hts⟩ (c_X8_isPlace l dC dI _ a k p0) (cwV 1 hts g_X8_place_X8_isPlace rfl rfl rfl (by decide +kernel) ⟨Nat.le_of_ble_eq_true rfl, Nat.le_of_ble_eq_true rfl⟩) ⟨pu_bl, va_recv hK hP (ci := 8) (q0 := 0) rfl rfl, pu_in hP hK hD⟩ rfl rfl hl.1 rfl (lv_room (Nat.le_of_ble_eq_true rfl)) dX8_place_2 ⟨Nat.le_of_ble_eq_true rfl, Nat.le_of_ble_eq_true rfl⟩) hS (fun q _ h => pu_fr hS hA q h) (pu_fr hS hA) (fun r_1 u t H1 locs ht hvm hw hB hz1 hk1 hS => ?_)
  have hP := pu_keep hP hk1
  clear hk1 hz1 hB ht hvm
  generalize H1 = H at hP hS ⊢
  obtain rfl : r_1 = 0 := hw
  refine lv_if_ne (tgt := 10) hx hb dX8_place_5 (by decide) (fun z => absurd z (by decide)) (fun _ => ?_)
  refine lv_iconst (v := (-1)) hx hb dX8_place_8 (by decide) ?_
  exact W.iret (v := (-1)) hx hb hr (fun t ht hW => ⟨⟨(-1), (), rfl, by first | rfl | decide | simp_all, trivial⟩, hS.F ht⟩) hS.2.2 dX8_place_9
theorem dX8_edge_0 : decode cX8_edge 0 = .ok (.aload_n 0, 1) := by decide +kernel
theorem dX8_edge_1 : decode cX8_edge 1 = .ok (.iload_n 1, 1) := by decide +kernel
theorem dX8_edge_2 : decode cX8_edge 2 = .ok (.invokevirtual 165, 3) := by decide +kernel
theorem dX8_edge_5 : decode cX8_edge 5 = .ok (.ifCond .ne 5, 3) := by decide +kernel
theorem dX8_edge_8 : decode cX8_edge 8 = .ok (.iconst (-1), 1) := by decide +kernel
theorem dX8_edge_9 : decode cX8_edge 9 = .ok (.ireturn, 1) := by decide +kernel
def vs_X8_edge : List Cond := .code yX8_edge cX8_edge 3 (some .int) :: ([.methodLink RX8 165 yX8_isEdge, .instanceMethod yX8_isEdge, .selects RX8 yX8_isEdge yX8_isEdge, .initialized RX8, .code yX8_isEdge cX8_isEdge 2 (some .boolean), .fieldLink RX8 23 "ClockReach" "model" "LClockReach$Automaton;", .fieldLink RX8 119 "ClockReach$Automaton" "edges" "I"] ++ wsX80 ++ wsX00)
theorem g_X8_edge_X8_isEdge : GoodIn vs_X8_edge (wsV RX8 165 RX8 yX8_isEdge vs_X8_isEdge) := goodIn_r _ [1, 2, 3, 4, 5, 6, 7, 8, 9, 10, 11, 12, 13, 14, 15, 16, 17, 18, 19, 20, 21, 22, 23, 24, 25, 26, 27, 28, 29, 30, 31, 32, 33, 34, 35, 36, 37, 38, 39, 40] (by decide +kernel) (by decide +kernel)
set_option maxHeartbeats 4000000 in
set_option maxRecDepth 100000 in
theorem c_X8_edge (l : Launch) (dC : Nat → ClassId) (dI : Nat → Nat → Nat) (sz : Nat) (a : Nat → Nat) (k : Nat → ClassId) (p0 : Int32) (p1 : Int32) : Met l yX8_edge vs_X8_edge ({ frames := 1, cells := 0, slots := 0, locals := 21 }) (va_Pc [.ref (a 0), .int p0, .int p1] (pu_B (dC, dI) (wX a k) (tX k) sz)) (va_Qi (fun (r : Int32) (_ : Unit) => r = -1) (fun _ _ => True) (va_A [] sz)) 0 0 (va_A [] sz) := by
  refine Met.ofW (cc := cX8_edge) (maxL := 3) (ret := (some .int)) (by decide) rfl ?_
  intro p e s m args below meth c s₁ B hml hv
  obtain ⟨rfl, rfl, hP, hK, hD0⟩ := hv
  have hx := B.exec
  have hb := B.bytes
  have hr := B.returns
  have hts := atoms_spec (ws := vs_X8_edge) B.pre
  have hown : s.vm.findClass RX8 = some m.cls := findClass_of_methodNamed B.named
  have hlocks := B.notSynchronized
  have hD := hD0
  have hA : ∀ q : Nat, s.heap.size ≤ q → va_A [] s.heap.size q := fun _ h => Or.inr h
  have hS : va_S (va_A [] s.heap.size) s.heap s.heap [] := va_S.rf
  have hl := lv_entry ([.ref (a 0), .int p0, .int p1]) (n := 3) (Nat.le_of_ble_eq_true rfl)
  rw [lg_entry_eq]
  generalize (lg_sl ([.ref (a 0), .int p0, .int p1]) ++ List.replicate (3 - (lg_sl ([.ref (a 0), .int p0, .int p1])).length) Slot.unset).toArray = ls at hl ⊢
  have hl : lv_has ls 3 [(0, .ref (a 0)), (1, .int p0), (2, .int p1)] := hl
  refine lv_aload_n hx hb dX8_edge_0 rfl (lv_at hl 0 rfl) ?_
  refine lv_iload_n hx hb dX8_edge_1 rfl (lv_at hl 1 rfl) ?_
  refine va_calli (va_runV (As := [.int p0]) (rest := []) ⟨hx, hb, hml, hown, hts⟩ (c_X8_isEdge l dC dI _ a k p0) (cwV 1 hts g_X8_edge_X8_isEdge rfl rfl rfl (by decide +kernel) ⟨Nat.le_of_ble_eq_true rfl, Nat.le_of_ble_eq_true rfl⟩) ⟨pu_bl, va_recv hK hP (ci := 8) (q0 := 0) rfl rfl, pu_in hP hK hD⟩ rfl rfl hl.1 rfl (lv_room (Nat.le_of_ble_eq_true rfl)) dX8_edge_2 ⟨Nat.le_of_ble_eq_true rfl, Nat.le_of_ble_eq_true rfl⟩) hS (fun q _ h => pu_fr hS hA q h) (pu_fr hS hA) (fun r_1 u t H1 locs ht hvm hw hB hz1 hk1 hS => ?_)
  have hP := pu_keep hP hk1
  clear hk1 hz1 hB ht hvm
  generalize H1 = H at hP hS ⊢
  obtain rfl : r_1 = 0 := hw
  refine lv_if_ne (tgt := 10) hx hb dX8_edge_5 (by decide) (fun z => absurd z (by decide)) (fun _ => ?_)
  refine lv_iconst (v := (-1)) hx hb dX8_edge_8 (by decide) ?_
  exact W.iret (v := (-1)) hx hb hr (fun t ht hW => ⟨⟨(-1), (), rfl, by first | rfl | decide | simp_all, trivial⟩, hS.F ht⟩) hS.2.2 dX8_edge_9
theorem dX8_condition_0 : decode cX8_condition 0 = .ok (.aload_n 0, 1) := by decide +kernel
theorem dX8_condition_1 : decode cX8_condition 1 = .ok (.iload_n 1, 1) := by decide +kernel
theorem dX8_condition_2 : decode cX8_condition 2 = .ok (.iload_n 2, 1) := by decide +kernel
theorem dX8_condition_3 : decode cX8_condition 3 = .ok (.invokevirtual 171, 3) := by decide +kernel
theorem dX8_condition_6 : decode cX8_condition 6 = .ok (.istore 4, 2) := by decide +kernel
theorem dX8_condition_8 : decode cX8_condition 8 = .ok (.iload 4, 2) := by decide +kernel
theorem dX8_condition_10 : decode cX8_condition 10 = .ok (.iconst (-1), 1) := by decide +kernel
theorem dX8_condition_11 : decode cX8_condition 11 = .ok (.if_icmp .ne 5, 3) := by decide +kernel
theorem dX8_condition_14 : decode cX8_condition 14 = .ok (.iconst (-1), 1) := by decide +kernel
theorem dX8_condition_15 : decode cX8_condition 15 = .ok (.ireturn, 1) := by decide +kernel
def vs_X8_condition : List Cond := .code yX8_condition cX8_condition 5 (some .int) :: ([.methodLink RX8 171 yX8_slotOf, .instanceMethod yX8_slotOf, .selects RX8 yX8_slotOf yX8_slotOf, .initialized RX8, .code yX8_slotOf cX8_slotOf 4 (some .int), .methodLink RX8 165 yX8_isEdge, .instanceMethod yX8_isEdge, .selects RX8 yX8_isEdge yX8_isEdge, .code yX8_isEdge cX8_isEdge 2 (some .boolean), .fieldLink RX8 23 "ClockReach" "model" "LClockReach$Automaton;", .fieldLink RX8 119 "ClockReach$Automaton" "edges" "I", .methodLink RX8 140 yX8_isPlace, .instanceMethod yX8_isPlace, .selects RX8 yX8_isPlace yX8_isPlace, .code yX8_isPlace cX8_isPlace 2 (some .boolean), .fieldLink RX8 97 "ClockReach$Automaton" "places" "I"] ++ wsX80 ++ wsX00)
theorem g_X8_condition_X8_slotOf : GoodIn vs_X8_condition (wsV RX8 171 RX8 yX8_slotOf vs_X8_slotOf) := goodIn_r _ [1, 2, 3, 4, 5, 6, 7, 8, 4, 9, 10, 11, 12, 13, 14, 15, 16, 17, 18, 19, 20, 21, 22, 23, 24, 25, 26, 27, 28, 29, 30, 31, 32, 33, 34, 35, 36, 37, 38, 39, 40, 41, 42, 43, 44, 45, 46, 47, 48, 49] (by decide +kernel) (by decide +kernel)
set_option maxHeartbeats 4000000 in
set_option maxRecDepth 100000 in
theorem c_X8_condition (l : Launch) (dC : Nat → ClassId) (dI : Nat → Nat → Nat) (sz : Nat) (a : Nat → Nat) (k : Nat → ClassId) (p0 : Int32) (p1 : Int32) (p2 : Int32) : Met l yX8_condition vs_X8_condition ({ frames := 2, cells := 0, slots := 0, locals := 44 }) (va_Pc [.ref (a 0), .int p0, .int p1, .int p2] (pu_B (dC, dI) (wX a k) (tX k) sz)) (va_Qi (fun (r : Int32) (_ : Unit) => r = -1) (fun _ _ => True) (va_A [] sz)) 0 0 (va_A [] sz) := by
  refine Met.ofW (cc := cX8_condition) (maxL := 5) (ret := (some .int)) (by decide) rfl ?_
  intro p e s m args below meth c s₁ B hml hv
  obtain ⟨rfl, rfl, hP, hK, hD0⟩ := hv
  have hx := B.exec
  have hb := B.bytes
  have hr := B.returns
  have hts := atoms_spec (ws := vs_X8_condition) B.pre
  have hown : s.vm.findClass RX8 = some m.cls := findClass_of_methodNamed B.named
  have hlocks := B.notSynchronized
  have hD := hD0
  have hA : ∀ q : Nat, s.heap.size ≤ q → va_A [] s.heap.size q := fun _ h => Or.inr h
  have hS : va_S (va_A [] s.heap.size) s.heap s.heap [] := va_S.rf
  have hl := lv_entry ([.ref (a 0), .int p0, .int p1, .int p2]) (n := 5) (Nat.le_of_ble_eq_true rfl)
  rw [lg_entry_eq]
  generalize (lg_sl ([.ref (a 0), .int p0, .int p1, .int p2]) ++ List.replicate (5 - (lg_sl ([.ref (a 0), .int p0, .int p1, .int p2])).length) Slot.unset).toArray = ls at hl ⊢
  have hl : lv_has ls 5 [(0, .ref (a 0)), (1, .int p0), (2, .int p1), (3, .int p2)] := hl
  refine lv_aload_n hx hb dX8_condition_0 rfl (lv_at hl 0 rfl) ?_
  refine lv_iload_n hx hb dX8_condition_1 rfl (lv_at hl 1 rfl) ?_
  refine lv_iload_n hx hb dX8_condition_2 rfl (lv_at hl 2 rfl) ?_
  refine va_calli (va_runV (As := [.int p0, .int p1]) (rest := []) ⟨hx, hb, hml, hown, hts⟩ (c_X8_slotOf l dC dI _ a k p0 p1) (cwV 2 hts g_X8_condition_X8_slotOf rfl rfl rfl (by decide +kernel) ⟨Nat.le_of_ble_eq_true rfl, Nat.le_of_ble_eq_true rfl⟩) ⟨pu_bl, va_recv hK hP (ci := 8) (q0 := 0) rfl rfl, pu_in hP hK hD⟩ rfl rfl hl.1 rfl (lv_room (Nat.le_of_ble_eq_true rfl)) dX8_condition_3 ⟨Nat.le_of_ble_eq_true rfl, Nat.le_of_ble_eq_true rfl⟩) hS (fun q _ h => pu_fr hS hA q h) (pu_fr hS hA) (fun r_1 u t H1 locs ht hvm hw hB hz1 hk1 hS => ?_)
  have hP := pu_keep hP hk1
  clear hk1 hz1 hB ht hvm
  generalize H1 = H at hP hS ⊢
  obtain rfl : r_1 = (-1) := hw
  refine lv_istore (lv' := [(4, .int (-1)), (0, .ref (a 0)), (1, .int p0), (2, .int p1), (3, .int p2)]) hx hb dX8_condition_6 hl (by decide) rfl (fun ls hl => ?_)
  refine lv_iload hx hb dX8_condition_8 (lv_at hl 0 rfl) ?_
  refine lv_iconst (v := (-1)) hx hb dX8_condition_10 (by decide) ?_
  refine lv_icmp_ne (tgt := 16) hx hb dX8_condition_11 (by decide) (fun z => absurd z (by decide)) (fun _ => ?_)
  refine lv_iconst (v := (-1)) hx hb dX8_condition_14 (by decide) ?_
  exact W.iret (v := (-1)) hx hb hr (fun t ht hW => ⟨⟨(-1), (), rfl, by first | rfl | decide | simp_all, trivial⟩, hS.F ht⟩) hS.2.2 dX8_condition_15
theorem dX8_limit_0 : decode cX8_limit 0 = .ok (.aload_n 0, 1) := by decide +kernel
theorem dX8_limit_1 : decode cX8_limit 1 = .ok (.iload_n 1, 1) := by decide +kernel
theorem dX8_limit_2 : decode cX8_limit 2 = .ok (.invokevirtual 187, 3) := by decide +kernel
theorem dX8_limit_5 : decode cX8_limit 5 = .ok (.ifCond .ne 5, 3) := by decide +kernel
theorem dX8_limit_8 : decode cX8_limit 8 = .ok (.iconst (-1), 1) := by decide +kernel
theorem dX8_limit_9 : decode cX8_limit 9 = .ok (.ireturn, 1) := by decide +kernel
def vs_X8_limit : List Cond := .code yX8_limit cX8_limit 3 (some .int) :: ([.methodLink RX8 187 yX8_isClock, .instanceMethod yX8_isClock, .selects RX8 yX8_isClock yX8_isClock, .initialized RX8, .code yX8_isClock cX8_isClock 2 (some .boolean), .fieldLink RX8 23 "ClockReach" "model" "LClockReach$Automaton;", .fieldLink RX8 116 "ClockReach$Automaton" "clocks" "I"] ++ wsX80 ++ wsX00)
theorem g_X8_limit_X8_isClock : GoodIn vs_X8_limit (wsV RX8 187 RX8 yX8_isClock vs_X8_isClock) := goodIn_r _ [1, 2, 3, 4, 5, 6, 7, 8, 9, 10, 11, 12, 13, 14, 15, 16, 17, 18, 19, 20, 21, 22, 23, 24, 25, 26, 27, 28, 29, 30, 31, 32, 33, 34, 35, 36, 37, 38, 39, 40] (by decide +kernel) (by decide +kernel)
set_option maxHeartbeats 4000000 in
set_option maxRecDepth 100000 in
theorem c_X8_limit (l : Launch) (dC : Nat → ClassId) (dI : Nat → Nat → Nat) (sz : Nat) (a : Nat → Nat) (k : Nat → ClassId) (p0 : Int32) (p1 : Int32) : Met l yX8_limit vs_X8_limit ({ frames := 1, cells := 0, slots := 0, locals := 21 }) (va_Pc [.ref (a 0), .int p0, .int p1] (pu_B (dC, dI) (wX a k) (tX k) sz)) (va_Qi (fun (r : Int32) (_ : Unit) => r = -1) (fun _ _ => True) (va_A [] sz)) 0 0 (va_A [] sz) := by
  refine Met.ofW (cc := cX8_limit) (maxL := 3) (ret := (some .int)) (by decide) rfl ?_
  intro p e s m args below meth c s₁ B hml hv
  obtain ⟨rfl, rfl, hP, hK, hD0⟩ := hv
  have hx := B.exec
  have hb := B.bytes
  have hr := B.returns
  have hts := atoms_spec (ws := vs_X8_limit) B.pre
  have hown : s.vm.findClass RX8 = some m.cls := findClass_of_methodNamed B.named
  have hlocks := B.notSynchronized
  have hD := hD0
  have hA : ∀ q : Nat, s.heap.size ≤ q → va_A [] s.heap.size q := fun _ h => Or.inr h
  have hS : va_S (va_A [] s.heap.size) s.heap s.heap [] := va_S.rf
  have hl := lv_entry ([.ref (a 0), .int p0, .int p1]) (n := 3) (Nat.le_of_ble_eq_true rfl)
  rw [lg_entry_eq]
  generalize (lg_sl ([.ref (a 0), .int p0, .int p1]) ++ List.replicate (3 - (lg_sl ([.ref (a 0), .int p0, .int p1])).length) Slot.unset).toArray = ls at hl ⊢
  have hl : lv_has ls 3 [(0, .ref (a 0)), (1, .int p0), (2, .int p1)] := hl
  refine lv_aload_n hx hb dX8_limit_0 rfl (lv_at hl 0 rfl) ?_
  refine lv_iload_n hx hb dX8_limit_1 rfl (lv_at hl 1 rfl) ?_
  refine va_calli (va_runV (As := [.int p0]) (rest := []) ⟨hx, hb, hml, hown, hts⟩ (c_X8_isClock l dC dI _ a k p0) (cwV 1 hts g_X8_limit_X8_isClock rfl rfl rfl (by decide +kernel) ⟨Nat.le_of_ble_eq_true rfl, Nat.le_of_ble_eq_true rfl⟩) ⟨pu_bl, va_recv hK hP (ci := 8) (q0 := 0) rfl rfl, pu_in hP hK hD⟩ rfl rfl hl.1 rfl (lv_room (Nat.le_of_ble_eq_true rfl)) dX8_limit_2 ⟨Nat.le_of_ble_eq_true rfl, Nat.le_of_ble_eq_true rfl⟩) hS (fun q _ h => pu_fr hS hA q h) (pu_fr hS hA) (fun r_1 u t H1 locs ht hvm hw hB hz1 hk1 hS => ?_)
  have hP := pu_keep hP hk1
  clear hk1 hz1 hB ht hvm
  generalize H1 = H at hP hS ⊢
  obtain rfl : r_1 = 0 := hw
  refine lv_if_ne (tgt := 10) hx hb dX8_limit_5 (by decide) (fun z => absurd z (by decide)) (fun _ => ?_)
  refine lv_iconst (v := (-1)) hx hb dX8_limit_8 (by decide) ?_
  exact W.iret (v := (-1)) hx hb hr (fun t ht hW => ⟨⟨(-1), (), rfl, by first | rfl | decide | simp_all, trivial⟩, hS.F ht⟩) hS.2.2 dX8_limit_9
theorem dX8_number_0 : decode cX8_number 0 = .ok (.aload_n 0, 1) := by decide +kernel
theorem dX8_number_1 : decode cX8_number 1 = .ok (.iload_n 1, 1) := by decide +kernel
theorem dX8_number_2 : decode cX8_number 2 = .ok (.iload_n 2, 1) := by decide +kernel
theorem dX8_number_3 : decode cX8_number 3 = .ok (.invokevirtual 171, 3) := by decide +kernel
theorem dX8_number_6 : decode cX8_number 6 = .ok (.istore 4, 2) := by decide +kernel
theorem dX8_number_8 : decode cX8_number 8 = .ok (.iload 4, 2) := by decide +kernel
theorem dX8_number_10 : decode cX8_number 10 = .ok (.iconst (-1), 1) := by decide +kernel
theorem dX8_number_11 : decode cX8_number 11 = .ok (.if_icmp .eq 13, 3) := by decide +kernel
theorem dX8_number_24 : decode cX8_number 24 = .ok (.iconst (-1), 1) := by decide +kernel
theorem dX8_number_25 : decode cX8_number 25 = .ok (.ireturn, 1) := by decide +kernel
def vs_X8_number : List Cond := .code yX8_number cX8_number 6 (some .int) :: ([.methodLink RX8 171 yX8_slotOf, .instanceMethod yX8_slotOf, .selects RX8 yX8_slotOf yX8_slotOf, .initialized RX8, .code yX8_slotOf cX8_slotOf 4 (some .int), .methodLink RX8 165 yX8_isEdge, .instanceMethod yX8_isEdge, .selects RX8 yX8_isEdge yX8_isEdge, .code yX8_isEdge cX8_isEdge 2 (some .boolean), .fieldLink RX8 23 "ClockReach" "model" "LClockReach$Automaton;", .fieldLink RX8 119 "ClockReach$Automaton" "edges" "I", .methodLink RX8 140 yX8_isPlace, .instanceMethod yX8_isPlace, .selects RX8 yX8_isPlace yX8_isPlace, .code yX8_isPlace cX8_isPlace 2 (some .boolean), .fieldLink RX8 97 "ClockReach$Automaton" "places" "I"] ++ wsX80 ++ wsX00)
theorem g_X8_number_X8_slotOf : GoodIn vs_X8_number (wsV RX8 171 RX8 yX8_slotOf vs_X8_slotOf) := goodIn_r _ [1, 2, 3, 4, 5, 6, 7, 8, 4, 9, 10, 11, 12, 13, 14, 15, 16, 17, 18, 19, 20, 21, 22, 23, 24, 25, 26, 27, 28, 29, 30, 31, 32, 33, 34, 35, 36, 37, 38, 39, 40, 41, 42, 43, 44, 45, 46, 47, 48, 49] (by decide +kernel) (by decide +kernel)
set_option maxHeartbeats 4000000 in
set_option maxRecDepth 100000 in
theorem c_X8_number (l : Launch) (dC : Nat → ClassId) (dI : Nat → Nat → Nat) (sz : Nat) (a : Nat → Nat) (k : Nat → ClassId) (p0 : Int32) (p1 : Int32) (p2 : Int32) : Met l yX8_number vs_X8_number ({ frames := 2, cells := 0, slots := 0, locals := 44 }) (va_Pc [.ref (a 0), .int p0, .int p1, .int p2] (pu_B (dC, dI) (wX a k) (tX k) sz)) (va_Qi (fun (r : Int32) (_ : Unit) => r = -1) (fun _ _ => True) (va_A [] sz)) 0 0 (va_A [] sz) := by
  refine Met.ofW (cc := cX8_number) (maxL := 6) (ret := (some .int)) (by decide) rfl ?_
  intro p e s m args below meth c s₁ B hml hv
  obtain ⟨rfl, rfl, hP, hK, hD0⟩ := hv
  have hx := B.exec
  have hb := B.bytes
  have hr := B.returns
  have hts := atoms_spec (ws := vs_X8_number) B.pre
  have hown : s.vm.findClass RX8 = some m.cls := findClass_of_methodNamed B.named
  have hlocks := B.notSynchronized
  have hD := hD0
  have hA : ∀ q : Nat, s.heap.size ≤ q → va_A [] s.heap.size q := fun _ h => Or.inr h
  have hS : va_S (va_A [] s.heap.size) s.heap s.heap [] := va_S.rf
  have hl := lv_entry ([.ref (a 0), .int p0, .int p1, .int p2]) (n := 6) (Nat.le_of_ble_eq_true rfl)
  rw [lg_entry_eq]
  generalize (lg_sl ([.ref (a 0), .int p0, .int p1, .int p2]) ++ List.replicate (6 - (lg_sl ([.ref (a 0), .int p0, .int p1, .int p2])).length) Slot.unset).toArray = ls at hl ⊢
  have hl : lv_has ls 6 [(0, .ref (a 0)), (1, .int p0), (2, .int p1), (3, .int p2)] := hl
  refine lv_aload_n hx hb dX8_number_0 rfl (lv_at hl 0 rfl) ?_
  refine lv_iload_n hx hb dX8_number_1 rfl (lv_at hl 1 rfl) ?_
  refine lv_iload_n hx hb dX8_number_2 rfl (lv_at hl 2 rfl) ?_
  refine va_calli (va_runV (As := [.int p0, .int p1]) (rest := []) ⟨hx, hb, hml, hown, hts⟩ (c_X8_slotOf l dC dI _ a k p0 p1) (cwV 2 hts g_X8_number_X8_slotOf rfl rfl rfl (by decide +kernel) ⟨Nat.le_of_ble_eq_true rfl, Nat.le_of_ble_eq_true rfl⟩) ⟨pu_bl, va_recv hK hP (ci := 8) (q0 := 0) rfl rfl, pu_in hP hK hD⟩ rfl rfl hl.1 rfl (lv_room (Nat.le_of_ble_eq_true rfl)) dX8_number_3 ⟨Nat.le_of_ble_eq_true rfl, Nat.le_of_ble_eq_true rfl⟩) hS (fun q _ h => pu_fr hS hA q h) (pu_fr hS hA) (fun r_1 u t H1 locs ht hvm hw hB hz1 hk1 hS => ?_)
  have hP := pu_keep hP hk1
  clear hk1 hz1 hB ht hvm
  generalize H1 = H at hP hS ⊢
  obtain rfl : r_1 = (-1) := hw
  refine lv_istore (lv' := [(4, .int (-1)), (0, .ref (a 0)), (1, .int p0), (2, .int p1), (3, .int p2)]) hx hb dX8_number_6 hl (by decide) rfl (fun ls hl => ?_)
  refine lv_iload hx hb dX8_number_8 (lv_at hl 0 rfl) ?_
  refine lv_iconst (v := (-1)) hx hb dX8_number_10 (by decide) ?_
  refine lv_icmp_eq (tgt := 24) hx hb dX8_number_11 (by decide) (fun _ => ?_) (fun z => absurd z (by decide))
  refine lv_iconst (v := (-1)) hx hb dX8_number_24 (by decide) ?_
  exact W.iret (v := (-1)) hx hb hr (fun t ht hW => ⟨⟨(-1), (), rfl, by first | rfl | decide | simp_all, trivial⟩, hS.F ht⟩) hS.2.2 dX8_number_25
theorem dX8_graph_0 : decode cX8_graph 0 = .ok (.iload_n 1, 1) := by decide +kernel
theorem dX8_graph_1 : decode cX8_graph 1 = .ok (.ifCond .lt 18, 3) := by decide +kernel
theorem dX8_graph_4 : decode cX8_graph 4 = .ok (.iload_n 1, 1) := by decide +kernel
theorem dX8_graph_5 : decode cX8_graph 5 = .ok (.iconst 2, 1) := by decide +kernel
theorem dX8_graph_6 : decode cX8_graph 6 = .ok (.if_icmp .gt 13, 3) := by decide +kernel
theorem dX8_graph_9 : decode cX8_graph 9 = .ok (.aload_n 0, 1) := by decide +kernel
theorem dX8_graph_10 : decode cX8_graph 10 = .ok (.getfield 23, 3) := by decide +kernel
theorem dX8_graph_13 : decode cX8_graph 13 = .ok (.getfield 97, 3) := by decide +kernel
theorem dX8_graph_16 : decode cX8_graph 16 = .ok (.ifCond .ne 5, 3) := by decide +kernel
theorem dX8_graph_19 : decode cX8_graph 19 = .ok (.iconst (-1), 1) := by decide +kernel
theorem dX8_graph_20 : decode cX8_graph 20 = .ok (.ireturn, 1) := by decide +kernel
def vs_X8_graph : List Cond := .code yX8_graph cX8_graph 3 (some .int) :: ([.fieldLink RX8 23 "ClockReach" "model" "LClockReach$Automaton;", .fieldLink RX8 97 "ClockReach$Automaton" "places" "I"] ++ wsX80 ++ wsX00)
set_option maxHeartbeats 4000000 in
set_option maxRecDepth 100000 in
theorem c_X8_graph (l : Launch) (dC : Nat → ClassId) (dI : Nat → Nat → Nat) (sz : Nat) (a : Nat → Nat) (k : Nat → ClassId) (p0 : Int32) (p1 : Int32) : Met l yX8_graph vs_X8_graph ({ frames := 0, cells := 0, slots := 0, locals := 0 }) (va_Pc [.ref (a 0), .int p0, .int p1] (pu_B (dC, dI) (wX a k) (tX k) sz)) (va_Qi (fun (r : Int32) (_ : Unit) => r = -1) (fun _ _ => True) (va_A [] sz)) 0 0 (va_A [] sz) := by
  refine Met.ofW (cc := cX8_graph) (maxL := 3) (ret := (some .int)) (by decide) rfl ?_
  intro p e s m args below meth c s₁ B hml hv
  obtain ⟨rfl, rfl, hP, hK, hD0⟩ := hv
  have hx := B.exec
  have hb := B.bytes
  have hr := B.returns
  have hts := atoms_spec (ws := vs_X8_graph) B.pre
  have v_1 := hts (.fieldLink RX8 23 "ClockReach" "model" "LClockReach$Automaton;") (List.mem_of_getElem? (i := 1) rfl)
  have v_2 := hts (.fieldLink RX8 97 "ClockReach$Automaton" "places" "I") (List.mem_of_getElem? (i := 2) rfl)
  have hown : s.vm.findClass RX8 = some m.cls := findClass_of_methodNamed B.named
  have hlocks := B.notSynchronized
  have hiX0 : ∀ w ∈ wsX00, w ∈ vs_X8_graph := fun _ h => List.mem_cons_of_mem _ (List.mem_append_right _ h)
  have hiX8 : ∀ w ∈ wsX80, w ∈ vs_X8_graph := fun _ h => List.mem_cons_of_mem _ (List.mem_append_left _ (List.mem_append_right _ h))
  have hD := hD0
  have hA : ∀ q : Nat, s.heap.size ≤ q → va_A [] s.heap.size q := fun _ h => Or.inr h
  have hS : va_S (va_A [] s.heap.size) s.heap s.heap [] := va_S.rf
  have hl := lv_entry ([.ref (a 0), .int p0, .int p1]) (n := 3) (Nat.le_of_ble_eq_true rfl)
  rw [lg_entry_eq]
  generalize (lg_sl ([.ref (a 0), .int p0, .int p1]) ++ List.replicate (3 - (lg_sl ([.ref (a 0), .int p0, .int p1])).length) Slot.unset).toArray = ls at hl ⊢
  have hl : lv_has ls 3 [(0, .ref (a 0)), (1, .int p0), (2, .int p1)] := hl
  refine lv_iload_n hx hb dX8_graph_0 rfl (lv_at hl 1 rfl) ?_
  refine lv_if_lt (tgt := 19) hx hb dX8_graph_1 (by decide) (fun c_1 => ?_) (fun c_1 => ?_)
  · refine lv_iconst (v := (-1)) hx hb dX8_graph_19 (by decide) ?_
    exact W.iret (v := (-1)) hx hb hr (fun t ht hW => ⟨⟨(-1), (), rfl, by first | rfl | decide | simp_all, trivial⟩, hS.F ht⟩) hS.2.2 dX8_graph_20
  · refine lv_iload_n hx hb dX8_graph_4 rfl (lv_at hl 1 rfl) ?_
    refine lv_iconst (v := 2) hx hb dX8_graph_5 (by decide) ?_
    refine lv_icmp_gt (tgt := 19) hx hb dX8_graph_6 (by decide) (fun c_2 => ?_) (fun c_2 => ?_)
    · refine lv_iconst (v := (-1)) hx hb dX8_graph_19 (by decide) ?_
      exact W.iret (v := (-1)) hx hb hr (fun t ht hW => ⟨⟨(-1), (), rfl, by first | rfl | decide | simp_all, trivial⟩, hS.F ht⟩) hS.2.2 dX8_graph_20
    · refine lv_aload_n hx hb dX8_graph_9 rfl (lv_at hl 0 rfl) ?_
      refine va_get (D := (dC, dI)) (ci := 8) (v := .ref (a 1)) (C := RX8) (T := TX8) (N := 16) hx hb hts hiX8 hown hK hP 0 rfl rfl 3 (by decide) v_1 (fun _ h9 => h9) rfl dX8_graph_10 ?_
      refine va_get (D := (dC, dI)) (ci := 0) (v := .int 0) (C := RX0) (T := TX0) (N := 17) hx hb hts hiX0 hown hK hP 1 rfl rfl 1 (by decide) v_2 (fun _ h9 => h9) rfl dX8_graph_13 ?_
      refine lv_if_ne (tgt := 21) hx hb dX8_graph_16 (by decide) (fun z => absurd z (by decide)) (fun _ => ?_)
      refine lv_iconst (v := (-1)) hx hb dX8_graph_19 (by decide) ?_
      exact W.iret (v := (-1)) hx hb hr (fun t ht hW => ⟨⟨(-1), (), rfl, by first | rfl | decide | simp_all, trivial⟩, hS.F ht⟩) hS.2.2 dX8_graph_20
theorem dX8_state_0 : decode cX8_state 0 = .ok (.aload_n 0, 1) := by decide +kernel
theorem dX8_state_1 : decode cX8_state 1 = .ok (.iload_n 1, 1) := by decide +kernel
theorem dX8_state_2 : decode cX8_state 2 = .ok (.invokevirtual 228, 3) := by decide +kernel
theorem dX8_state_5 : decode cX8_state 5 = .ok (.ifCond .ne 5, 3) := by decide +kernel
theorem dX8_state_8 : decode cX8_state 8 = .ok (.iconst (-1), 1) := by decide +kernel
theorem dX8_state_9 : decode cX8_state 9 = .ok (.ireturn, 1) := by decide +kernel
def vs_X8_state : List Cond := .code yX8_state cX8_state 3 (some .int) :: ([.methodLink RX8 228 yX8_isState, .instanceMethod yX8_isState, .selects RX8 yX8_isState yX8_isState, .initialized RX8, .code yX8_isState cX8_isState 2 (some .boolean), .fieldLink RX8 100 "ClockReach" "hasShown" "Z"] ++ wsX80)
theorem g_X8_state_X8_isState : GoodIn vs_X8_state (wsV RX8 228 RX8 yX8_isState vs_X8_isState) := goodIn_r _ [1, 2, 3, 4, 5, 6, 7, 8, 9, 10, 11, 12, 13, 14, 15, 16, 17, 18, 19, 20, 21, 22] (by decide +kernel) (by decide +kernel)
set_option maxHeartbeats 4000000 in
set_option maxRecDepth 100000 in
theorem c_X8_state (l : Launch) (dC : Nat → ClassId) (dI : Nat → Nat → Nat) (sz : Nat) (a : Nat → Nat) (k : Nat → ClassId) (p0 : Int32) (p1 : Int32) : Met l yX8_state vs_X8_state ({ frames := 1, cells := 0, slots := 0, locals := 21 }) (va_Pc [.ref (a 0), .int p0, .int p1] (pu_B (dC, dI) (wX a k) (tX k) sz)) (va_Qi (fun (r : Int32) (_ : Unit) => r = -1) (fun _ _ => True) (va_A [] sz)) 0 0 (va_A [] sz) := by
  refine Met.ofW (cc := cX8_state) (maxL := 3) (ret := (some .int)) (by decide) rfl ?_
  intro p e s m args below meth c s₁ B hml hv
  obtain ⟨rfl, rfl, hP, hK, hD0⟩ := hv
  have hx := B.exec
  have hb := B.bytes
  have hr := B.returns
  have hts := atoms_spec (ws := vs_X8_state) B.pre
  have hown : s.vm.findClass RX8 = some m.cls := findClass_of_methodNamed B.named
  have hlocks := B.notSynchronized
  have hD := hD0
  have hA : ∀ q : Nat, s.heap.size ≤ q → va_A [] s.heap.size q := fun _ h => Or.inr h
  have hS : va_S (va_A [] s.heap.size) s.heap s.heap [] := va_S.rf
  have hl := lv_entry ([.ref (a 0), .int p0, .int p1]) (n := 3) (Nat.le_of_ble_eq_true rfl)
  rw [lg_entry_eq]
  generalize (lg_sl ([.ref (a 0), .int p0, .int p1]) ++ List.replicate (3 - (lg_sl ([.ref (a 0), .int p0, .int p1])).length) Slot.unset).toArray = ls at hl ⊢
  have hl : lv_has ls 3 [(0, .ref (a 0)), (1, .int p0), (2, .int p1)] := hl
  refine lv_aload_n hx hb dX8_state_0 rfl (lv_at hl 0 rfl) ?_
  refine lv_iload_n hx hb dX8_state_1 rfl (lv_at hl 1 rfl) ?_
  refine va_calli (va_runV (As := [.int p0]) (rest := []) ⟨hx, hb, hml, hown, hts⟩ (c_X8_isState l dC dI _ a k p0) (cwV 1 hts g_X8_state_X8_isState rfl rfl rfl (by decide +kernel) ⟨Nat.le_of_ble_eq_true rfl, Nat.le_of_ble_eq_true rfl⟩) ⟨pu_bl, va_recv hK hP (ci := 8) (q0 := 0) rfl rfl, pu_in hP hK hD⟩ rfl rfl hl.1 rfl (lv_room (Nat.le_of_ble_eq_true rfl)) dX8_state_2 ⟨Nat.le_of_ble_eq_true rfl, Nat.le_of_ble_eq_true rfl⟩) hS (fun q _ h => pu_fr hS hA q h) (pu_fr hS hA) (fun r_1 u t H1 locs ht hvm hw hB hz1 hk1 hS => ?_)
  have hP := pu_keep hP hk1
  clear hk1 hz1 hB ht hvm
  generalize H1 = H at hP hS ⊢
  obtain rfl : r_1 = 0 := hw
  refine lv_if_ne (tgt := 10) hx hb dX8_state_5 (by decide) (fun z => absurd z (by decide)) (fun _ => ?_)
  refine lv_iconst (v := (-1)) hx hb dX8_state_8 (by decide) ?_
  exact W.iret (v := (-1)) hx hb hr (fun t ht hW => ⟨⟨(-1), (), rfl, by first | rfl | decide | simp_all, trivial⟩, hS.F ht⟩) hS.2.2 dX8_state_9
theorem dX8_within_0 : decode cX8_within 0 = .ok (.aload_n 0, 1) := by decide +kernel
theorem dX8_within_1 : decode cX8_within 1 = .ok (.iload_n 1, 1) := by decide +kernel
theorem dX8_within_2 : decode cX8_within 2 = .ok (.invokevirtual 228, 3) := by decide +kernel
theorem dX8_within_5 : decode cX8_within 5 = .ok (.ifCond .eq 11, 3) := by decide +kernel
theorem dX8_within_16 : decode cX8_within 16 = .ok (.iconst (-1), 1) := by decide +kernel
theorem dX8_within_17 : decode cX8_within 17 = .ok (.ireturn, 1) := by decide +kernel
def vs_X8_within : List Cond := .code yX8_within cX8_within 3 (some .int) :: ([.methodLink RX8 228 yX8_isState, .instanceMethod yX8_isState, .selects RX8 yX8_isState yX8_isState, .initialized RX8, .code yX8_isState cX8_isState 2 (some .boolean), .fieldLink RX8 100 "ClockReach" "hasShown" "Z"] ++ wsX80)
theorem g_X8_within_X8_isState : GoodIn vs_X8_within (wsV RX8 228 RX8 yX8_isState vs_X8_isState) := goodIn_r _ [1, 2, 3, 4, 5, 6, 7, 8, 9, 10, 11, 12, 13, 14, 15, 16, 17, 18, 19, 20, 21, 22] (by decide +kernel) (by decide +kernel)
set_option maxHeartbeats 4000000 in
set_option maxRecDepth 100000 in
theorem c_X8_within (l : Launch) (dC : Nat → ClassId) (dI : Nat → Nat → Nat) (sz : Nat) (a : Nat → Nat) (k : Nat → ClassId) (p0 : Int32) (p1 : Int32) : Met l yX8_within vs_X8_within ({ frames := 1, cells := 0, slots := 0, locals := 21 }) (va_Pc [.ref (a 0), .int p0, .int p1] (pu_B (dC, dI) (wX a k) (tX k) sz)) (va_Qi (fun (r : Int32) (_ : Unit) => r = -1) (fun _ _ => True) (va_A [] sz)) 0 0 (va_A [] sz) := by
  refine Met.ofW (cc := cX8_within) (maxL := 3) (ret := (some .int)) (by decide) rfl ?_
  intro p e s m args below meth c s₁ B hml hv
  obtain ⟨rfl, rfl, hP, hK, hD0⟩ := hv
  have hx := B.exec
  have hb := B.bytes
  have hr := B.returns
  have hts := atoms_spec (ws := vs_X8_within) B.pre
  have hown : s.vm.findClass RX8 = some m.cls := findClass_of_methodNamed B.named
  have hlocks := B.notSynchronized
  have hD := hD0
  have hA : ∀ q : Nat, s.heap.size ≤ q → va_A [] s.heap.size q := fun _ h => Or.inr h
  have hS : va_S (va_A [] s.heap.size) s.heap s.heap [] := va_S.rf
  have hl := lv_entry ([.ref (a 0), .int p0, .int p1]) (n := 3) (Nat.le_of_ble_eq_true rfl)
  rw [lg_entry_eq]
  generalize (lg_sl ([.ref (a 0), .int p0, .int p1]) ++ List.replicate (3 - (lg_sl ([.ref (a 0), .int p0, .int p1])).length) Slot.unset).toArray = ls at hl ⊢
  have hl : lv_has ls 3 [(0, .ref (a 0)), (1, .int p0), (2, .int p1)] := hl
  refine lv_aload_n hx hb dX8_within_0 rfl (lv_at hl 0 rfl) ?_
  refine lv_iload_n hx hb dX8_within_1 rfl (lv_at hl 1 rfl) ?_
  refine va_calli (va_runV (As := [.int p0]) (rest := []) ⟨hx, hb, hml, hown, hts⟩ (c_X8_isState l dC dI _ a k p0) (cwV 1 hts g_X8_within_X8_isState rfl rfl rfl (by decide +kernel) ⟨Nat.le_of_ble_eq_true rfl, Nat.le_of_ble_eq_true rfl⟩) ⟨pu_bl, va_recv hK hP (ci := 8) (q0 := 0) rfl rfl, pu_in hP hK hD⟩ rfl rfl hl.1 rfl (lv_room (Nat.le_of_ble_eq_true rfl)) dX8_within_2 ⟨Nat.le_of_ble_eq_true rfl, Nat.le_of_ble_eq_true rfl⟩) hS (fun q _ h => pu_fr hS hA q h) (pu_fr hS hA) (fun r_1 u t H1 locs ht hvm hw hB hz1 hk1 hS => ?_)
  have hP := pu_keep hP hk1
  clear hk1 hz1 hB ht hvm
  generalize H1 = H at hP hS ⊢
  obtain rfl : r_1 = 0 := hw
  refine lv_if_eq (tgt := 16) hx hb dX8_within_5 (by decide) (fun _ => ?_) (fun z => absurd z (by decide))
  refine lv_iconst (v := (-1)) hx hb dX8_within_16 (by decide) ?_
  exact W.iret (v := (-1)) hx hb hr (fun t ht hW => ⟨⟨(-1), (), rfl, by first | rfl | decide | simp_all, trivial⟩, hS.F ht⟩) hS.2.2 dX8_within_17
theorem dX8_has_0 : decode cX8_has 0 = .ok (.aload_n 0, 1) := by decide +kernel
theorem dX8_has_1 : decode cX8_has 1 = .ok (.iload_n 1, 1) := by decide +kernel
theorem dX8_has_2 : decode cX8_has 2 = .ok (.invokevirtual 228, 3) := by decide +kernel
theorem dX8_has_5 : decode cX8_has 5 = .ok (.ifCond .ne 5, 3) := by decide +kernel
theorem dX8_has_8 : decode cX8_has 8 = .ok (.iconst (-1), 1) := by decide +kernel
theorem dX8_has_9 : decode cX8_has 9 = .ok (.ireturn, 1) := by decide +kernel
def vs_X8_has : List Cond := .code yX8_has cX8_has 5 (some .int) :: ([.methodLink RX8 228 yX8_isState, .instanceMethod yX8_isState, .selects RX8 yX8_isState yX8_isState, .initialized RX8, .code yX8_isState cX8_isState 2 (some .boolean), .fieldLink RX8 100 "ClockReach" "hasShown" "Z"] ++ wsX80)
theorem g_X8_has_X8_isState : GoodIn vs_X8_has (wsV RX8 228 RX8 yX8_isState vs_X8_isState) := goodIn_r _ [1, 2, 3, 4, 5, 6, 7, 8, 9, 10, 11, 12, 13, 14, 15, 16, 17, 18, 19, 20, 21, 22] (by decide +kernel) (by decide +kernel)
set_option maxHeartbeats 4000000 in
set_option maxRecDepth 100000 in
theorem c_X8_has (l : Launch) (dC : Nat → ClassId) (dI : Nat → Nat → Nat) (sz : Nat) (a : Nat → Nat) (k : Nat → ClassId) (p0 : Int32) (p1 : Int32) (p2 : Int32) (p3 : Int32) : Met l yX8_has vs_X8_has ({ frames := 1, cells := 0, slots := 0, locals := 21 }) (va_Pc [.ref (a 0), .int p0, .int p1, .int p2, .int p3] (pu_B (dC, dI) (wX a k) (tX k) sz)) (va_Qi (fun (r : Int32) (_ : Unit) => r = -1) (fun _ _ => True) (va_A [] sz)) 0 0 (va_A [] sz) := by
  refine Met.ofW (cc := cX8_has) (maxL := 5) (ret := (some .int)) (by decide) rfl ?_
  intro p e s m args below meth c s₁ B hml hv
  obtain ⟨rfl, rfl, hP, hK, hD0⟩ := hv
  have hx := B.exec
  have hb := B.bytes
  have hr := B.returns
  have hts := atoms_spec (ws := vs_X8_has) B.pre
  have hown : s.vm.findClass RX8 = some m.cls := findClass_of_methodNamed B.named
  have hlocks := B.notSynchronized
  have hD := hD0
  have hA : ∀ q : Nat, s.heap.size ≤ q → va_A [] s.heap.size q := fun _ h => Or.inr h
  have hS : va_S (va_A [] s.heap.size) s.heap s.heap [] := va_S.rf
  have hl := lv_entry ([.ref (a 0), .int p0, .int p1, .int p2, .int p3]) (n := 5) (Nat.le_of_ble_eq_true rfl)
  rw [lg_entry_eq]
  generalize (lg_sl ([.ref (a 0), .int p0, .int p1, .int p2, .int p3]) ++ List.replicate (5 - (lg_sl ([.ref (a 0), .int p0, .int p1, .int p2, .int p3])).length) Slot.unset).toArray = ls at hl ⊢
  have hl : lv_has ls 5 [(0, .ref (a 0)), (1, .int p0), (2, .int p1), (3, .int p2), (4, .int p3)] := hl
  refine lv_aload_n hx hb dX8_has_0 rfl (lv_at hl 0 rfl) ?_
  refine lv_iload_n hx hb dX8_has_1 rfl (lv_at hl 1 rfl) ?_
  refine va_calli (va_runV (As := [.int p0]) (rest := []) ⟨hx, hb, hml, hown, hts⟩ (c_X8_isState l dC dI _ a k p0) (cwV 1 hts g_X8_has_X8_isState rfl rfl rfl (by decide +kernel) ⟨Nat.le_of_ble_eq_true rfl, Nat.le_of_ble_eq_true rfl⟩) ⟨pu_bl, va_recv hK hP (ci := 8) (q0 := 0) rfl rfl, pu_in hP hK hD⟩ rfl rfl hl.1 rfl (lv_room (Nat.le_of_ble_eq_true rfl)) dX8_has_2 ⟨Nat.le_of_ble_eq_true rfl, Nat.le_of_ble_eq_true rfl⟩) hS (fun q _ h => pu_fr hS hA q h) (pu_fr hS hA) (fun r_1 u t H1 locs ht hvm hw hB hz1 hk1 hS => ?_)
  have hP := pu_keep hP hk1
  clear hk1 hz1 hB ht hvm
  generalize H1 = H at hP hS ⊢
  obtain rfl : r_1 = 0 := hw
  refine lv_if_ne (tgt := 10) hx hb dX8_has_5 (by decide) (fun z => absurd z (by decide)) (fun _ => ?_)
  refine lv_iconst (v := (-1)) hx hb dX8_has_8 (by decide) ?_
  exact W.iret (v := (-1)) hx hb hr (fun t ht hW => ⟨⟨(-1), (), rfl, by first | rfl | decide | simp_all, trivial⟩, hS.F ht⟩) hS.2.2 dX8_has_9
theorem dX8_first_0 : decode cX8_first 0 = .ok (.aload_n 0, 1) := by decide +kernel
theorem dX8_first_1 : decode cX8_first 1 = .ok (.getfield 100, 3) := by decide +kernel
theorem dX8_first_4 : decode cX8_first 4 = .ok (.ifCond .eq 11, 3) := by decide +kernel
theorem dX8_first_15 : decode cX8_first 15 = .ok (.iconst (-1), 1) := by decide +kernel
theorem dX8_first_16 : decode cX8_first 16 = .ok (.ireturn, 1) := by decide +kernel
def vs_X8_first : List Cond := .code yX8_first cX8_first 2 (some .int) :: ([.fieldLink RX8 100 "ClockReach" "hasShown" "Z"] ++ wsX80)
set_option maxHeartbeats 4000000 in
set_option maxRecDepth 100000 in
theorem c_X8_first (l : Launch) (dC : Nat → ClassId) (dI : Nat → Nat → Nat) (sz : Nat) (a : Nat → Nat) (k : Nat → ClassId) (p0 : Int32) : Met l yX8_first vs_X8_first ({ frames := 0, cells := 0, slots := 0, locals := 0 }) (va_Pc [.ref (a 0), .int p0] (pu_B (dC, dI) (wX a k) (tX k) sz)) (va_Qi (fun (r : Int32) (_ : Unit) => r = -1) (fun _ _ => True) (va_A [] sz)) 0 0 (va_A [] sz) := by
  refine Met.ofW (cc := cX8_first) (maxL := 2) (ret := (some .int)) (by decide) rfl ?_
  intro p e s m args below meth c s₁ B hml hv
  obtain ⟨rfl, rfl, hP, hK, hD0⟩ := hv
  have hx := B.exec
  have hb := B.bytes
  have hr := B.returns
  have hts := atoms_spec (ws := vs_X8_first) B.pre
  have v_1 := hts (.fieldLink RX8 100 "ClockReach" "hasShown" "Z") (List.mem_of_getElem? (i := 1) rfl)
  have hown : s.vm.findClass RX8 = some m.cls := findClass_of_methodNamed B.named
  have hlocks := B.notSynchronized
  have hiX8 : ∀ w ∈ wsX80, w ∈ vs_X8_first := fun _ h => List.mem_cons_of_mem _ (List.mem_append_right _ h)
  have hD := hD0
  have hA : ∀ q : Nat, s.heap.size ≤ q → va_A [] s.heap.size q := fun _ h => Or.inr h
  have hS : va_S (va_A [] s.heap.size) s.heap s.heap [] := va_S.rf
  have hl := lv_entry ([.ref (a 0), .int p0]) (n := 2) (Nat.le_of_ble_eq_true rfl)
  rw [lg_entry_eq]
  generalize (lg_sl ([.ref (a 0), .int p0]) ++ List.replicate (2 - (lg_sl ([.ref (a 0), .int p0])).length) Slot.unset).toArray = ls at hl ⊢
  have hl : lv_has ls 2 [(0, .ref (a 0)), (1, .int p0)] := hl
  refine lv_aload_n hx hb dX8_first_0 rfl (lv_at hl 0 rfl) ?_
  refine va_get (D := (dC, dI)) (ci := 8) (v := .int 0) (C := RX8) (T := TX8) (N := 16) hx hb hts hiX8 hown hK hP 0 rfl rfl 7 (by decide) v_1 (fun _ h9 => h9) rfl dX8_first_1 ?_
  refine lv_if_eq (tgt := 15) hx hb dX8_first_4 (by decide) (fun _ => ?_) (fun z => absurd z (by decide))
  refine lv_iconst (v := (-1)) hx hb dX8_first_15 (by decide) ?_
  exact W.iret (v := (-1)) hx hb hr (fun t ht hW => ⟨⟨(-1), (), rfl, by first | rfl | decide | simp_all, trivial⟩, hS.F ht⟩) hS.2.2 dX8_first_16
theorem dX8_reached_0 : decode cX8_reached 0 = .ok (.aload_n 0, 1) := by decide +kernel
theorem dX8_reached_1 : decode cX8_reached 1 = .ok (.getfield 100, 3) := by decide +kernel
theorem dX8_reached_4 : decode cX8_reached 4 = .ok (.ifCond .eq 13, 3) := by decide +kernel
theorem dX8_reached_17 : decode cX8_reached 17 = .ok (.iconst (-1), 1) := by decide +kernel
theorem dX8_reached_18 : decode cX8_reached 18 = .ok (.ireturn, 1) := by decide +kernel
def vs_X8_reached : List Cond := .code yX8_reached cX8_reached 1 (some .int) :: ([.fieldLink RX8 100 "ClockReach" "hasShown" "Z"] ++ wsX80)
set_option maxHeartbeats 4000000 in
set_option maxRecDepth 100000 in
theorem c_X8_reached (l : Launch) (dC : Nat → ClassId) (dI : Nat → Nat → Nat) (sz : Nat) (a : Nat → Nat) (k : Nat → ClassId) : Met l yX8_reached vs_X8_reached ({ frames := 0, cells := 0, slots := 0, locals := 0 }) (va_Pc [.ref (a 0)] (pu_B (dC, dI) (wX a k) (tX k) sz)) (va_Qi (fun (r : Int32) (_ : Unit) => r = -1) (fun _ _ => True) (va_A [] sz)) 0 0 (va_A [] sz) := by
  refine Met.ofW (cc := cX8_reached) (maxL := 1) (ret := (some .int)) (by decide) rfl ?_
  intro p e s m args below meth c s₁ B hml hv
  obtain ⟨rfl, rfl, hP, hK, hD0⟩ := hv
  have hx := B.exec
  have hb := B.bytes
  have hr := B.returns
  have hts := atoms_spec (ws := vs_X8_reached) B.pre
  have v_1 := hts (.fieldLink RX8 100 "ClockReach" "hasShown" "Z") (List.mem_of_getElem? (i := 1) rfl)
  have hown : s.vm.findClass RX8 = some m.cls := findClass_of_methodNamed B.named
  have hlocks := B.notSynchronized
  have hiX8 : ∀ w ∈ wsX80, w ∈ vs_X8_reached := fun _ h => List.mem_cons_of_mem _ (List.mem_append_right _ h)
  have hD := hD0
  have hA : ∀ q : Nat, s.heap.size ≤ q → va_A [] s.heap.size q := fun _ h => Or.inr h
  have hS : va_S (va_A [] s.heap.size) s.heap s.heap [] := va_S.rf
  have hl := lv_entry ([.ref (a 0)]) (n := 1) (Nat.le_of_ble_eq_true rfl)
  rw [lg_entry_eq]
  generalize (lg_sl ([.ref (a 0)]) ++ List.replicate (1 - (lg_sl ([.ref (a 0)])).length) Slot.unset).toArray = ls at hl ⊢
  have hl : lv_has ls 1 [(0, .ref (a 0))] := hl
  refine lv_aload_n hx hb dX8_reached_0 rfl (lv_at hl 0 rfl) ?_
  refine va_get (D := (dC, dI)) (ci := 8) (v := .int 0) (C := RX8) (T := TX8) (N := 16) hx hb hts hiX8 hown hK hP 0 rfl rfl 7 (by decide) v_1 (fun _ h9 => h9) rfl dX8_reached_1 ?_
  refine lv_if_eq (tgt := 17) hx hb dX8_reached_4 (by decide) (fun _ => ?_) (fun z => absurd z (by decide))
  refine lv_iconst (v := (-1)) hx hb dX8_reached_17 (by decide) ?_
  exact W.iret (v := (-1)) hx hb hr (fun t ht hW => ⟨⟨(-1), (), rfl, by first | rfl | decide | simp_all, trivial⟩, hS.F ht⟩) hS.2.2 dX8_reached_18
theorem dX8_taken_0 : decode cX8_taken 0 = .ok (.aload_n 0, 1) := by decide +kernel
theorem dX8_taken_1 : decode cX8_taken 1 = .ok (.getfield 100, 3) := by decide +kernel
theorem dX8_taken_4 : decode cX8_taken 4 = .ok (.ifCond .eq 13, 3) := by decide +kernel
theorem dX8_taken_17 : decode cX8_taken 17 = .ok (.iconst (-1), 1) := by decide +kernel
theorem dX8_taken_18 : decode cX8_taken 18 = .ok (.ireturn, 1) := by decide +kernel
def vs_X8_taken : List Cond := .code yX8_taken cX8_taken 1 (some .int) :: ([.fieldLink RX8 100 "ClockReach" "hasShown" "Z"] ++ wsX80)
set_option maxHeartbeats 4000000 in
set_option maxRecDepth 100000 in
theorem c_X8_taken (l : Launch) (dC : Nat → ClassId) (dI : Nat → Nat → Nat) (sz : Nat) (a : Nat → Nat) (k : Nat → ClassId) : Met l yX8_taken vs_X8_taken ({ frames := 0, cells := 0, slots := 0, locals := 0 }) (va_Pc [.ref (a 0)] (pu_B (dC, dI) (wX a k) (tX k) sz)) (va_Qi (fun (r : Int32) (_ : Unit) => r = -1) (fun _ _ => True) (va_A [] sz)) 0 0 (va_A [] sz) := by
  refine Met.ofW (cc := cX8_taken) (maxL := 1) (ret := (some .int)) (by decide) rfl ?_
  intro p e s m args below meth c s₁ B hml hv
  obtain ⟨rfl, rfl, hP, hK, hD0⟩ := hv
  have hx := B.exec
  have hb := B.bytes
  have hr := B.returns
  have hts := atoms_spec (ws := vs_X8_taken) B.pre
  have v_1 := hts (.fieldLink RX8 100 "ClockReach" "hasShown" "Z") (List.mem_of_getElem? (i := 1) rfl)
  have hown : s.vm.findClass RX8 = some m.cls := findClass_of_methodNamed B.named
  have hlocks := B.notSynchronized
  have hiX8 : ∀ w ∈ wsX80, w ∈ vs_X8_taken := fun _ h => List.mem_cons_of_mem _ (List.mem_append_right _ h)
  have hD := hD0
  have hA : ∀ q : Nat, s.heap.size ≤ q → va_A [] s.heap.size q := fun _ h => Or.inr h
  have hS : va_S (va_A [] s.heap.size) s.heap s.heap [] := va_S.rf
  have hl := lv_entry ([.ref (a 0)]) (n := 1) (Nat.le_of_ble_eq_true rfl)
  rw [lg_entry_eq]
  generalize (lg_sl ([.ref (a 0)]) ++ List.replicate (1 - (lg_sl ([.ref (a 0)])).length) Slot.unset).toArray = ls at hl ⊢
  have hl : lv_has ls 1 [(0, .ref (a 0))] := hl
  refine lv_aload_n hx hb dX8_taken_0 rfl (lv_at hl 0 rfl) ?_
  refine va_get (D := (dC, dI)) (ci := 8) (v := .int 0) (C := RX8) (T := TX8) (N := 16) hx hb hts hiX8 hown hK hP 0 rfl rfl 7 (by decide) v_1 (fun _ h9 => h9) rfl dX8_taken_1 ?_
  refine lv_if_eq (tgt := 17) hx hb dX8_taken_4 (by decide) (fun _ => ?_) (fun z => absurd z (by decide))
  refine lv_iconst (v := (-1)) hx hb dX8_taken_17 (by decide) ?_
  exact W.iret (v := (-1)) hx hb hr (fun t ht hW => ⟨⟨(-1), (), rfl, by first | rfl | decide | simp_all, trivial⟩, hS.F ht⟩) hS.2.2 dX8_taken_18
theorem dX8_overlap_0 : decode cX8_overlap 0 = .ok (.aload_n 0, 1) := by decide +kernel
theorem dX8_overlap_1 : decode cX8_overlap 1 = .ok (.iload_n 1, 1) := by decide +kernel
theorem dX8_overlap_2 : decode cX8_overlap 2 = .ok (.invokevirtual 228, 3) := by decide +kernel
theorem dX8_overlap_5 : decode cX8_overlap 5 = .ok (.ifCond .eq 11, 3) := by decide +kernel
theorem dX8_overlap_16 : decode cX8_overlap 16 = .ok (.iconst (-1), 1) := by decide +kernel
theorem dX8_overlap_17 : decode cX8_overlap 17 = .ok (.ireturn, 1) := by decide +kernel
def vs_X8_overlap : List Cond := .code yX8_overlap cX8_overlap 3 (some .int) :: ([.methodLink RX8 228 yX8_isState, .instanceMethod yX8_isState, .selects RX8 yX8_isState yX8_isState, .initialized RX8, .code yX8_isState cX8_isState 2 (some .boolean), .fieldLink RX8 100 "ClockReach" "hasShown" "Z"] ++ wsX80)
theorem g_X8_overlap_X8_isState : GoodIn vs_X8_overlap (wsV RX8 228 RX8 yX8_isState vs_X8_isState) := goodIn_r _ [1, 2, 3, 4, 5, 6, 7, 8, 9, 10, 11, 12, 13, 14, 15, 16, 17, 18, 19, 20, 21, 22] (by decide +kernel) (by decide +kernel)
set_option maxHeartbeats 4000000 in
set_option maxRecDepth 100000 in
theorem c_X8_overlap (l : Launch) (dC : Nat → ClassId) (dI : Nat → Nat → Nat) (sz : Nat) (a : Nat → Nat) (k : Nat → ClassId) (p0 : Int32) (p1 : Int32) : Met l yX8_overlap vs_X8_overlap ({ frames := 1, cells := 0, slots := 0, locals := 21 }) (va_Pc [.ref (a 0), .int p0, .int p1] (pu_B (dC, dI) (wX a k) (tX k) sz)) (va_Qi (fun (r : Int32) (_ : Unit) => r = -1) (fun _ _ => True) (va_A [] sz)) 0 0 (va_A [] sz) := by
  refine Met.ofW (cc := cX8_overlap) (maxL := 3) (ret := (some .int)) (by decide) rfl ?_
  intro p e s m args below meth c s₁ B hml hv
  obtain ⟨rfl, rfl, hP, hK, hD0⟩ := hv
  have hx := B.exec
  have hb := B.bytes
  have hr := B.returns
  have hts := atoms_spec (ws := vs_X8_overlap) B.pre
  have hown : s.vm.findClass RX8 = some m.cls := findClass_of_methodNamed B.named
  have hlocks := B.notSynchronized
  have hD := hD0
  have hA : ∀ q : Nat, s.heap.size ≤ q → va_A [] s.heap.size q := fun _ h => Or.inr h
  have hS : va_S (va_A [] s.heap.size) s.heap s.heap [] := va_S.rf
  have hl := lv_entry ([.ref (a 0), .int p0, .int p1]) (n := 3) (Nat.le_of_ble_eq_true rfl)
  rw [lg_entry_eq]
  generalize (lg_sl ([.ref (a 0), .int p0, .int p1]) ++ List.replicate (3 - (lg_sl ([.ref (a 0), .int p0, .int p1])).length) Slot.unset).toArray = ls at hl ⊢
  have hl : lv_has ls 3 [(0, .ref (a 0)), (1, .int p0), (2, .int p1)] := hl
  refine lv_aload_n hx hb dX8_overlap_0 rfl (lv_at hl 0 rfl) ?_
  refine lv_iload_n hx hb dX8_overlap_1 rfl (lv_at hl 1 rfl) ?_
  refine va_calli (va_runV (As := [.int p0]) (rest := []) ⟨hx, hb, hml, hown, hts⟩ (c_X8_isState l dC dI _ a k p0) (cwV 1 hts g_X8_overlap_X8_isState rfl rfl rfl (by decide +kernel) ⟨Nat.le_of_ble_eq_true rfl, Nat.le_of_ble_eq_true rfl⟩) ⟨pu_bl, va_recv hK hP (ci := 8) (q0 := 0) rfl rfl, pu_in hP hK hD⟩ rfl rfl hl.1 rfl (lv_room (Nat.le_of_ble_eq_true rfl)) dX8_overlap_2 ⟨Nat.le_of_ble_eq_true rfl, Nat.le_of_ble_eq_true rfl⟩) hS (fun q _ h => pu_fr hS hA q h) (pu_fr hS hA) (fun r_1 u t H1 locs ht hvm hw hB hz1 hk1 hS => ?_)
  have hP := pu_keep hP hk1
  clear hk1 hz1 hB ht hvm
  generalize H1 = H at hP hS ⊢
  obtain rfl : r_1 = 0 := hw
  refine lv_if_eq (tgt := 16) hx hb dX8_overlap_5 (by decide) (fun _ => ?_) (fun z => absurd z (by decide))
  refine lv_iconst (v := (-1)) hx hb dX8_overlap_16 (by decide) ?_
  exact W.iret (v := (-1)) hx hb hr (fun t ht hW => ⟨⟨(-1), (), rfl, by first | rfl | decide | simp_all, trivial⟩, hS.F ht⟩) hS.2.2 dX8_overlap_17
theorem dX8_covered_0 : decode cX8_covered 0 = .ok (.aload_n 0, 1) := by decide +kernel
theorem dX8_covered_1 : decode cX8_covered 1 = .ok (.iload_n 1, 1) := by decide +kernel
theorem dX8_covered_2 : decode cX8_covered 2 = .ok (.invokevirtual 228, 3) := by decide +kernel
theorem dX8_covered_5 : decode cX8_covered 5 = .ok (.ifCond .ne 5, 3) := by decide +kernel
theorem dX8_covered_8 : decode cX8_covered 8 = .ok (.iconst (-1), 1) := by decide +kernel
theorem dX8_covered_9 : decode cX8_covered 9 = .ok (.ireturn, 1) := by decide +kernel
def vs_X8_covered : List Cond := .code yX8_covered cX8_covered 3 (some .int) :: ([.methodLink RX8 228 yX8_isState, .instanceMethod yX8_isState, .selects RX8 yX8_isState yX8_isState, .initialized RX8, .code yX8_isState cX8_isState 2 (some .boolean), .fieldLink RX8 100 "ClockReach" "hasShown" "Z"] ++ wsX80)
theorem g_X8_covered_X8_isState : GoodIn vs_X8_covered (wsV RX8 228 RX8 yX8_isState vs_X8_isState) := goodIn_r _ [1, 2, 3, 4, 5, 6, 7, 8, 9, 10, 11, 12, 13, 14, 15, 16, 17, 18, 19, 20, 21, 22] (by decide +kernel) (by decide +kernel)
set_option maxHeartbeats 4000000 in
set_option maxRecDepth 100000 in
theorem c_X8_covered (l : Launch) (dC : Nat → ClassId) (dI : Nat → Nat → Nat) (sz : Nat) (a : Nat → Nat) (k : Nat → ClassId) (p0 : Int32) : Met l yX8_covered vs_X8_covered ({ frames := 1, cells := 0, slots := 0, locals := 21 }) (va_Pc [.ref (a 0), .int p0] (pu_B (dC, dI) (wX a k) (tX k) sz)) (va_Qi (fun (r : Int32) (_ : Unit) => r = -1) (fun _ _ => True) (va_A [] sz)) 0 0 (va_A [] sz) := by
  refine Met.ofW (cc := cX8_covered) (maxL := 3) (ret := (some .int)) (by decide) rfl ?_
  intro p e s m args below meth c s₁ B hml hv
  obtain ⟨rfl, rfl, hP, hK, hD0⟩ := hv
  have hx := B.exec
  have hb := B.bytes
  have hr := B.returns
  have hts := atoms_spec (ws := vs_X8_covered) B.pre
  have hown : s.vm.findClass RX8 = some m.cls := findClass_of_methodNamed B.named
  have hlocks := B.notSynchronized
  have hD := hD0
  have hA : ∀ q : Nat, s.heap.size ≤ q → va_A [] s.heap.size q := fun _ h => Or.inr h
  have hS : va_S (va_A [] s.heap.size) s.heap s.heap [] := va_S.rf
  have hl := lv_entry ([.ref (a 0), .int p0]) (n := 3) (Nat.le_of_ble_eq_true rfl)
  rw [lg_entry_eq]
  generalize (lg_sl ([.ref (a 0), .int p0]) ++ List.replicate (3 - (lg_sl ([.ref (a 0), .int p0])).length) Slot.unset).toArray = ls at hl ⊢
  have hl : lv_has ls 3 [(0, .ref (a 0)), (1, .int p0)] := hl
  refine lv_aload_n hx hb dX8_covered_0 rfl (lv_at hl 0 rfl) ?_
  refine lv_iload_n hx hb dX8_covered_1 rfl (lv_at hl 1 rfl) ?_
  refine va_calli (va_runV (As := [.int p0]) (rest := []) ⟨hx, hb, hml, hown, hts⟩ (c_X8_isState l dC dI _ a k p0) (cwV 1 hts g_X8_covered_X8_isState rfl rfl rfl (by decide +kernel) ⟨Nat.le_of_ble_eq_true rfl, Nat.le_of_ble_eq_true rfl⟩) ⟨pu_bl, va_recv hK hP (ci := 8) (q0 := 0) rfl rfl, pu_in hP hK hD⟩ rfl rfl hl.1 rfl (lv_room (Nat.le_of_ble_eq_true rfl)) dX8_covered_2 ⟨Nat.le_of_ble_eq_true rfl, Nat.le_of_ble_eq_true rfl⟩) hS (fun q _ h => pu_fr hS hA q h) (pu_fr hS hA) (fun r_1 u t H1 locs ht hvm hw hB hz1 hk1 hS => ?_)
  have hP := pu_keep hP hk1
  clear hk1 hz1 hB ht hvm
  generalize H1 = H at hP hS ⊢
  obtain rfl : r_1 = 0 := hw
  refine lv_if_ne (tgt := 10) hx hb dX8_covered_5 (by decide) (fun z => absurd z (by decide)) (fun _ => ?_)
  refine lv_iconst (v := (-1)) hx hb dX8_covered_8 (by decide) ?_
  exact W.iret (v := (-1)) hx hb hr (fun t ht hW => ⟨⟨(-1), (), rfl, by first | rfl | decide | simp_all, trivial⟩, hS.F ht⟩) hS.2.2 dX8_covered_9
theorem dX8_points_0 : decode cX8_points 0 = .ok (.aload_n 0, 1) := by decide +kernel
theorem dX8_points_1 : decode cX8_points 1 = .ok (.iload_n 1, 1) := by decide +kernel
theorem dX8_points_2 : decode cX8_points 2 = .ok (.invokevirtual 228, 3) := by decide +kernel
theorem dX8_points_5 : decode cX8_points 5 = .ok (.ifCond .ne 5, 3) := by decide +kernel
theorem dX8_points_8 : decode cX8_points 8 = .ok (.iconst (-1), 1) := by decide +kernel
theorem dX8_points_9 : decode cX8_points 9 = .ok (.ireturn, 1) := by decide +kernel
def vs_X8_points : List Cond := .code yX8_points cX8_points 2 (some .int) :: ([.methodLink RX8 228 yX8_isState, .instanceMethod yX8_isState, .selects RX8 yX8_isState yX8_isState, .initialized RX8, .code yX8_isState cX8_isState 2 (some .boolean), .fieldLink RX8 100 "ClockReach" "hasShown" "Z"] ++ wsX80)
theorem g_X8_points_X8_isState : GoodIn vs_X8_points (wsV RX8 228 RX8 yX8_isState vs_X8_isState) := goodIn_r _ [1, 2, 3, 4, 5, 6, 7, 8, 9, 10, 11, 12, 13, 14, 15, 16, 17, 18, 19, 20, 21, 22] (by decide +kernel) (by decide +kernel)
set_option maxHeartbeats 4000000 in
set_option maxRecDepth 100000 in
theorem c_X8_points (l : Launch) (dC : Nat → ClassId) (dI : Nat → Nat → Nat) (sz : Nat) (a : Nat → Nat) (k : Nat → ClassId) (p0 : Int32) : Met l yX8_points vs_X8_points ({ frames := 1, cells := 0, slots := 0, locals := 21 }) (va_Pc [.ref (a 0), .int p0] (pu_B (dC, dI) (wX a k) (tX k) sz)) (va_Qi (fun (r : Int32) (_ : Unit) => r = -1) (fun _ _ => True) (va_A [] sz)) 0 0 (va_A [] sz) := by
  refine Met.ofW (cc := cX8_points) (maxL := 2) (ret := (some .int)) (by decide) rfl ?_
  intro p e s m args below meth c s₁ B hml hv
  obtain ⟨rfl, rfl, hP, hK, hD0⟩ := hv
  have hx := B.exec
  have hb := B.bytes
  have hr := B.returns
  have hts := atoms_spec (ws := vs_X8_points) B.pre
  have hown : s.vm.findClass RX8 = some m.cls := findClass_of_methodNamed B.named
  have hlocks := B.notSynchronized
  have hD := hD0
  have hA : ∀ q : Nat, s.heap.size ≤ q → va_A [] s.heap.size q := fun _ h => Or.inr h
  have hS : va_S (va_A [] s.heap.size) s.heap s.heap [] := va_S.rf
  have hl := lv_entry ([.ref (a 0), .int p0]) (n := 2) (Nat.le_of_ble_eq_true rfl)
  rw [lg_entry_eq]
  generalize (lg_sl ([.ref (a 0), .int p0]) ++ List.replicate (2 - (lg_sl ([.ref (a 0), .int p0])).length) Slot.unset).toArray = ls at hl ⊢
  have hl : lv_has ls 2 [(0, .ref (a 0)), (1, .int p0)] := hl
  refine lv_aload_n hx hb dX8_points_0 rfl (lv_at hl 0 rfl) ?_
  refine lv_iload_n hx hb dX8_points_1 rfl (lv_at hl 1 rfl) ?_
  refine va_calli (va_runV (As := [.int p0]) (rest := []) ⟨hx, hb, hml, hown, hts⟩ (c_X8_isState l dC dI _ a k p0) (cwV 1 hts g_X8_points_X8_isState rfl rfl rfl (by decide +kernel) ⟨Nat.le_of_ble_eq_true rfl, Nat.le_of_ble_eq_true rfl⟩) ⟨pu_bl, va_recv hK hP (ci := 8) (q0 := 0) rfl rfl, pu_in hP hK hD⟩ rfl rfl hl.1 rfl (lv_room (Nat.le_of_ble_eq_true rfl)) dX8_points_2 ⟨Nat.le_of_ble_eq_true rfl, Nat.le_of_ble_eq_true rfl⟩) hS (fun q _ h => pu_fr hS hA q h) (pu_fr hS hA) (fun r_1 u t H1 locs ht hvm hw hB hz1 hk1 hS => ?_)
  have hP := pu_keep hP hk1
  clear hk1 hz1 hB ht hvm
  generalize H1 = H at hP hS ⊢
  obtain rfl : r_1 = 0 := hw
  refine lv_if_ne (tgt := 10) hx hb dX8_points_5 (by decide) (fun z => absurd z (by decide)) (fun _ => ?_)
  refine lv_iconst (v := (-1)) hx hb dX8_points_8 (by decide) ?_
  exact W.iret (v := (-1)) hx hb hr (fun t ht hW => ⟨⟨(-1), (), rfl, by first | rfl | decide | simp_all, trivial⟩, hS.F ht⟩) hS.2.2 dX8_points_9
theorem dX8_from_0 : decode cX8_from 0 = .ok (.aload_n 0, 1) := by decide +kernel
theorem dX8_from_1 : decode cX8_from 1 = .ok (.iload_n 1, 1) := by decide +kernel
theorem dX8_from_2 : decode cX8_from 2 = .ok (.invokevirtual 140, 3) := by decide +kernel
theorem dX8_from_5 : decode cX8_from 5 = .ok (.ifCond .eq 12, 3) := by decide +kernel
theorem dX8_from_17 : decode cX8_from 17 = .ok (.iconst (-1), 1) := by decide +kernel
theorem dX8_from_18 : decode cX8_from 18 = .ok (.ireturn, 1) := by decide +kernel
def vs_X8_from : List Cond := .code yX8_from cX8_from 7 (some .int) :: ([.methodLink RX8 140 yX8_isPlace, .instanceMethod yX8_isPlace, .selects RX8 yX8_isPlace yX8_isPlace, .initialized RX8, .code yX8_isPlace cX8_isPlace 2 (some .boolean), .fieldLink RX8 23 "ClockReach" "model" "LClockReach$Automaton;", .fieldLink RX8 97 "ClockReach$Automaton" "places" "I"] ++ wsX80 ++ wsX00)
theorem g_X8_from_X8_isPlace : GoodIn vs_X8_from (wsV RX8 140 RX8 yX8_isPlace vs_X8_isPlace) := goodIn_r _ [1, 2, 3, 4, 5, 6, 7, 8, 9, 10, 11, 12, 13, 14, 15, 16, 17, 18, 19, 20, 21, 22, 23, 24, 25, 26, 27, 28, 29, 30, 31, 32, 33, 34, 35, 36, 37, 38, 39, 40] (by decide +kernel) (by decide +kernel)
set_option maxHeartbeats 4000000 in
set_option maxRecDepth 100000 in
theorem c_X8_from (l : Launch) (dC : Nat → ClassId) (dI : Nat → Nat → Nat) (sz : Nat) (a : Nat → Nat) (k : Nat → ClassId) (p0 : Int32) (p1 : Int32) (p2 : Int32) (p3 : Int32) (p4 : Int32) : Met l yX8_from vs_X8_from ({ frames := 1, cells := 0, slots := 0, locals := 21 }) (va_Pc [.ref (a 0), .int p0, .int p1, .int p2, .int p3, .int p4] (pu_B (dC, dI) (wX a k) (tX k) sz)) (va_Qi (fun (r : Int32) (_ : Unit) => r = -1) (fun _ _ => True) (va_A [] sz)) 0 0 (va_A [] sz) := by
  refine Met.ofW (cc := cX8_from) (maxL := 7) (ret := (some .int)) (by decide) rfl ?_
  intro p e s m args below meth c s₁ B hml hv
  obtain ⟨rfl, rfl, hP, hK, hD0⟩ := hv
  have hx := B.exec
  have hb := B.bytes
  have hr := B.returns
  have hts := atoms_spec (ws := vs_X8_from) B.pre
  have hown : s.vm.findClass RX8 = some m.cls := findClass_of_methodNamed B.named
  have hlocks := B.notSynchronized
  have hD := hD0
  have hA : ∀ q : Nat, s.heap.size ≤ q → va_A [] s.heap.size q := fun _ h => Or.inr h
  have hS : va_S (va_A [] s.heap.size) s.heap s.heap [] := va_S.rf
  have hl := lv_entry ([.ref (a 0), .int p0, .int p1, .int p2, .int p3, .int p4]) (n := 7) (Nat.le_of_ble_eq_true rfl)
  rw [lg_entry_eq]
  generalize (lg_sl ([.ref (a 0), .int p0, .int p1, .int p2, .int p3, .int p4]) ++ List.replicate (7 - (lg_sl ([.ref (a 0), .int p0, .int p1, .int p2, .int p3, .int p4])).length) Slot.unset).toArray = ls at hl ⊢
  have hl : lv_has ls 7 [(0, .ref (a 0)), (1, .int p0), (2, .int p1), (3, .int p2), (4, .int p3), (5, .int p4)] := hl
  refine lv_aload_n hx hb dX8_from_0 rfl (lv_at hl 0 rfl) ?_
  refine lv_iload_n hx hb dX8_from_1 rfl (lv_at hl 1 rfl) ?_
  refine va_calli (va_runV (As := [.int p0]) (rest := []) ⟨hx, hb, hml, hown, hts⟩ (c_X8_isPlace l dC dI _ a k p0) (cwV 1 hts g_X8_from_X8_isPlace rfl rfl rfl (by decide +kernel) ⟨Nat.le_of_ble_eq_true rfl, Nat.le_of_ble_eq_true rfl⟩) ⟨pu_bl, va_recv hK hP (ci := 8) (q0 := 0) rfl rfl, pu_in hP hK hD⟩ rfl rfl hl.1 rfl (lv_room (Nat.le_of_ble_eq_true rfl)) dX8_from_2 ⟨Nat.le_of_ble_eq_true rfl, Nat.le_of_ble_eq_true rfl⟩) hS (fun q _ h => pu_fr hS hA q h) (pu_fr hS hA) (fun r_1 u t H1 locs ht hvm hw hB hz1 hk1 hS => ?_)
  have hP := pu_keep hP hk1
  clear hk1 hz1 hB ht hvm
  generalize H1 = H at hP hS ⊢
  obtain rfl : r_1 = 0 := hw
  refine lv_if_eq (tgt := 17) hx hb dX8_from_5 (by decide) (fun _ => ?_) (fun z => absurd z (by decide))
  refine lv_iconst (v := (-1)) hx hb dX8_from_17 (by decide) ?_
  exact W.iret (v := (-1)) hx hb hr (fun t ht hW => ⟨⟨(-1), (), rfl, by first | rfl | decide | simp_all, trivial⟩, hS.F ht⟩) hS.2.2 dX8_from_18
theorem dX8_avoids_0 : decode cX8_avoids 0 = .ok (.aload_n 0, 1) := by decide +kernel
theorem dX8_avoids_1 : decode cX8_avoids 1 = .ok (.iload_n 1, 1) := by decide +kernel
theorem dX8_avoids_2 : decode cX8_avoids 2 = .ok (.invokevirtual 140, 3) := by decide +kernel
theorem dX8_avoids_5 : decode cX8_avoids 5 = .ok (.ifCond .eq 11, 3) := by decide +kernel
theorem dX8_avoids_16 : decode cX8_avoids 16 = .ok (.iconst (-1), 1) := by decide +kernel
theorem dX8_avoids_17 : decode cX8_avoids 17 = .ok (.ireturn, 1) := by decide +kernel
def vs_X8_avoids : List Cond := .code yX8_avoids cX8_avoids 3 (some .int) :: ([.methodLink RX8 140 yX8_isPlace, .instanceMethod yX8_isPlace, .selects RX8 yX8_isPlace yX8_isPlace, .initialized RX8, .code yX8_isPlace cX8_isPlace 2 (some .boolean), .fieldLink RX8 23 "ClockReach" "model" "LClockReach$Automaton;", .fieldLink RX8 97 "ClockReach$Automaton" "places" "I"] ++ wsX80 ++ wsX00)
theorem g_X8_avoids_X8_isPlace : GoodIn vs_X8_avoids (wsV RX8 140 RX8 yX8_isPlace vs_X8_isPlace) := goodIn_r _ [1, 2, 3, 4, 5, 6, 7, 8, 9, 10, 11, 12, 13, 14, 15, 16, 17, 18, 19, 20, 21, 22, 23, 24, 25, 26, 27, 28, 29, 30, 31, 32, 33, 34, 35, 36, 37, 38, 39, 40] (by decide +kernel) (by decide +kernel)
set_option maxHeartbeats 4000000 in
set_option maxRecDepth 100000 in
theorem c_X8_avoids (l : Launch) (dC : Nat → ClassId) (dI : Nat → Nat → Nat) (sz : Nat) (a : Nat → Nat) (k : Nat → ClassId) (p0 : Int32) (p1 : Int32) : Met l yX8_avoids vs_X8_avoids ({ frames := 1, cells := 0, slots := 0, locals := 21 }) (va_Pc [.ref (a 0), .int p0, .int p1] (pu_B (dC, dI) (wX a k) (tX k) sz)) (va_Qi (fun (r : Int32) (_ : Unit) => r = -1) (fun _ _ => True) (va_A [] sz)) 0 0 (va_A [] sz) := by
  refine Met.ofW (cc := cX8_avoids) (maxL := 3) (ret := (some .int)) (by decide) rfl ?_
  intro p e s m args below meth c s₁ B hml hv
  obtain ⟨rfl, rfl, hP, hK, hD0⟩ := hv
  have hx := B.exec
  have hb := B.bytes
  have hr := B.returns
  have hts := atoms_spec (ws := vs_X8_avoids) B.pre
  have hown : s.vm.findClass RX8 = some m.cls := findClass_of_methodNamed B.named
  have hlocks := B.notSynchronized
  have hD := hD0
  have hA : ∀ q : Nat, s.heap.size ≤ q → va_A [] s.heap.size q := fun _ h => Or.inr h
  have hS : va_S (va_A [] s.heap.size) s.heap s.heap [] := va_S.rf
  have hl := lv_entry ([.ref (a 0), .int p0, .int p1]) (n := 3) (Nat.le_of_ble_eq_true rfl)
  rw [lg_entry_eq]
  generalize (lg_sl ([.ref (a 0), .int p0, .int p1]) ++ List.replicate (3 - (lg_sl ([.ref (a 0), .int p0, .int p1])).length) Slot.unset).toArray = ls at hl ⊢
  have hl : lv_has ls 3 [(0, .ref (a 0)), (1, .int p0), (2, .int p1)] := hl
  refine lv_aload_n hx hb dX8_avoids_0 rfl (lv_at hl 0 rfl) ?_
  refine lv_iload_n hx hb dX8_avoids_1 rfl (lv_at hl 1 rfl) ?_
  refine va_calli (va_runV (As := [.int p0]) (rest := []) ⟨hx, hb, hml, hown, hts⟩ (c_X8_isPlace l dC dI _ a k p0) (cwV 1 hts g_X8_avoids_X8_isPlace rfl rfl rfl (by decide +kernel) ⟨Nat.le_of_ble_eq_true rfl, Nat.le_of_ble_eq_true rfl⟩) ⟨pu_bl, va_recv hK hP (ci := 8) (q0 := 0) rfl rfl, pu_in hP hK hD⟩ rfl rfl hl.1 rfl (lv_room (Nat.le_of_ble_eq_true rfl)) dX8_avoids_2 ⟨Nat.le_of_ble_eq_true rfl, Nat.le_of_ble_eq_true rfl⟩) hS (fun q _ h => pu_fr hS hA q h) (pu_fr hS hA) (fun r_1 u t H1 locs ht hvm hw hB hz1 hk1 hS => ?_)
  have hP := pu_keep hP hk1
  clear hk1 hz1 hB ht hvm
  generalize H1 = H at hP hS ⊢
  obtain rfl : r_1 = 0 := hw
  refine lv_if_eq (tgt := 16) hx hb dX8_avoids_5 (by decide) (fun _ => ?_) (fun z => absurd z (by decide))
  refine lv_iconst (v := (-1)) hx hb dX8_avoids_16 (by decide) ?_
  exact W.iret (v := (-1)) hx hb hr (fun t ht hW => ⟨⟨(-1), (), rfl, by first | rfl | decide | simp_all, trivial⟩, hS.F ht⟩) hS.2.2 dX8_avoids_17
theorem dX8_run_0 : decode cX8_run 0 = .ok (.aload_n 0, 1) := by decide +kernel
theorem dX8_run_1 : decode cX8_run 1 = .ok (.iload_n 1, 1) := by decide +kernel
theorem dX8_run_2 : decode cX8_run 2 = .ok (.iload_n 2, 1) := by decide +kernel
theorem dX8_run_3 : decode cX8_run 3 = .ok (.invokevirtual 320, 3) := by decide +kernel
theorem dX8_run_6 : decode cX8_run 6 = .ok (.ifCond .ne 5, 3) := by decide +kernel
theorem dX8_run_9 : decode cX8_run 9 = .ok (.iconst (-1), 1) := by decide +kernel
theorem dX8_run_10 : decode cX8_run 10 = .ok (.ireturn, 1) := by decide +kernel
def vs_X8_run : List Cond := .code yX8_run cX8_run 3 (some .int) :: ([.methodLink RX8 320 yX8_isStep, .instanceMethod yX8_isStep, .selects RX8 yX8_isStep yX8_isStep, .initialized RX8, .code yX8_isStep cX8_isStep 3 (some .boolean), .methodLink RX8 228 yX8_isState, .instanceMethod yX8_isState, .selects RX8 yX8_isState yX8_isState, .code yX8_isState cX8_isState 2 (some .boolean), .fieldLink RX8 100 "ClockReach" "hasShown" "Z"] ++ wsX80)
theorem g_X8_run_X8_isStep : GoodIn vs_X8_run (wsV RX8 320 RX8 yX8_isStep vs_X8_isStep) := goodIn_r _ [1, 2, 3, 4, 5, 6, 7, 8, 4, 9, 10, 11, 12, 13, 14, 15, 16, 17, 18, 19, 20, 21, 22, 23, 24, 25, 26] (by decide +kernel) (by decide +kernel)
set_option maxHeartbeats 4000000 in
set_option maxRecDepth 100000 in
theorem c_X8_run (l : Launch) (dC : Nat → ClassId) (dI : Nat → Nat → Nat) (sz : Nat) (a : Nat → Nat) (k : Nat → ClassId) (p0 : Int32) (p1 : Int32) : Met l yX8_run vs_X8_run ({ frames := 2, cells := 0, slots := 0, locals := 43 }) (va_Pc [.ref (a 0), .int p0, .int p1] (pu_B (dC, dI) (wX a k) (tX k) sz)) (va_Qi (fun (r : Int32) (_ : Unit) => r = -1) (fun _ _ => True) (va_A [] sz)) 0 0 (va_A [] sz) := by
  refine Met.ofW (cc := cX8_run) (maxL := 3) (ret := (some .int)) (by decide) rfl ?_
  intro p e s m args below meth c s₁ B hml hv
  obtain ⟨rfl, rfl, hP, hK, hD0⟩ := hv
  have hx := B.exec
  have hb := B.bytes
  have hr := B.returns
  have hts := atoms_spec (ws := vs_X8_run) B.pre
  have hown : s.vm.findClass RX8 = some m.cls := findClass_of_methodNamed B.named
  have hlocks := B.notSynchronized
  have hD := hD0
  have hA : ∀ q : Nat, s.heap.size ≤ q → va_A [] s.heap.size q := fun _ h => Or.inr h
  have hS : va_S (va_A [] s.heap.size) s.heap s.heap [] := va_S.rf
  have hl := lv_entry ([.ref (a 0), .int p0, .int p1]) (n := 3) (Nat.le_of_ble_eq_true rfl)
  rw [lg_entry_eq]
  generalize (lg_sl ([.ref (a 0), .int p0, .int p1]) ++ List.replicate (3 - (lg_sl ([.ref (a 0), .int p0, .int p1])).length) Slot.unset).toArray = ls at hl ⊢
  have hl : lv_has ls 3 [(0, .ref (a 0)), (1, .int p0), (2, .int p1)] := hl
  refine lv_aload_n hx hb dX8_run_0 rfl (lv_at hl 0 rfl) ?_
  refine lv_iload_n hx hb dX8_run_1 rfl (lv_at hl 1 rfl) ?_
  refine lv_iload_n hx hb dX8_run_2 rfl (lv_at hl 2 rfl) ?_
  refine va_calli (va_runV (As := [.int p0, .int p1]) (rest := []) ⟨hx, hb, hml, hown, hts⟩ (c_X8_isStep l dC dI _ a k p0 p1) (cwV 2 hts g_X8_run_X8_isStep rfl rfl rfl (by decide +kernel) ⟨Nat.le_of_ble_eq_true rfl, Nat.le_of_ble_eq_true rfl⟩) ⟨pu_bl, va_recv hK hP (ci := 8) (q0 := 0) rfl rfl, pu_in hP hK hD⟩ rfl rfl hl.1 rfl (lv_room (Nat.le_of_ble_eq_true rfl)) dX8_run_3 ⟨Nat.le_of_ble_eq_true rfl, Nat.le_of_ble_eq_true rfl⟩) hS (fun q _ h => pu_fr hS hA q h) (pu_fr hS hA) (fun r_1 u t H1 locs ht hvm hw hB hz1 hk1 hS => ?_)
  have hP := pu_keep hP hk1
  clear hk1 hz1 hB ht hvm
  generalize H1 = H at hP hS ⊢
  obtain rfl : r_1 = 0 := hw
  refine lv_if_ne (tgt := 11) hx hb dX8_run_6 (by decide) (fun z => absurd z (by decide)) (fun _ => ?_)
  refine lv_iconst (v := (-1)) hx hb dX8_run_9 (by decide) ?_
  exact W.iret (v := (-1)) hx hb hr (fun t ht hW => ⟨⟨(-1), (), rfl, by first | rfl | decide | simp_all, trivial⟩, hS.F ht⟩) hS.2.2 dX8_run_10
theorem dX8_when_0 : decode cX8_when 0 = .ok (.aload_n 0, 1) := by decide +kernel
theorem dX8_when_1 : decode cX8_when 1 = .ok (.iload_n 1, 1) := by decide +kernel
theorem dX8_when_2 : decode cX8_when 2 = .ok (.iload_n 2, 1) := by decide +kernel
theorem dX8_when_3 : decode cX8_when 3 = .ok (.invokevirtual 320, 3) := by decide +kernel
theorem dX8_when_6 : decode cX8_when 6 = .ok (.ifCond .eq 11, 3) := by decide +kernel
theorem dX8_when_17 : decode cX8_when 17 = .ok (.iconst (-1), 1) := by decide +kernel
theorem dX8_when_18 : decode cX8_when 18 = .ok (.ireturn, 1) := by decide +kernel
def vs_X8_when : List Cond := .code yX8_when cX8_when 3 (some .int) :: ([.methodLink RX8 320 yX8_isStep, .instanceMethod yX8_isStep, .selects RX8 yX8_isStep yX8_isStep, .initialized RX8, .code yX8_isStep cX8_isStep 3 (some .boolean), .methodLink RX8 228 yX8_isState, .instanceMethod yX8_isState, .selects RX8 yX8_isState yX8_isState, .code yX8_isState cX8_isState 2 (some .boolean), .fieldLink RX8 100 "ClockReach" "hasShown" "Z"] ++ wsX80)
theorem g_X8_when_X8_isStep : GoodIn vs_X8_when (wsV RX8 320 RX8 yX8_isStep vs_X8_isStep) := goodIn_r _ [1, 2, 3, 4, 5, 6, 7, 8, 4, 9, 10, 11, 12, 13, 14, 15, 16, 17, 18, 19, 20, 21, 22, 23, 24, 25, 26] (by decide +kernel) (by decide +kernel)
set_option maxHeartbeats 4000000 in
set_option maxRecDepth 100000 in
theorem c_X8_when (l : Launch) (dC : Nat → ClassId) (dI : Nat → Nat → Nat) (sz : Nat) (a : Nat → Nat) (k : Nat → ClassId) (p0 : Int32) (p1 : Int32) : Met l yX8_when vs_X8_when ({ frames := 2, cells := 0, slots := 0, locals := 43 }) (va_Pc [.ref (a 0), .int p0, .int p1] (pu_B (dC, dI) (wX a k) (tX k) sz)) (va_Qi (fun (r : Int32) (_ : Unit) => r = -1) (fun _ _ => True) (va_A [] sz)) 0 0 (va_A [] sz) := by
  refine Met.ofW (cc := cX8_when) (maxL := 3) (ret := (some .int)) (by decide) rfl ?_
  intro p e s m args below meth c s₁ B hml hv
  obtain ⟨rfl, rfl, hP, hK, hD0⟩ := hv
  have hx := B.exec
  have hb := B.bytes
  have hr := B.returns
  have hts := atoms_spec (ws := vs_X8_when) B.pre
  have hown : s.vm.findClass RX8 = some m.cls := findClass_of_methodNamed B.named
  have hlocks := B.notSynchronized
  have hD := hD0
  have hA : ∀ q : Nat, s.heap.size ≤ q → va_A [] s.heap.size q := fun _ h => Or.inr h
  have hS : va_S (va_A [] s.heap.size) s.heap s.heap [] := va_S.rf
  have hl := lv_entry ([.ref (a 0), .int p0, .int p1]) (n := 3) (Nat.le_of_ble_eq_true rfl)
  rw [lg_entry_eq]
  generalize (lg_sl ([.ref (a 0), .int p0, .int p1]) ++ List.replicate (3 - (lg_sl ([.ref (a 0), .int p0, .int p1])).length) Slot.unset).toArray = ls at hl ⊢
  have hl : lv_has ls 3 [(0, .ref (a 0)), (1, .int p0), (2, .int p1)] := hl
  refine lv_aload_n hx hb dX8_when_0 rfl (lv_at hl 0 rfl) ?_
  refine lv_iload_n hx hb dX8_when_1 rfl (lv_at hl 1 rfl) ?_
  refine lv_iload_n hx hb dX8_when_2 rfl (lv_at hl 2 rfl) ?_
  refine va_calli (va_runV (As := [.int p0, .int p1]) (rest := []) ⟨hx, hb, hml, hown, hts⟩ (c_X8_isStep l dC dI _ a k p0 p1) (cwV 2 hts g_X8_when_X8_isStep rfl rfl rfl (by decide +kernel) ⟨Nat.le_of_ble_eq_true rfl, Nat.le_of_ble_eq_true rfl⟩) ⟨pu_bl, va_recv hK hP (ci := 8) (q0 := 0) rfl rfl, pu_in hP hK hD⟩ rfl rfl hl.1 rfl (lv_room (Nat.le_of_ble_eq_true rfl)) dX8_when_3 ⟨Nat.le_of_ble_eq_true rfl, Nat.le_of_ble_eq_true rfl⟩) hS (fun q _ h => pu_fr hS hA q h) (pu_fr hS hA) (fun r_1 u t H1 locs ht hvm hw hB hz1 hk1 hS => ?_)
  have hP := pu_keep hP hk1
  clear hk1 hz1 hB ht hvm
  generalize H1 = H at hP hS ⊢
  obtain rfl : r_1 = 0 := hw
  refine lv_if_eq (tgt := 17) hx hb dX8_when_6 (by decide) (fun _ => ?_) (fun z => absurd z (by decide))
  refine lv_iconst (v := (-1)) hx hb dX8_when_17 (by decide) ?_
  exact W.iret (v := (-1)) hx hb hr (fun t ht hW => ⟨⟨(-1), (), rfl, by first | rfl | decide | simp_all, trivial⟩, hS.F ht⟩) hS.2.2 dX8_when_18
theorem dX8_then_0 : decode cX8_then 0 = .ok (.aload_n 0, 1) := by decide +kernel
theorem dX8_then_1 : decode cX8_then 1 = .ok (.iload_n 1, 1) := by decide +kernel
theorem dX8_then_2 : decode cX8_then 2 = .ok (.iload_n 2, 1) := by decide +kernel
theorem dX8_then_3 : decode cX8_then 3 = .ok (.invokevirtual 320, 3) := by decide +kernel
theorem dX8_then_6 : decode cX8_then 6 = .ok (.ifCond .eq 19, 3) := by decide +kernel
theorem dX8_then_25 : decode cX8_then 25 = .ok (.iconst (-1), 1) := by decide +kernel
theorem dX8_then_26 : decode cX8_then 26 = .ok (.ireturn, 1) := by decide +kernel
def vs_X8_then : List Cond := .code yX8_then cX8_then 4 (some .int) :: ([.methodLink RX8 320 yX8_isStep, .instanceMethod yX8_isStep, .selects RX8 yX8_isStep yX8_isStep, .initialized RX8, .code yX8_isStep cX8_isStep 3 (some .boolean), .methodLink RX8 228 yX8_isState, .instanceMethod yX8_isState, .selects RX8 yX8_isState yX8_isState, .code yX8_isState cX8_isState 2 (some .boolean), .fieldLink RX8 100 "ClockReach" "hasShown" "Z"] ++ wsX80)
theorem g_X8_then_X8_isStep : GoodIn vs_X8_then (wsV RX8 320 RX8 yX8_isStep vs_X8_isStep) := goodIn_r _ [1, 2, 3, 4, 5, 6, 7, 8, 4, 9, 10, 11, 12, 13, 14, 15, 16, 17, 18, 19, 20, 21, 22, 23, 24, 25, 26] (by decide +kernel) (by decide +kernel)
set_option maxHeartbeats 4000000 in
set_option maxRecDepth 100000 in
theorem c_X8_then (l : Launch) (dC : Nat → ClassId) (dI : Nat → Nat → Nat) (sz : Nat) (a : Nat → Nat) (k : Nat → ClassId) (p0 : Int32) (p1 : Int32) (p2 : Int32) : Met l yX8_then vs_X8_then ({ frames := 2, cells := 0, slots := 0, locals := 43 }) (va_Pc [.ref (a 0), .int p0, .int p1, .int p2] (pu_B (dC, dI) (wX a k) (tX k) sz)) (va_Qi (fun (r : Int32) (_ : Unit) => r = -1) (fun _ _ => True) (va_A [] sz)) 0 0 (va_A [] sz) := by
  refine Met.ofW (cc := cX8_then) (maxL := 4) (ret := (some .int)) (by decide) rfl ?_
  intro p e s m args below meth c s₁ B hml hv
  obtain ⟨rfl, rfl, hP, hK, hD0⟩ := hv
  have hx := B.exec
  have hb := B.bytes
  have hr := B.returns
  have hts := atoms_spec (ws := vs_X8_then) B.pre
  have hown : s.vm.findClass RX8 = some m.cls := findClass_of_methodNamed B.named
  have hlocks := B.notSynchronized
  have hD := hD0
  have hA : ∀ q : Nat, s.heap.size ≤ q → va_A [] s.heap.size q := fun _ h => Or.inr h
  have hS : va_S (va_A [] s.heap.size) s.heap s.heap [] := va_S.rf
  have hl := lv_entry ([.ref (a 0), .int p0, .int p1, .int p2]) (n := 4) (Nat.le_of_ble_eq_true rfl)
  rw [lg_entry_eq]
  generalize (lg_sl ([.ref (a 0), .int p0, .int p1, .int p2]) ++ List.replicate (4 - (lg_sl ([.ref (a 0), .int p0, .int p1, .int p2])).length) Slot.unset).toArray = ls at hl ⊢
  have hl : lv_has ls 4 [(0, .ref (a 0)), (1, .int p0), (2, .int p1), (3, .int p2)] := hl
  refine lv_aload_n hx hb dX8_then_0 rfl (lv_at hl 0 rfl) ?_
  refine lv_iload_n hx hb dX8_then_1 rfl (lv_at hl 1 rfl) ?_
  refine lv_iload_n hx hb dX8_then_2 rfl (lv_at hl 2 rfl) ?_
  refine va_calli (va_runV (As := [.int p0, .int p1]) (rest := []) ⟨hx, hb, hml, hown, hts⟩ (c_X8_isStep l dC dI _ a k p0 p1) (cwV 2 hts g_X8_then_X8_isStep rfl rfl rfl (by decide +kernel) ⟨Nat.le_of_ble_eq_true rfl, Nat.le_of_ble_eq_true rfl⟩) ⟨pu_bl, va_recv hK hP (ci := 8) (q0 := 0) rfl rfl, pu_in hP hK hD⟩ rfl rfl hl.1 rfl (lv_room (Nat.le_of_ble_eq_true rfl)) dX8_then_3 ⟨Nat.le_of_ble_eq_true rfl, Nat.le_of_ble_eq_true rfl⟩) hS (fun q _ h => pu_fr hS hA q h) (pu_fr hS hA) (fun r_1 u t H1 locs ht hvm hw hB hz1 hk1 hS => ?_)
  have hP := pu_keep hP hk1
  clear hk1 hz1 hB ht hvm
  generalize H1 = H at hP hS ⊢
  obtain rfl : r_1 = 0 := hw
  refine lv_if_eq (tgt := 25) hx hb dX8_then_6 (by decide) (fun _ => ?_) (fun z => absurd z (by decide))
  refine lv_iconst (v := (-1)) hx hb dX8_then_25 (by decide) ?_
  exact W.iret (v := (-1)) hx hb hr (fun t ht hW => ⟨⟨(-1), (), rfl, by first | rfl | decide | simp_all, trivial⟩, hS.F ht⟩) hS.2.2 dX8_then_26
theorem dX8_spans_0 : decode cX8_spans 0 = .ok (.aload_n 0, 1) := by decide +kernel
theorem dX8_spans_1 : decode cX8_spans 1 = .ok (.iload_n 1, 1) := by decide +kernel
theorem dX8_spans_2 : decode cX8_spans 2 = .ok (.invokevirtual 228, 3) := by decide +kernel
theorem dX8_spans_5 : decode cX8_spans 5 = .ok (.ifCond .ne 5, 3) := by decide +kernel
theorem dX8_spans_8 : decode cX8_spans 8 = .ok (.iconst (-1), 1) := by decide +kernel
theorem dX8_spans_9 : decode cX8_spans 9 = .ok (.ireturn, 1) := by decide +kernel
def vs_X8_spans : List Cond := .code yX8_spans cX8_spans 3 (some .int) :: ([.methodLink RX8 228 yX8_isState, .instanceMethod yX8_isState, .selects RX8 yX8_isState yX8_isState, .initialized RX8, .code yX8_isState cX8_isState 2 (some .boolean), .fieldLink RX8 100 "ClockReach" "hasShown" "Z"] ++ wsX80)
theorem g_X8_spans_X8_isState : GoodIn vs_X8_spans (wsV RX8 228 RX8 yX8_isState vs_X8_isState) := goodIn_r _ [1, 2, 3, 4, 5, 6, 7, 8, 9, 10, 11, 12, 13, 14, 15, 16, 17, 18, 19, 20, 21, 22] (by decide +kernel) (by decide +kernel)
set_option maxHeartbeats 4000000 in
set_option maxRecDepth 100000 in
theorem c_X8_spans (l : Launch) (dC : Nat → ClassId) (dI : Nat → Nat → Nat) (sz : Nat) (a : Nat → Nat) (k : Nat → ClassId) (p0 : Int32) (p1 : Int32) : Met l yX8_spans vs_X8_spans ({ frames := 1, cells := 0, slots := 0, locals := 21 }) (va_Pc [.ref (a 0), .int p0, .int p1] (pu_B (dC, dI) (wX a k) (tX k) sz)) (va_Qi (fun (r : Int32) (_ : Unit) => r = -1) (fun _ _ => True) (va_A [] sz)) 0 0 (va_A [] sz) := by
  refine Met.ofW (cc := cX8_spans) (maxL := 3) (ret := (some .int)) (by decide) rfl ?_
  intro p e s m args below meth c s₁ B hml hv
  obtain ⟨rfl, rfl, hP, hK, hD0⟩ := hv
  have hx := B.exec
  have hb := B.bytes
  have hr := B.returns
  have hts := atoms_spec (ws := vs_X8_spans) B.pre
  have hown : s.vm.findClass RX8 = some m.cls := findClass_of_methodNamed B.named
  have hlocks := B.notSynchronized
  have hD := hD0
  have hA : ∀ q : Nat, s.heap.size ≤ q → va_A [] s.heap.size q := fun _ h => Or.inr h
  have hS : va_S (va_A [] s.heap.size) s.heap s.heap [] := va_S.rf
  have hl := lv_entry ([.ref (a 0), .int p0, .int p1]) (n := 3) (Nat.le_of_ble_eq_true rfl)
  rw [lg_entry_eq]
  generalize (lg_sl ([.ref (a 0), .int p0, .int p1]) ++ List.replicate (3 - (lg_sl ([.ref (a 0), .int p0, .int p1])).length) Slot.unset).toArray = ls at hl ⊢
  have hl : lv_has ls 3 [(0, .ref (a 0)), (1, .int p0), (2, .int p1)] := hl
  refine lv_aload_n hx hb dX8_spans_0 rfl (lv_at hl 0 rfl) ?_
  refine lv_iload_n hx hb dX8_spans_1 rfl (lv_at hl 1 rfl) ?_
  refine va_calli (va_runV (As := [.int p0]) (rest := []) ⟨hx, hb, hml, hown, hts⟩ (c_X8_isState l dC dI _ a k p0) (cwV 1 hts g_X8_spans_X8_isState rfl rfl rfl (by decide +kernel) ⟨Nat.le_of_ble_eq_true rfl, Nat.le_of_ble_eq_true rfl⟩) ⟨pu_bl, va_recv hK hP (ci := 8) (q0 := 0) rfl rfl, pu_in hP hK hD⟩ rfl rfl hl.1 rfl (lv_room (Nat.le_of_ble_eq_true rfl)) dX8_spans_2 ⟨Nat.le_of_ble_eq_true rfl, Nat.le_of_ble_eq_true rfl⟩) hS (fun q _ h => pu_fr hS hA q h) (pu_fr hS hA) (fun r_1 u t H1 locs ht hvm hw hB hz1 hk1 hS => ?_)
  have hP := pu_keep hP hk1
  clear hk1 hz1 hB ht hvm
  generalize H1 = H at hP hS ⊢
  obtain rfl : r_1 = 0 := hw
  refine lv_if_ne (tgt := 10) hx hb dX8_spans_5 (by decide) (fun z => absurd z (by decide)) (fun _ => ?_)
  refine lv_iconst (v := (-1)) hx hb dX8_spans_8 (by decide) ?_
  exact W.iret (v := (-1)) hx hb hr (fun t ht hW => ⟨⟨(-1), (), rfl, by first | rfl | decide | simp_all, trivial⟩, hS.F ht⟩) hS.2.2 dX8_spans_9
theorem dX8_tells_0 : decode cX8_tells 0 = .ok (.aload_n 0, 1) := by decide +kernel
theorem dX8_tells_1 : decode cX8_tells 1 = .ok (.getfield 23, 3) := by decide +kernel
theorem dX8_tells_4 : decode cX8_tells 4 = .ok (.getfield 97, 3) := by decide +kernel
theorem dX8_tells_7 : decode cX8_tells 7 = .ok (.ifCond .ne 5, 3) := by decide +kernel
theorem dX8_tells_10 : decode cX8_tells 10 = .ok (.iconst (-1), 1) := by decide +kernel
theorem dX8_tells_11 : decode cX8_tells 11 = .ok (.ireturn, 1) := by decide +kernel
def vs_X8_tells : List Cond := .code yX8_tells cX8_tells 10 (some .int) :: ([.fieldLink RX8 23 "ClockReach" "model" "LClockReach$Automaton;", .fieldLink RX8 97 "ClockReach$Automaton" "places" "I"] ++ wsX80 ++ wsX00)
set_option maxHeartbeats 4000000 in
set_option maxRecDepth 100000 in
theorem c_X8_tells (l : Launch) (dC : Nat → ClassId) (dI : Nat → Nat → Nat) (sz : Nat) (a : Nat → Nat) (k : Nat → ClassId) (p0 : Int32) (p1 : Int32) (p2 : Int32) (p3 : Int32) (p4 : Int32) (p5 : Int32) : Met l yX8_tells vs_X8_tells ({ frames := 0, cells := 0, slots := 0, locals := 0 }) (va_Pc [.ref (a 0), .int p0, .int p1, .int p2, .int p3, .int p4, .int p5] (pu_B (dC, dI) (wX a k) (tX k) sz)) (va_Qi (fun (r : Int32) (_ : Unit) => r = -1) (fun _ _ => True) (va_A [] sz)) 0 0 (va_A [] sz) := by
  refine Met.ofW (cc := cX8_tells) (maxL := 10) (ret := (some .int)) (by decide) rfl ?_
  intro p e s m args below meth c s₁ B hml hv
  obtain ⟨rfl, rfl, hP, hK, hD0⟩ := hv
  have hx := B.exec
  have hb := B.bytes
  have hr := B.returns
  have hts := atoms_spec (ws := vs_X8_tells) B.pre
  have v_1 := hts (.fieldLink RX8 23 "ClockReach" "model" "LClockReach$Automaton;") (List.mem_of_getElem? (i := 1) rfl)
  have v_2 := hts (.fieldLink RX8 97 "ClockReach$Automaton" "places" "I") (List.mem_of_getElem? (i := 2) rfl)
  have hown : s.vm.findClass RX8 = some m.cls := findClass_of_methodNamed B.named
  have hlocks := B.notSynchronized
  have hiX0 : ∀ w ∈ wsX00, w ∈ vs_X8_tells := fun _ h => List.mem_cons_of_mem _ (List.mem_append_right _ h)
  have hiX8 : ∀ w ∈ wsX80, w ∈ vs_X8_tells := fun _ h => List.mem_cons_of_mem _ (List.mem_append_left _ (List.mem_append_right _ h))
  have hD := hD0
  have hA : ∀ q : Nat, s.heap.size ≤ q → va_A [] s.heap.size q := fun _ h => Or.inr h
  have hS : va_S (va_A [] s.heap.size) s.heap s.heap [] := va_S.rf
  have hl := lv_entry ([.ref (a 0), .int p0, .int p1, .int p2, .int p3, .int p4, .int p5]) (n := 10) (Nat.le_of_ble_eq_true rfl)
  rw [lg_entry_eq]
  generalize (lg_sl ([.ref (a 0), .int p0, .int p1, .int p2, .int p3, .int p4, .int p5]) ++ List.replicate (10 - (lg_sl ([.ref (a 0), .int p0, .int p1, .int p2, .int p3, .int p4, .int p5])).length) Slot.unset).toArray = ls at hl ⊢
  have hl : lv_has ls 10 [(0, .ref (a 0)), (1, .int p0), (2, .int p1), (3, .int p2), (4, .int p3), (5, .int p4), (6, .int p5)] := hl
  refine lv_aload_n hx hb dX8_tells_0 rfl (lv_at hl 0 rfl) ?_
  refine va_get (D := (dC, dI)) (ci := 8) (v := .ref (a 1)) (C := RX8) (T := TX8) (N := 16) hx hb hts hiX8 hown hK hP 0 rfl rfl 3 (by decide) v_1 (fun _ h9 => h9) rfl dX8_tells_1 ?_
  refine va_get (D := (dC, dI)) (ci := 0) (v := .int 0) (C := RX0) (T := TX0) (N := 17) hx hb hts hiX0 hown hK hP 1 rfl rfl 1 (by decide) v_2 (fun _ h9 => h9) rfl dX8_tells_4 ?_
  refine lv_if_ne (tgt := 12) hx hb dX8_tells_7 (by decide) (fun z => absurd z (by decide)) (fun _ => ?_)
  refine lv_iconst (v := (-1)) hx hb dX8_tells_10 (by decide) ?_
  exact W.iret (v := (-1)) hx hb hr (fun t ht hW => ⟨⟨(-1), (), rfl, by first | rfl | decide | simp_all, trivial⟩, hS.F ht⟩) hS.2.2 dX8_tells_11
theorem dX8_latest_0 : decode cX8_latest 0 = .ok (.aload_n 0, 1) := by decide +kernel
theorem dX8_latest_1 : decode cX8_latest 1 = .ok (.iload_n 1, 1) := by decide +kernel
theorem dX8_latest_2 : decode cX8_latest 2 = .ok (.iload_n 2, 1) := by decide +kernel
theorem dX8_latest_3 : decode cX8_latest 3 = .ok (.invokevirtual 320, 3) := by decide +kernel
theorem dX8_latest_6 : decode cX8_latest 6 = .ok (.ifCond .eq 14, 3) := by decide +kernel
theorem dX8_latest_20 : decode cX8_latest 20 = .ok (.iconst (-1), 1) := by decide +kernel
theorem dX8_latest_21 : decode cX8_latest 21 = .ok (.ireturn, 1) := by decide +kernel
def vs_X8_latest : List Cond := .code yX8_latest cX8_latest 4 (some .int) :: ([.methodLink RX8 320 yX8_isStep, .instanceMethod yX8_isStep, .selects RX8 yX8_isStep yX8_isStep, .initialized RX8, .code yX8_isStep cX8_isStep 3 (some .boolean), .methodLink RX8 228 yX8_isState, .instanceMethod yX8_isState, .selects RX8 yX8_isState yX8_isState, .code yX8_isState cX8_isState 2 (some .boolean), .fieldLink RX8 100 "ClockReach" "hasShown" "Z"] ++ wsX80)
theorem g_X8_latest_X8_isStep : GoodIn vs_X8_latest (wsV RX8 320 RX8 yX8_isStep vs_X8_isStep) := goodIn_r _ [1, 2, 3, 4, 5, 6, 7, 8, 4, 9, 10, 11, 12, 13, 14, 15, 16, 17, 18, 19, 20, 21, 22, 23, 24, 25, 26] (by decide +kernel) (by decide +kernel)
set_option maxHeartbeats 4000000 in
set_option maxRecDepth 100000 in
theorem c_X8_latest (l : Launch) (dC : Nat → ClassId) (dI : Nat → Nat → Nat) (sz : Nat) (a : Nat → Nat) (k : Nat → ClassId) (p0 : Int32) (p1 : Int32) (p2 : Int32) : Met l yX8_latest vs_X8_latest ({ frames := 2, cells := 0, slots := 0, locals := 43 }) (va_Pc [.ref (a 0), .int p0, .int p1, .int p2] (pu_B (dC, dI) (wX a k) (tX k) sz)) (va_Qi (fun (r : Int32) (_ : Unit) => r = -1) (fun _ _ => True) (va_A [] sz)) 0 0 (va_A [] sz) := by
  refine Met.ofW (cc := cX8_latest) (maxL := 4) (ret := (some .int)) (by decide) rfl ?_
  intro p e s m args below meth c s₁ B hml hv
  obtain ⟨rfl, rfl, hP, hK, hD0⟩ := hv
  have hx := B.exec
  have hb := B.bytes
  have hr := B.returns
  have hts := atoms_spec (ws := vs_X8_latest) B.pre
  have hown : s.vm.findClass RX8 = some m.cls := findClass_of_methodNamed B.named
  have hlocks := B.notSynchronized
  have hD := hD0
  have hA : ∀ q : Nat, s.heap.size ≤ q → va_A [] s.heap.size q := fun _ h => Or.inr h
  have hS : va_S (va_A [] s.heap.size) s.heap s.heap [] := va_S.rf
  have hl := lv_entry ([.ref (a 0), .int p0, .int p1, .int p2]) (n := 4) (Nat.le_of_ble_eq_true rfl)
  rw [lg_entry_eq]
  generalize (lg_sl ([.ref (a 0), .int p0, .int p1, .int p2]) ++ List.replicate (4 - (lg_sl ([.ref (a 0), .int p0, .int p1, .int p2])).length) Slot.unset).toArray = ls at hl ⊢
  have hl : lv_has ls 4 [(0, .ref (a 0)), (1, .int p0), (2, .int p1), (3, .int p2)] := hl
  refine lv_aload_n hx hb dX8_latest_0 rfl (lv_at hl 0 rfl) ?_
  refine lv_iload_n hx hb dX8_latest_1 rfl (lv_at hl 1 rfl) ?_
  refine lv_iload_n hx hb dX8_latest_2 rfl (lv_at hl 2 rfl) ?_
  refine va_calli (va_runV (As := [.int p0, .int p1]) (rest := []) ⟨hx, hb, hml, hown, hts⟩ (c_X8_isStep l dC dI _ a k p0 p1) (cwV 2 hts g_X8_latest_X8_isStep rfl rfl rfl (by decide +kernel) ⟨Nat.le_of_ble_eq_true rfl, Nat.le_of_ble_eq_true rfl⟩) ⟨pu_bl, va_recv hK hP (ci := 8) (q0 := 0) rfl rfl, pu_in hP hK hD⟩ rfl rfl hl.1 rfl (lv_room (Nat.le_of_ble_eq_true rfl)) dX8_latest_3 ⟨Nat.le_of_ble_eq_true rfl, Nat.le_of_ble_eq_true rfl⟩) hS (fun q _ h => pu_fr hS hA q h) (pu_fr hS hA) (fun r_1 u t H1 locs ht hvm hw hB hz1 hk1 hS => ?_)
  have hP := pu_keep hP hk1
  clear hk1 hz1 hB ht hvm
  generalize H1 = H at hP hS ⊢
  obtain rfl : r_1 = 0 := hw
  refine lv_if_eq (tgt := 20) hx hb dX8_latest_6 (by decide) (fun _ => ?_) (fun z => absurd z (by decide))
  refine lv_iconst (v := (-1)) hx hb dX8_latest_20 (by decide) ?_
  exact W.iret (v := (-1)) hx hb hr (fun t ht hW => ⟨⟨(-1), (), rfl, by first | rfl | decide | simp_all, trivial⟩, hS.F ht⟩) hS.2.2 dX8_latest_21
theorem dX8_soonest_0 : decode cX8_soonest 0 = .ok (.aload_n 0, 1) := by decide +kernel
theorem dX8_soonest_1 : decode cX8_soonest 1 = .ok (.iload_n 1, 1) := by decide +kernel
theorem dX8_soonest_2 : decode cX8_soonest 2 = .ok (.invokevirtual 140, 3) := by decide +kernel
theorem dX8_soonest_5 : decode cX8_soonest 5 = .ok (.ifCond .eq 12, 3) := by decide +kernel
theorem dX8_soonest_17 : decode cX8_soonest 17 = .ok (.iconst (-1), 1) := by decide +kernel
theorem dX8_soonest_18 : decode cX8_soonest 18 = .ok (.ireturn, 1) := by decide +kernel
def vs_X8_soonest : List Cond := .code yX8_soonest cX8_soonest 4 (some .int) :: ([.methodLink RX8 140 yX8_isPlace, .instanceMethod yX8_isPlace, .selects RX8 yX8_isPlace yX8_isPlace, .initialized RX8, .code yX8_isPlace cX8_isPlace 2 (some .boolean), .fieldLink RX8 23 "ClockReach" "model" "LClockReach$Automaton;", .fieldLink RX8 97 "ClockReach$Automaton" "places" "I"] ++ wsX80 ++ wsX00)
theorem g_X8_soonest_X8_isPlace : GoodIn vs_X8_soonest (wsV RX8 140 RX8 yX8_isPlace vs_X8_isPlace) := goodIn_r _ [1, 2, 3, 4, 5, 6, 7, 8, 9, 10, 11, 12, 13, 14, 15, 16, 17, 18, 19, 20, 21, 22, 23, 24, 25, 26, 27, 28, 29, 30, 31, 32, 33, 34, 35, 36, 37, 38, 39, 40] (by decide +kernel) (by decide +kernel)
set_option maxHeartbeats 4000000 in
set_option maxRecDepth 100000 in
theorem c_X8_soonest (l : Launch) (dC : Nat → ClassId) (dI : Nat → Nat → Nat) (sz : Nat) (a : Nat → Nat) (k : Nat → ClassId) (p0 : Int32) (p1 : Int32) : Met l yX8_soonest vs_X8_soonest ({ frames := 1, cells := 0, slots := 0, locals := 21 }) (va_Pc [.ref (a 0), .int p0, .int p1] (pu_B (dC, dI) (wX a k) (tX k) sz)) (va_Qi (fun (r : Int32) (_ : Unit) => r = -1) (fun _ _ => True) (va_A [] sz)) 0 0 (va_A [] sz) := by
  refine Met.ofW (cc := cX8_soonest) (maxL := 4) (ret := (some .int)) (by decide) rfl ?_
  intro p e s m args below meth c s₁ B hml hv
  obtain ⟨rfl, rfl, hP, hK, hD0⟩ := hv
  have hx := B.exec
  have hb := B.bytes
  have hr := B.returns
  have hts := atoms_spec (ws := vs_X8_soonest) B.pre
  have hown : s.vm.findClass RX8 = some m.cls := findClass_of_methodNamed B.named
  have hlocks := B.notSynchronized
  have hD := hD0
  have hA : ∀ q : Nat, s.heap.size ≤ q → va_A [] s.heap.size q := fun _ h => Or.inr h
  have hS : va_S (va_A [] s.heap.size) s.heap s.heap [] := va_S.rf
  have hl := lv_entry ([.ref (a 0), .int p0, .int p1]) (n := 4) (Nat.le_of_ble_eq_true rfl)
  rw [lg_entry_eq]
  generalize (lg_sl ([.ref (a 0), .int p0, .int p1]) ++ List.replicate (4 - (lg_sl ([.ref (a 0), .int p0, .int p1])).length) Slot.unset).toArray = ls at hl ⊢
  have hl : lv_has ls 4 [(0, .ref (a 0)), (1, .int p0), (2, .int p1)] := hl
  refine lv_aload_n hx hb dX8_soonest_0 rfl (lv_at hl 0 rfl) ?_
  refine lv_iload_n hx hb dX8_soonest_1 rfl (lv_at hl 1 rfl) ?_
  refine va_calli (va_runV (As := [.int p0]) (rest := []) ⟨hx, hb, hml, hown, hts⟩ (c_X8_isPlace l dC dI _ a k p0) (cwV 1 hts g_X8_soonest_X8_isPlace rfl rfl rfl (by decide +kernel) ⟨Nat.le_of_ble_eq_true rfl, Nat.le_of_ble_eq_true rfl⟩) ⟨pu_bl, va_recv hK hP (ci := 8) (q0 := 0) rfl rfl, pu_in hP hK hD⟩ rfl rfl hl.1 rfl (lv_room (Nat.le_of_ble_eq_true rfl)) dX8_soonest_2 ⟨Nat.le_of_ble_eq_true rfl, Nat.le_of_ble_eq_true rfl⟩) hS (fun q _ h => pu_fr hS hA q h) (pu_fr hS hA) (fun r_1 u t H1 locs ht hvm hw hB hz1 hk1 hS => ?_)
  have hP := pu_keep hP hk1
  clear hk1 hz1 hB ht hvm
  generalize H1 = H at hP hS ⊢
  obtain rfl : r_1 = 0 := hw
  refine lv_if_eq (tgt := 17) hx hb dX8_soonest_5 (by decide) (fun _ => ?_) (fun z => absurd z (by decide))
  refine lv_iconst (v := (-1)) hx hb dX8_soonest_17 (by decide) ?_
  exact W.iret (v := (-1)) hx hb hr (fun t ht hW => ⟨⟨(-1), (), rfl, by first | rfl | decide | simp_all, trivial⟩, hS.F ht⟩) hS.2.2 dX8_soonest_18
theorem dX8_lets_0 : decode cX8_lets 0 = .ok (.aload_n 0, 1) := by decide +kernel
theorem dX8_lets_1 : decode cX8_lets 1 = .ok (.iload_n 1, 1) := by decide +kernel
theorem dX8_lets_2 : decode cX8_lets 2 = .ok (.iload_n 2, 1) := by decide +kernel
theorem dX8_lets_3 : decode cX8_lets 3 = .ok (.invokevirtual 171, 3) := by decide +kernel
theorem dX8_lets_6 : decode cX8_lets 6 = .ok (.istore 5, 2) := by decide +kernel
theorem dX8_lets_8 : decode cX8_lets 8 = .ok (.iload 5, 2) := by decide +kernel
theorem dX8_lets_10 : decode cX8_lets 10 = .ok (.iconst (-1), 1) := by decide +kernel
theorem dX8_lets_11 : decode cX8_lets 11 = .ok (.if_icmp .eq 22, 3) := by decide +kernel
theorem dX8_lets_33 : decode cX8_lets 33 = .ok (.iconst (-1), 1) := by decide +kernel
theorem dX8_lets_34 : decode cX8_lets 34 = .ok (.ireturn, 1) := by decide +kernel
def vs_X8_lets : List Cond := .code yX8_lets cX8_lets 10 (some .int) :: ([.methodLink RX8 171 yX8_slotOf, .instanceMethod yX8_slotOf, .selects RX8 yX8_slotOf yX8_slotOf, .initialized RX8, .code yX8_slotOf cX8_slotOf 4 (some .int), .methodLink RX8 165 yX8_isEdge, .instanceMethod yX8_isEdge, .selects RX8 yX8_isEdge yX8_isEdge, .code yX8_isEdge cX8_isEdge 2 (some .boolean), .fieldLink RX8 23 "ClockReach" "model" "LClockReach$Automaton;", .fieldLink RX8 119 "ClockReach$Automaton" "edges" "I", .methodLink RX8 140 yX8_isPlace, .instanceMethod yX8_isPlace, .selects RX8 yX8_isPlace yX8_isPlace, .code yX8_isPlace cX8_isPlace 2 (some .boolean), .fieldLink RX8 97 "ClockReach$Automaton" "places" "I"] ++ wsX80 ++ wsX00)
theorem g_X8_lets_X8_slotOf : GoodIn vs_X8_lets (wsV RX8 171 RX8 yX8_slotOf vs_X8_slotOf) := goodIn_r _ [1, 2, 3, 4, 5, 6, 7, 8, 4, 9, 10, 11, 12, 13, 14, 15, 16, 17, 18, 19, 20, 21, 22, 23, 24, 25, 26, 27, 28, 29, 30, 31, 32, 33, 34, 35, 36, 37, 38, 39, 40, 41, 42, 43, 44, 45, 46, 47, 48, 49] (by decide +kernel) (by decide +kernel)
set_option maxHeartbeats 4000000 in
set_option maxRecDepth 100000 in
theorem c_X8_lets (l : Launch) (dC : Nat → ClassId) (dI : Nat → Nat → Nat) (sz : Nat) (a : Nat → Nat) (k : Nat → ClassId) (p0 : Int32) (p1 : Int32) (p2 : Int32) (p3 : Int32) : Met l yX8_lets vs_X8_lets ({ frames := 2, cells := 0, slots := 0, locals := 44 }) (va_Pc [.ref (a 0), .int p0, .int p1, .int p2, .int p3] (pu_B (dC, dI) (wX a k) (tX k) sz)) (va_Qi (fun (r : Int32) (_ : Unit) => r = -1) (fun _ _ => True) (va_A [] sz)) 0 0 (va_A [] sz) := by
  refine Met.ofW (cc := cX8_lets) (maxL := 10) (ret := (some .int)) (by decide) rfl ?_
  intro p e s m args below meth c s₁ B hml hv
  obtain ⟨rfl, rfl, hP, hK, hD0⟩ := hv
  have hx := B.exec
  have hb := B.bytes
  have hr := B.returns
  have hts := atoms_spec (ws := vs_X8_lets) B.pre
  have hown : s.vm.findClass RX8 = some m.cls := findClass_of_methodNamed B.named
  have hlocks := B.notSynchronized
  have hD := hD0
  have hA : ∀ q : Nat, s.heap.size ≤ q → va_A [] s.heap.size q := fun _ h => Or.inr h
  have hS : va_S (va_A [] s.heap.size) s.heap s.heap [] := va_S.rf
  have hl := lv_entry ([.ref (a 0), .int p0, .int p1, .int p2, .int p3]) (n := 10) (Nat.le_of_ble_eq_true rfl)
  rw [lg_entry_eq]
  generalize (lg_sl ([.ref (a 0), .int p0, .int p1, .int p2, .int p3]) ++ List.replicate (10 - (lg_sl ([.ref (a 0), .int p0, .int p1, .int p2, .int p3])).length) Slot.unset).toArray = ls at hl ⊢
  have hl : lv_has ls 10 [(0, .ref (a 0)), (1, .int p0), (2, .int p1), (3, .int p2), (4, .int p3)] := hl
  refine lv_aload_n hx hb dX8_lets_0 rfl (lv_at hl 0 rfl) ?_
  refine lv_iload_n hx hb dX8_lets_1 rfl (lv_at hl 1 rfl) ?_
  refine lv_iload_n hx hb dX8_lets_2 rfl (lv_at hl 2 rfl) ?_
  refine va_calli (va_runV (As := [.int p0, .int p1]) (rest := []) ⟨hx, hb, hml, hown, hts⟩ (c_X8_slotOf l dC dI _ a k p0 p1) (cwV 2 hts g_X8_lets_X8_slotOf rfl rfl rfl (by decide +kernel) ⟨Nat.le_of_ble_eq_true rfl, Nat.le_of_ble_eq_true rfl⟩) ⟨pu_bl, va_recv hK hP (ci := 8) (q0 := 0) rfl rfl, pu_in hP hK hD⟩ rfl rfl hl.1 rfl (lv_room (Nat.le_of_ble_eq_true rfl)) dX8_lets_3 ⟨Nat.le_of_ble_eq_true rfl, Nat.le_of_ble_eq_true rfl⟩) hS (fun q _ h => pu_fr hS hA q h) (pu_fr hS hA) (fun r_1 u t H1 locs ht hvm hw hB hz1 hk1 hS => ?_)
  have hP := pu_keep hP hk1
  clear hk1 hz1 hB ht hvm
  generalize H1 = H at hP hS ⊢
  obtain rfl : r_1 = (-1) := hw
  refine lv_istore (lv' := [(5, .int (-1)), (0, .ref (a 0)), (1, .int p0), (2, .int p1), (3, .int p2), (4, .int p3)]) hx hb dX8_lets_6 hl (by decide) rfl (fun ls hl => ?_)
  refine lv_iload hx hb dX8_lets_8 (lv_at hl 0 rfl) ?_
  refine lv_iconst (v := (-1)) hx hb dX8_lets_10 (by decide) ?_
  refine lv_icmp_eq (tgt := 33) hx hb dX8_lets_11 (by decide) (fun _ => ?_) (fun z => absurd z (by decide))
  refine lv_iconst (v := (-1)) hx hb dX8_lets_33 (by decide) ?_
  exact W.iret (v := (-1)) hx hb hr (fun t ht hW => ⟨⟨(-1), (), rfl, by first | rfl | decide | simp_all, trivial⟩, hS.F ht⟩) hS.2.2 dX8_lets_34
theorem dX8_takes_0 : decode cX8_takes 0 = .ok (.aload_n 0, 1) := by decide +kernel
theorem dX8_takes_1 : decode cX8_takes 1 = .ok (.getfield 69, 3) := by decide +kernel
theorem dX8_takes_4 : decode cX8_takes 4 = .ok (.getfield 107, 3) := by decide +kernel
theorem dX8_takes_7 : decode cX8_takes 7 = .ok (.ifCond .eq 26, 3) := by decide +kernel
theorem dX8_takes_33 : decode cX8_takes 33 = .ok (.iconst (-1), 1) := by decide +kernel
theorem dX8_takes_34 : decode cX8_takes 34 = .ok (.ireturn, 1) := by decide +kernel
def vs_X8_takes : List Cond := .code yX8_takes cX8_takes 2 (some .int) :: ([.fieldLink RX8 69 "ClockReach" "play" "LClockReach$Play;", .fieldLink RX8 107 "ClockReach$Play" "on" "Z"] ++ wsX80 ++ wsX30)
set_option maxHeartbeats 4000000 in
set_option maxRecDepth 100000 in
theorem c_X8_takes (l : Launch) (dC : Nat → ClassId) (dI : Nat → Nat → Nat) (sz : Nat) (a : Nat → Nat) (k : Nat → ClassId) (p0 : Int32) : Met l yX8_takes vs_X8_takes ({ frames := 0, cells := 0, slots := 0, locals := 0 }) (va_Pc [.ref (a 0), .int p0] (pu_B (dC, dI) (wX a k) (tX k) sz)) (va_Qi (fun (r : Int32) (_ : Unit) => r = -1) (fun _ _ => True) (va_A [] sz)) 0 0 (va_A [] sz) := by
  refine Met.ofW (cc := cX8_takes) (maxL := 2) (ret := (some .int)) (by decide) rfl ?_
  intro p e s m args below meth c s₁ B hml hv
  obtain ⟨rfl, rfl, hP, hK, hD0⟩ := hv
  have hx := B.exec
  have hb := B.bytes
  have hr := B.returns
  have hts := atoms_spec (ws := vs_X8_takes) B.pre
  have v_1 := hts (.fieldLink RX8 69 "ClockReach" "play" "LClockReach$Play;") (List.mem_of_getElem? (i := 1) rfl)
  have v_2 := hts (.fieldLink RX8 107 "ClockReach$Play" "on" "Z") (List.mem_of_getElem? (i := 2) rfl)
  have hown : s.vm.findClass RX8 = some m.cls := findClass_of_methodNamed B.named
  have hlocks := B.notSynchronized
  have hiX3 : ∀ w ∈ wsX30, w ∈ vs_X8_takes := fun _ h => List.mem_cons_of_mem _ (List.mem_append_right _ h)
  have hiX8 : ∀ w ∈ wsX80, w ∈ vs_X8_takes := fun _ h => List.mem_cons_of_mem _ (List.mem_append_left _ (List.mem_append_right _ h))
  have hD := hD0
  have hA : ∀ q : Nat, s.heap.size ≤ q → va_A [] s.heap.size q := fun _ h => Or.inr h
  have hS : va_S (va_A [] s.heap.size) s.heap s.heap [] := va_S.rf
  have hl := lv_entry ([.ref (a 0), .int p0]) (n := 2) (Nat.le_of_ble_eq_true rfl)
  rw [lg_entry_eq]
  generalize (lg_sl ([.ref (a 0), .int p0]) ++ List.replicate (2 - (lg_sl ([.ref (a 0), .int p0])).length) Slot.unset).toArray = ls at hl ⊢
  have hl : lv_has ls 2 [(0, .ref (a 0)), (1, .int p0)] := hl
  refine lv_aload_n hx hb dX8_takes_0 rfl (lv_at hl 0 rfl) ?_
  refine va_get (D := (dC, dI)) (ci := 8) (v := .ref (a 3)) (C := RX8) (T := TX8) (N := 16) hx hb hts hiX8 hown hK hP 0 rfl rfl 13 (by decide) v_1 (fun _ h9 => h9) rfl dX8_takes_1 ?_
  refine va_get (D := (dC, dI)) (ci := 3) (v := .int 0) (C := RX3) (T := TX3) (N := 5) hx hb hts hiX3 hown hK hP 3 rfl rfl 0 (by decide) v_2 (fun _ h9 => h9) rfl dX8_takes_4 ?_
  refine lv_if_eq (tgt := 33) hx hb dX8_takes_7 (by decide) (fun _ => ?_) (fun z => absurd z (by decide))
  refine lv_iconst (v := (-1)) hx hb dX8_takes_33 (by decide) ?_
  exact W.iret (v := (-1)) hx hb hr (fun t ht hW => ⟨⟨(-1), (), rfl, by first | rfl | decide | simp_all, trivial⟩, hS.F ht⟩) hS.2.2 dX8_takes_34
theorem dX8_now_0 : decode cX8_now 0 = .ok (.aload_n 0, 1) := by decide +kernel
theorem dX8_now_1 : decode cX8_now 1 = .ok (.getfield 69, 3) := by decide +kernel
theorem dX8_now_4 : decode cX8_now 4 = .ok (.getfield 107, 3) := by decide +kernel
theorem dX8_now_7 : decode cX8_now 7 = .ok (.ifCond .ne 5, 3) := by decide +kernel
theorem dX8_now_10 : decode cX8_now 10 = .ok (.iconst (-1), 1) := by decide +kernel
theorem dX8_now_11 : decode cX8_now 11 = .ok (.ireturn, 1) := by decide +kernel
def vs_X8_now : List Cond := .code yX8_now cX8_now 2 (some .int) :: ([.fieldLink RX8 69 "ClockReach" "play" "LClockReach$Play;", .fieldLink RX8 107 "ClockReach$Play" "on" "Z"] ++ wsX80 ++ wsX30)
set_option maxHeartbeats 4000000 in
set_option maxRecDepth 100000 in
theorem c_X8_now (l : Launch) (dC : Nat → ClassId) (dI : Nat → Nat → Nat) (sz : Nat) (a : Nat → Nat) (k : Nat → ClassId) (p0 : Int32) : Met l yX8_now vs_X8_now ({ frames := 0, cells := 0, slots := 0, locals := 0 }) (va_Pc [.ref (a 0), .int p0] (pu_B (dC, dI) (wX a k) (tX k) sz)) (va_Qi (fun (r : Int32) (_ : Unit) => r = -1) (fun _ _ => True) (va_A [] sz)) 0 0 (va_A [] sz) := by
  refine Met.ofW (cc := cX8_now) (maxL := 2) (ret := (some .int)) (by decide) rfl ?_
  intro p e s m args below meth c s₁ B hml hv
  obtain ⟨rfl, rfl, hP, hK, hD0⟩ := hv
  have hx := B.exec
  have hb := B.bytes
  have hr := B.returns
  have hts := atoms_spec (ws := vs_X8_now) B.pre
  have v_1 := hts (.fieldLink RX8 69 "ClockReach" "play" "LClockReach$Play;") (List.mem_of_getElem? (i := 1) rfl)
  have v_2 := hts (.fieldLink RX8 107 "ClockReach$Play" "on" "Z") (List.mem_of_getElem? (i := 2) rfl)
  have hown : s.vm.findClass RX8 = some m.cls := findClass_of_methodNamed B.named
  have hlocks := B.notSynchronized
  have hiX3 : ∀ w ∈ wsX30, w ∈ vs_X8_now := fun _ h => List.mem_cons_of_mem _ (List.mem_append_right _ h)
  have hiX8 : ∀ w ∈ wsX80, w ∈ vs_X8_now := fun _ h => List.mem_cons_of_mem _ (List.mem_append_left _ (List.mem_append_right _ h))
  have hD := hD0
  have hA : ∀ q : Nat, s.heap.size ≤ q → va_A [] s.heap.size q := fun _ h => Or.inr h
  have hS : va_S (va_A [] s.heap.size) s.heap s.heap [] := va_S.rf
  have hl := lv_entry ([.ref (a 0), .int p0]) (n := 2) (Nat.le_of_ble_eq_true rfl)
  rw [lg_entry_eq]
  generalize (lg_sl ([.ref (a 0), .int p0]) ++ List.replicate (2 - (lg_sl ([.ref (a 0), .int p0])).length) Slot.unset).toArray = ls at hl ⊢
  have hl : lv_has ls 2 [(0, .ref (a 0)), (1, .int p0)] := hl
  refine lv_aload_n hx hb dX8_now_0 rfl (lv_at hl 0 rfl) ?_
  refine va_get (D := (dC, dI)) (ci := 8) (v := .ref (a 3)) (C := RX8) (T := TX8) (N := 16) hx hb hts hiX8 hown hK hP 0 rfl rfl 13 (by decide) v_1 (fun _ h9 => h9) rfl dX8_now_1 ?_
  refine va_get (D := (dC, dI)) (ci := 3) (v := .int 0) (C := RX3) (T := TX3) (N := 5) hx hb hts hiX3 hown hK hP 3 rfl rfl 0 (by decide) v_2 (fun _ h9 => h9) rfl dX8_now_4 ?_
  refine lv_if_ne (tgt := 12) hx hb dX8_now_7 (by decide) (fun z => absurd z (by decide)) (fun _ => ?_)
  refine lv_iconst (v := (-1)) hx hb dX8_now_10 (by decide) ?_
  exact W.iret (v := (-1)) hx hb hr (fun t ht hW => ⟨⟨(-1), (), rfl, by first | rfl | decide | simp_all, trivial⟩, hS.F ht⟩) hS.2.2 dX8_now_11
theorem dX8_bound_0 : decode cX8_bound 0 = .ok (.iload_n 2, 1) := by decide +kernel
theorem dX8_bound_1 : decode cX8_bound 1 = .ok (.iconst (-1), 1) := by decide +kernel
theorem dX8_bound_2 : decode cX8_bound 2 = .ok (.if_icmp .lt 34, 3) := by decide +kernel
theorem dX8_bound_5 : decode cX8_bound 5 = .ok (.iload_n 2, 1) := by decide +kernel
theorem dX8_bound_6 : decode cX8_bound 6 = .ok (.aload_n 0, 1) := by decide +kernel
theorem dX8_bound_7 : decode cX8_bound 7 = .ok (.getfield 23, 3) := by decide +kernel
theorem dX8_bound_10 : decode cX8_bound 10 = .ok (.getfield 116, 3) := by decide +kernel
theorem dX8_bound_13 : decode cX8_bound 13 = .ok (.if_icmp .ge 23, 3) := by decide +kernel
theorem dX8_bound_16 : decode cX8_bound 16 = .ok (.iload_n 3, 1) := by decide +kernel
theorem dX8_bound_17 : decode cX8_bound 17 = .ok (.iconst (-1), 1) := by decide +kernel
theorem dX8_bound_18 : decode cX8_bound 18 = .ok (.if_icmp .lt 18, 3) := by decide +kernel
theorem dX8_bound_21 : decode cX8_bound 21 = .ok (.iload_n 3, 1) := by decide +kernel
theorem dX8_bound_22 : decode cX8_bound 22 = .ok (.aload_n 0, 1) := by decide +kernel
theorem dX8_bound_23 : decode cX8_bound 23 = .ok (.getfield 23, 3) := by decide +kernel
theorem dX8_bound_26 : decode cX8_bound 26 = .ok (.getfield 116, 3) := by decide +kernel
theorem dX8_bound_29 : decode cX8_bound 29 = .ok (.if_icmp .ge 7, 3) := by decide +kernel
theorem dX8_bound_32 : decode cX8_bound 32 = .ok (.iconst 1, 1) := by decide +kernel
theorem dX8_bound_33 : decode cX8_bound 33 = .ok (.goto 4, 3) := by decide +kernel
theorem dX8_bound_36 : decode cX8_bound 36 = .ok (.iconst 0, 1) := by decide +kernel
theorem dX8_bound_37 : decode cX8_bound 37 = .ok (.istore 5, 2) := by decide +kernel
theorem dX8_bound_39 : decode cX8_bound 39 = .ok (.aload_n 0, 1) := by decide +kernel
theorem dX8_bound_40 : decode cX8_bound 40 = .ok (.iload_n 1, 1) := by decide +kernel
theorem dX8_bound_41 : decode cX8_bound 41 = .ok (.invokevirtual 228, 3) := by decide +kernel
theorem dX8_bound_44 : decode cX8_bound 44 = .ok (.ifCond .eq 19, 3) := by decide +kernel
theorem dX8_bound_63 : decode cX8_bound 63 = .ok (.ldc_w 271, 3) := by decide +kernel
theorem dX8_bound_66 : decode cX8_bound 66 = .ok (.ireturn, 1) := by decide +kernel
def vs_X8_bound : List Cond := .code yX8_bound cX8_bound 7 (some .int) :: ([.methodLink RX8 228 yX8_isState, .instanceMethod yX8_isState, .selects RX8 yX8_isState yX8_isState, .initialized RX8, .code yX8_isState cX8_isState 2 (some .boolean), .fieldLink RX8 100 "ClockReach" "hasShown" "Z", .constant RX8 271 (-2147483648), .fieldLink RX8 23 "ClockReach" "model" "LClockReach$Automaton;", .fieldLink RX8 116 "ClockReach$Automaton" "clocks" "I"] ++ wsX80 ++ wsX00)
theorem g_X8_bound_X8_isState : GoodIn vs_X8_bound (wsV RX8 228 RX8 yX8_isState vs_X8_isState) := goodIn_r _ [1, 2, 3, 4, 5, 6, 10, 11, 12, 13, 14, 15, 16, 17, 18, 19, 20, 21, 22, 23, 24, 25] (by decide +kernel) (by decide +kernel)
set_option maxHeartbeats 4000000 in
set_option maxRecDepth 100000 in
theorem c_X8_bound (l : Launch) (dC : Nat → ClassId) (dI : Nat → Nat → Nat) (sz : Nat) (a : Nat → Nat) (k : Nat → ClassId) (p0 : Int32) (p1 : Int32) (p2 : Int32) (p3 : Int32) : Met l yX8_bound vs_X8_bound ({ frames := 1, cells := 0, slots := 0, locals := 21 }) (va_Pc [.ref (a 0), .int p0, .int p1, .int p2, .int p3] (pu_B (dC, dI) (wX a k) (tX k) sz)) (va_Qi (fun (r : Int32) (_ : Unit) => r = -2147483648) (fun _ _ => True) (va_A [] sz)) 0 0 (va_A [] sz) := by
  refine Met.ofW (cc := cX8_bound) (maxL := 7) (ret := (some .int)) (by decide) rfl ?_
  intro p e s m args below meth c s₁ B hml hv
  obtain ⟨rfl, rfl, hP, hK, hD0⟩ := hv
  have hx := B.exec
  have hb := B.bytes
  have hr := B.returns
  have hts := atoms_spec (ws := vs_X8_bound) B.pre
  have v_7 := hts (.constant RX8 271 (-2147483648)) (List.mem_of_getElem? (i := 7) rfl)
  have v_8 := hts (.fieldLink RX8 23 "ClockReach" "model" "LClockReach$Automaton;") (List.mem_of_getElem? (i := 8) rfl)
  have v_9 := hts (.fieldLink RX8 116 "ClockReach$Automaton" "clocks" "I") (List.mem_of_getElem? (i := 9) rfl)
  have hown : s.vm.findClass RX8 = some m.cls := findClass_of_methodNamed B.named
  have hlocks := B.notSynchronized
  have hiX0 : ∀ w ∈ wsX00, w ∈ vs_X8_bound := fun _ h => List.mem_cons_of_mem _ (List.mem_append_right _ h)
  have hiX8 : ∀ w ∈ wsX80, w ∈ vs_X8_bound := fun _ h => List.mem_cons_of_mem _ (List.mem_append_left _ (List.mem_append_right _ h))
  have hD := hD0
  have hA : ∀ q : Nat, s.heap.size ≤ q → va_A [] s.heap.size q := fun _ h => Or.inr h
  have hS : va_S (va_A [] s.heap.size) s.heap s.heap [] := va_S.rf
  have hl := lv_entry ([.ref (a 0), .int p0, .int p1, .int p2, .int p3]) (n := 7) (Nat.le_of_ble_eq_true rfl)
  rw [lg_entry_eq]
  generalize (lg_sl ([.ref (a 0), .int p0, .int p1, .int p2, .int p3]) ++ List.replicate (7 - (lg_sl ([.ref (a 0), .int p0, .int p1, .int p2, .int p3])).length) Slot.unset).toArray = ls at hl ⊢
  have hl : lv_has ls 7 [(0, .ref (a 0)), (1, .int p0), (2, .int p1), (3, .int p2), (4, .int p3)] := hl
  refine lv_iload_n hx hb dX8_bound_0 rfl (lv_at hl 2 rfl) ?_
  refine lv_iconst (v := (-1)) hx hb dX8_bound_1 (by decide) ?_
  refine lv_icmp_lt (tgt := 36) hx hb dX8_bound_2 (by decide) (fun c_1 => ?_) (fun c_1 => ?_)
  · refine lv_iconst (v := 0) hx hb dX8_bound_36 (by decide) ?_
    refine lv_istore (lv' := [(5, .int 0), (0, .ref (a 0)), (1, .int p0), (2, .int p1), (3, .int p2), (4, .int p3)]) hx hb dX8_bound_37 hl (by decide) rfl (fun ls hl => ?_)
    refine lv_aload_n hx hb dX8_bound_39 rfl (lv_at hl 1 rfl) ?_
    refine lv_iload_n hx hb dX8_bound_40 rfl (lv_at hl 2 rfl) ?_
    refine va_calli (va_runV (As := [.int p0]) (rest := []) ⟨hx, hb, hml, hown, hts⟩ (c_X8_isState l dC dI _ a k p0) (cwV 1 hts g_X8_bound_X8_isState rfl rfl rfl (by decide +kernel) ⟨Nat.le_of_ble_eq_true rfl, Nat.le_of_ble_eq_true rfl⟩) ⟨pu_bl, va_recv hK hP (ci := 8) (q0 := 0) rfl rfl, pu_in hP hK hD⟩ rfl rfl hl.1 rfl (lv_room (Nat.le_of_ble_eq_true rfl)) dX8_bound_41 ⟨Nat.le_of_ble_eq_true rfl, Nat.le_of_ble_eq_true rfl⟩) hS (fun q _ h => pu_fr hS hA q h) (pu_fr hS hA) (fun r_2 u t H1 locs ht hvm hw hB hz1 hk1 hS => ?_)
    have hP := pu_keep hP hk1
    clear hk1 hz1 hB ht hvm
    generalize H1 = H at hP hS ⊢
    obtain rfl : r_2 = 0 := hw
    refine lv_if_eq (tgt := 63) hx hb dX8_bound_44 (by decide) (fun _ => ?_) (fun z => absurd z (by decide))
    refine lv_ldcw hx hb hown v_7 dX8_bound_63 ?_
    exact W.iret (v := (-2147483648)) hx hb hr (fun t ht hW => ⟨⟨(-2147483648), (), rfl, by first | rfl | decide | simp_all, trivial⟩, hS.F ht⟩) hS.2.2 dX8_bound_66
  · refine lv_iload_n hx hb dX8_bound_5 rfl (lv_at hl 2 rfl) ?_
    refine lv_aload_n hx hb dX8_bound_6 rfl (lv_at hl 0 rfl) ?_
    refine va_get (D := (dC, dI)) (ci := 8) (v := .ref (a 1)) (C := RX8) (T := TX8) (N := 16) hx hb hts hiX8 hown hK hP 0 rfl rfl 3 (by decide) v_8 (fun _ h9 => h9) rfl dX8_bound_7 ?_
    refine va_get (D := (dC, dI)) (ci := 0) (v := .int 0) (C := RX0) (T := TX0) (N := 17) hx hb hts hiX0 hown hK hP 1 rfl rfl 0 (by decide) v_9 (fun _ h9 => h9) rfl dX8_bound_10 ?_
    refine lv_icmp_ge (tgt := 36) hx hb dX8_bound_13 (by decide) (fun c_3 => ?_) (fun c_3 => ?_)
    · refine lv_iconst (v := 0) hx hb dX8_bound_36 (by decide) ?_
      refine lv_istore (lv' := [(5, .int 0), (0, .ref (a 0)), (1, .int p0), (2, .int p1), (3, .int p2), (4, .int p3)]) hx hb dX8_bound_37 hl (by decide) rfl (fun ls hl => ?_)
      refine lv_aload_n hx hb dX8_bound_39 rfl (lv_at hl 1 rfl) ?_
      refine lv_iload_n hx hb dX8_bound_40 rfl (lv_at hl 2 rfl) ?_
      refine va_calli (va_runV (As := [.int p0]) (rest := []) ⟨hx, hb, hml, hown, hts⟩ (c_X8_isState l dC dI _ a k p0) (cwV 1 hts g_X8_bound_X8_isState rfl rfl rfl (by decide +kernel) ⟨Nat.le_of_ble_eq_true rfl, Nat.le_of_ble_eq_true rfl⟩) ⟨pu_bl, va_recv hK hP (ci := 8) (q0 := 0) rfl rfl, pu_in hP hK hD⟩ rfl rfl hl.1 rfl (lv_room (Nat.le_of_ble_eq_true rfl)) dX8_bound_41 ⟨Nat.le_of_ble_eq_true rfl, Nat.le_of_ble_eq_true rfl⟩) hS (fun q _ h => pu_fr hS hA q h) (pu_fr hS hA) (fun r_4 u t H1 locs ht hvm hw hB hz1 hk1 hS => ?_)
      have hP := pu_keep hP hk1
      clear hk1 hz1 hB ht hvm
      generalize H1 = H at hP hS ⊢
      obtain rfl : r_4 = 0 := hw
      refine lv_if_eq (tgt := 63) hx hb dX8_bound_44 (by decide) (fun _ => ?_) (fun z => absurd z (by decide))
      refine lv_ldcw hx hb hown v_7 dX8_bound_63 ?_
      exact W.iret (v := (-2147483648)) hx hb hr (fun t ht hW => ⟨⟨(-2147483648), (), rfl, by first | rfl | decide | simp_all, trivial⟩, hS.F ht⟩) hS.2.2 dX8_bound_66
    · refine lv_iload_n hx hb dX8_bound_16 rfl (lv_at hl 3 rfl) ?_
      refine lv_iconst (v := (-1)) hx hb dX8_bound_17 (by decide) ?_
      refine lv_icmp_lt (tgt := 36) hx hb dX8_bound_18 (by decide) (fun c_5 => ?_) (fun c_5 => ?_)
      · refine lv_iconst (v := 0) hx hb dX8_bound_36 (by decide) ?_
        refine lv_istore (lv' := [(5, .int 0), (0, .ref (a 0)), (1, .int p0), (2, .int p1), (3, .int p2), (4, .int p3)]) hx hb dX8_bound_37 hl (by decide) rfl (fun ls hl => ?_)
        refine lv_aload_n hx hb dX8_bound_39 rfl (lv_at hl 1 rfl) ?_
        refine lv_iload_n hx hb dX8_bound_40 rfl (lv_at hl 2 rfl) ?_
        refine va_calli (va_runV (As := [.int p0]) (rest := []) ⟨hx, hb, hml, hown, hts⟩ (c_X8_isState l dC dI _ a k p0) (cwV 1 hts g_X8_bound_X8_isState rfl rfl rfl (by decide +kernel) ⟨Nat.le_of_ble_eq_true rfl, Nat.le_of_ble_eq_true rfl⟩) ⟨pu_bl, va_recv hK hP (ci := 8) (q0 := 0) rfl rfl, pu_in hP hK hD⟩ rfl rfl hl.1 rfl (lv_room (Nat.le_of_ble_eq_true rfl)) dX8_bound_41 ⟨Nat.le_of_ble_eq_true rfl, Nat.le_of_ble_eq_true rfl⟩) hS (fun q _ h => pu_fr hS hA q h) (pu_fr hS hA) (fun r_6 u t H1 locs ht hvm hw hB hz1 hk1 hS => ?_)
        have hP := pu_keep hP hk1
        clear hk1 hz1 hB ht hvm
        generalize H1 = H at hP hS ⊢
        obtain rfl : r_6 = 0 := hw
        refine lv_if_eq (tgt := 63) hx hb dX8_bound_44 (by decide) (fun _ => ?_) (fun z => absurd z (by decide))
        refine lv_ldcw hx hb hown v_7 dX8_bound_63 ?_
        exact W.iret (v := (-2147483648)) hx hb hr (fun t ht hW => ⟨⟨(-2147483648), (), rfl, by first | rfl | decide | simp_all, trivial⟩, hS.F ht⟩) hS.2.2 dX8_bound_66
      · refine lv_iload_n hx hb dX8_bound_21 rfl (lv_at hl 3 rfl) ?_
        refine lv_aload_n hx hb dX8_bound_22 rfl (lv_at hl 0 rfl) ?_
        refine va_get (D := (dC, dI)) (ci := 8) (v := .ref (a 1)) (C := RX8) (T := TX8) (N := 16) hx hb hts hiX8 hown hK hP 0 rfl rfl 3 (by decide) v_8 (fun _ h9 => h9) rfl dX8_bound_23 ?_
        refine va_get (D := (dC, dI)) (ci := 0) (v := .int 0) (C := RX0) (T := TX0) (N := 17) hx hb hts hiX0 hown hK hP 1 rfl rfl 0 (by decide) v_9 (fun _ h9 => h9) rfl dX8_bound_26 ?_
        refine lv_icmp_ge (tgt := 36) hx hb dX8_bound_29 (by decide) (fun c_7 => ?_) (fun c_7 => ?_)
        · refine lv_iconst (v := 0) hx hb dX8_bound_36 (by decide) ?_
          refine lv_istore (lv' := [(5, .int 0), (0, .ref (a 0)), (1, .int p0), (2, .int p1), (3, .int p2), (4, .int p3)]) hx hb dX8_bound_37 hl (by decide) rfl (fun ls hl => ?_)
          refine lv_aload_n hx hb dX8_bound_39 rfl (lv_at hl 1 rfl) ?_
          refine lv_iload_n hx hb dX8_bound_40 rfl (lv_at hl 2 rfl) ?_
          refine va_calli (va_runV (As := [.int p0]) (rest := []) ⟨hx, hb, hml, hown, hts⟩ (c_X8_isState l dC dI _ a k p0) (cwV 1 hts g_X8_bound_X8_isState rfl rfl rfl (by decide +kernel) ⟨Nat.le_of_ble_eq_true rfl, Nat.le_of_ble_eq_true rfl⟩) ⟨pu_bl, va_recv hK hP (ci := 8) (q0 := 0) rfl rfl, pu_in hP hK hD⟩ rfl rfl hl.1 rfl (lv_room (Nat.le_of_ble_eq_true rfl)) dX8_bound_41 ⟨Nat.le_of_ble_eq_true rfl, Nat.le_of_ble_eq_true rfl⟩) hS (fun q _ h => pu_fr hS hA q h) (pu_fr hS hA) (fun r_8 u t H1 locs ht hvm hw hB hz1 hk1 hS => ?_)
          have hP := pu_keep hP hk1
          clear hk1 hz1 hB ht hvm
          generalize H1 = H at hP hS ⊢
          obtain rfl : r_8 = 0 := hw
          refine lv_if_eq (tgt := 63) hx hb dX8_bound_44 (by decide) (fun _ => ?_) (fun z => absurd z (by decide))
          refine lv_ldcw hx hb hown v_7 dX8_bound_63 ?_
          exact W.iret (v := (-2147483648)) hx hb hr (fun t ht hW => ⟨⟨(-2147483648), (), rfl, by first | rfl | decide | simp_all, trivial⟩, hS.F ht⟩) hS.2.2 dX8_bound_66
        · refine lv_iconst (v := 1) hx hb dX8_bound_32 (by decide) ?_
          refine lv_goto (tgt := 37) hx hb dX8_bound_33 (by decide) ?_
          refine lv_istore (lv' := [(5, .int 1), (0, .ref (a 0)), (1, .int p0), (2, .int p1), (3, .int p2), (4, .int p3)]) hx hb dX8_bound_37 hl (by decide) rfl (fun ls hl => ?_)
          refine lv_aload_n hx hb dX8_bound_39 rfl (lv_at hl 1 rfl) ?_
          refine lv_iload_n hx hb dX8_bound_40 rfl (lv_at hl 2 rfl) ?_
          refine va_calli (va_runV (As := [.int p0]) (rest := []) ⟨hx, hb, hml, hown, hts⟩ (c_X8_isState l dC dI _ a k p0) (cwV 1 hts g_X8_bound_X8_isState rfl rfl rfl (by decide +kernel) ⟨Nat.le_of_ble_eq_true rfl, Nat.le_of_ble_eq_true rfl⟩) ⟨pu_bl, va_recv hK hP (ci := 8) (q0 := 0) rfl rfl, pu_in hP hK hD⟩ rfl rfl hl.1 rfl (lv_room (Nat.le_of_ble_eq_true rfl)) dX8_bound_41 ⟨Nat.le_of_ble_eq_true rfl, Nat.le_of_ble_eq_true rfl⟩) hS (fun q _ h => pu_fr hS hA q h) (pu_fr hS hA) (fun r_9 u t H1 locs ht hvm hw hB hz1 hk1 hS => ?_)
          have hP := pu_keep hP hk1
          clear hk1 hz1 hB ht hvm
          generalize H1 = H at hP hS ⊢
          obtain rfl : r_9 = 0 := hw
          refine lv_if_eq (tgt := 63) hx hb dX8_bound_44 (by decide) (fun _ => ?_) (fun z => absurd z (by decide))
          refine lv_ldcw hx hb hown v_7 dX8_bound_63 ?_
          exact W.iret (v := (-2147483648)) hx hb hr (fun t ht hW => ⟨⟨(-2147483648), (), rfl, by first | rfl | decide | simp_all, trivial⟩, hS.F ht⟩) hS.2.2 dX8_bound_66
theorem dX8_urgent_0 : decode cX8_urgent 0 = .ok (.aload_n 0, 1) := by decide +kernel
theorem dX8_urgent_1 : decode cX8_urgent 1 = .ok (.iload_n 1, 1) := by decide +kernel
theorem dX8_urgent_2 : decode cX8_urgent 2 = .ok (.invokevirtual 140, 3) := by decide +kernel
theorem dX8_urgent_5 : decode cX8_urgent 5 = .ok (.ifCond .eq 16, 3) := by decide +kernel
theorem dX8_urgent_21 : decode cX8_urgent 21 = .ok (.iconst 0, 1) := by decide +kernel
theorem dX8_urgent_22 : decode cX8_urgent 22 = .ok (.ireturn, 1) := by decide +kernel
def vs_X8_urgent : List Cond := .code yX8_urgent cX8_urgent 3 (some .boolean) :: ([.methodLink RX8 140 yX8_isPlace, .instanceMethod yX8_isPlace, .selects RX8 yX8_isPlace yX8_isPlace, .initialized RX8, .code yX8_isPlace cX8_isPlace 2 (some .boolean), .fieldLink RX8 23 "ClockReach" "model" "LClockReach$Automaton;", .fieldLink RX8 97 "ClockReach$Automaton" "places" "I"] ++ wsX80 ++ wsX00)
theorem g_X8_urgent_X8_isPlace : GoodIn vs_X8_urgent (wsV RX8 140 RX8 yX8_isPlace vs_X8_isPlace) := goodIn_r _ [1, 2, 3, 4, 5, 6, 7, 8, 9, 10, 11, 12, 13, 14, 15, 16, 17, 18, 19, 20, 21, 22, 23, 24, 25, 26, 27, 28, 29, 30, 31, 32, 33, 34, 35, 36, 37, 38, 39, 40] (by decide +kernel) (by decide +kernel)
set_option maxHeartbeats 4000000 in
set_option maxRecDepth 100000 in
theorem c_X8_urgent (l : Launch) (dC : Nat → ClassId) (dI : Nat → Nat → Nat) (sz : Nat) (a : Nat → Nat) (k : Nat → ClassId) (p0 : Int32) (p1 : Int32) : Met l yX8_urgent vs_X8_urgent ({ frames := 1, cells := 0, slots := 0, locals := 21 }) (va_Pc [.ref (a 0), .int p0, .int p1] (pu_B (dC, dI) (wX a k) (tX k) sz)) (va_Qi (fun (r : Int32) (_ : Unit) => r = 0) (fun _ _ => True) (va_A [] sz)) 0 0 (va_A [] sz) := by
  refine Met.ofW (cc := cX8_urgent) (maxL := 3) (ret := (some .boolean)) (by decide) rfl ?_
  intro p e s m args below meth c s₁ B hml hv
  obtain ⟨rfl, rfl, hP, hK, hD0⟩ := hv
  have hx := B.exec
  have hb := B.bytes
  have hr := B.returns
  have hts := atoms_spec (ws := vs_X8_urgent) B.pre
  have hown : s.vm.findClass RX8 = some m.cls := findClass_of_methodNamed B.named
  have hlocks := B.notSynchronized
  have hD := hD0
  have hA : ∀ q : Nat, s.heap.size ≤ q → va_A [] s.heap.size q := fun _ h => Or.inr h
  have hS : va_S (va_A [] s.heap.size) s.heap s.heap [] := va_S.rf
  have hl := lv_entry ([.ref (a 0), .int p0, .int p1]) (n := 3) (Nat.le_of_ble_eq_true rfl)
  rw [lg_entry_eq]
  generalize (lg_sl ([.ref (a 0), .int p0, .int p1]) ++ List.replicate (3 - (lg_sl ([.ref (a 0), .int p0, .int p1])).length) Slot.unset).toArray = ls at hl ⊢
  have hl : lv_has ls 3 [(0, .ref (a 0)), (1, .int p0), (2, .int p1)] := hl
  refine lv_aload_n hx hb dX8_urgent_0 rfl (lv_at hl 0 rfl) ?_
  refine lv_iload_n hx hb dX8_urgent_1 rfl (lv_at hl 1 rfl) ?_
  refine va_calli (va_runV (As := [.int p0]) (rest := []) ⟨hx, hb, hml, hown, hts⟩ (c_X8_isPlace l dC dI _ a k p0) (cwV 1 hts g_X8_urgent_X8_isPlace rfl rfl rfl (by decide +kernel) ⟨Nat.le_of_ble_eq_true rfl, Nat.le_of_ble_eq_true rfl⟩) ⟨pu_bl, va_recv hK hP (ci := 8) (q0 := 0) rfl rfl, pu_in hP hK hD⟩ rfl rfl hl.1 rfl (lv_room (Nat.le_of_ble_eq_true rfl)) dX8_urgent_2 ⟨Nat.le_of_ble_eq_true rfl, Nat.le_of_ble_eq_true rfl⟩) hS (fun q _ h => pu_fr hS hA q h) (pu_fr hS hA) (fun r_1 u t H1 locs ht hvm hw hB hz1 hk1 hS => ?_)
  have hP := pu_keep hP hk1
  clear hk1 hz1 hB ht hvm
  generalize H1 = H at hP hS ⊢
  obtain rfl : r_1 = 0 := hw
  refine lv_if_eq (tgt := 21) hx hb dX8_urgent_5 (by decide) (fun _ => ?_) (fun z => absurd z (by decide))
  refine lv_iconst (v := 0) hx hb dX8_urgent_21 (by decide) ?_
  exact W.zret (v := 0) (ty := .boolean) hx hb hr rfl (fun t ht hW => ⟨⟨0, (), rfl, by first | rfl | decide | simp_all, trivial⟩, hS.F ht⟩) hS.2.2 dX8_urgent_22
theorem dX8_undo_0 : decode cX8_undo 0 = .ok (.aload_n 0, 1) := by decide +kernel
theorem dX8_undo_1 : decode cX8_undo 1 = .ok (.getfield 33, 3) := by decide +kernel
theorem dX8_undo_4 : decode cX8_undo 4 = .ok (.aload_n 0, 1) := by decide +kernel
theorem dX8_undo_5 : decode cX8_undo 5 = .ok (.getfield 23, 3) := by decide +kernel
theorem dX8_undo_8 : decode cX8_undo 8 = .ok (.invokevirtual 208, 3) := by decide +kernel
theorem dX8_undo_11 : decode cX8_undo 11 = .ok (.ifCond .ne 5, 3) := by decide +kernel
theorem dX8_undo_14 : decode cX8_undo 14 = .ok (.iconst 0, 1) := by decide +kernel
theorem dX8_undo_15 : decode cX8_undo 15 = .ok (.ireturn, 1) := by decide +kernel
def vs_X8_undo : List Cond := .code yX8_undo cX8_undo 1 (some .boolean) :: ([.fieldLink RX8 33 "ClockReach" "history" "LClockReach$History;", .fieldLink RX8 23 "ClockReach" "model" "LClockReach$Automaton;", .methodLink RX8 208 yX2_takesBack, .instanceMethod yX2_takesBack, .selects RX2 yX2_takesBack yX2_takesBack, .initialized RX2, .code yX2_takesBack cX2_takesBack 3 (some .boolean), .fieldLink RX2 18 "ClockReach$History" "count" "I"] ++ wsX80 ++ wsX20)
theorem g_X8_undo_X2_takesBack : GoodIn vs_X8_undo (wsV RX8 208 RX2 yX2_takesBack vs_X2_takesBack) := goodIn_r _ [3, 4, 5, 6, 7, 8, 25, 26, 27] (by decide +kernel) (by decide +kernel)
set_option maxHeartbeats 4000000 in
set_option maxRecDepth 100000 in
theorem c_X8_undo (l : Launch) (dC : Nat → ClassId) (dI : Nat → Nat → Nat) (sz : Nat) (a : Nat → Nat) (k : Nat → ClassId) : Met l yX8_undo vs_X8_undo ({ frames := 1, cells := 0, slots := 0, locals := 22 }) (va_Pc [.ref (a 0)] (pu_B (dC, dI) (wX a k) (tX k) sz)) (va_Qi (fun (r : Int32) (_ : Unit) => r = 0) (fun _ _ => True) (va_A [] sz)) 0 0 (va_A [] sz) := by
  refine Met.ofW (cc := cX8_undo) (maxL := 1) (ret := (some .boolean)) (by decide) rfl ?_
  intro p e s m args below meth c s₁ B hml hv
  obtain ⟨rfl, rfl, hP, hK, hD0⟩ := hv
  have hx := B.exec
  have hb := B.bytes
  have hr := B.returns
  have hts := atoms_spec (ws := vs_X8_undo) B.pre
  have v_1 := hts (.fieldLink RX8 33 "ClockReach" "history" "LClockReach$History;") (List.mem_of_getElem? (i := 1) rfl)
  have v_2 := hts (.fieldLink RX8 23 "ClockReach" "model" "LClockReach$Automaton;") (List.mem_of_getElem? (i := 2) rfl)
  have hown : s.vm.findClass RX8 = some m.cls := findClass_of_methodNamed B.named
  have hlocks := B.notSynchronized
  have hiX8 : ∀ w ∈ wsX80, w ∈ vs_X8_undo := fun _ h => List.mem_cons_of_mem _ (List.mem_append_left _ (List.mem_append_right _ h))
  have hD := hD0
  have hA : ∀ q : Nat, s.heap.size ≤ q → va_A [] s.heap.size q := fun _ h => Or.inr h
  have hS : va_S (va_A [] s.heap.size) s.heap s.heap [] := va_S.rf
  have hl := lv_entry ([.ref (a 0)]) (n := 1) (Nat.le_of_ble_eq_true rfl)
  rw [lg_entry_eq]
  generalize (lg_sl ([.ref (a 0)]) ++ List.replicate (1 - (lg_sl ([.ref (a 0)])).length) Slot.unset).toArray = ls at hl ⊢
  have hl : lv_has ls 1 [(0, .ref (a 0))] := hl
  refine lv_aload_n hx hb dX8_undo_0 rfl (lv_at hl 0 rfl) ?_
  refine va_get (D := (dC, dI)) (ci := 8) (v := .ref (a 2)) (C := RX8) (T := TX8) (N := 16) hx hb hts hiX8 hown hK hP 0 rfl rfl 5 (by decide) v_1 (fun _ h9 => h9) rfl dX8_undo_1 ?_
  refine lv_aload_n hx hb dX8_undo_4 rfl (lv_at hl 0 rfl) ?_
  refine va_get (D := (dC, dI)) (ci := 8) (v := .ref (a 1)) (C := RX8) (T := TX8) (N := 16) hx hb hts hiX8 hown hK hP 0 rfl rfl 3 (by decide) v_2 (fun _ h9 => h9) rfl dX8_undo_5 ?_
  refine va_calli (va_runV (As := [.ref (a 1)]) (rest := []) ⟨hx, hb, hml, hown, hts⟩ (c_X2_takesBack l dC dI _ a k) (cwV 1 hts g_X8_undo_X2_takesBack rfl rfl rfl (by decide +kernel) ⟨Nat.le_of_ble_eq_true rfl, Nat.le_of_ble_eq_true rfl⟩) ⟨pu_bl, va_recv hK hP (ci := 2) (q0 := 2) rfl rfl, pu_in hP hK hD⟩ rfl rfl hl.1 rfl (lv_room (Nat.le_of_ble_eq_true rfl)) dX8_undo_8 ⟨Nat.le_of_ble_eq_true rfl, Nat.le_of_ble_eq_true rfl⟩) hS (fun q _ h => pu_fr hS hA q h) (pu_fr hS hA) (fun r_1 u t H1 locs ht hvm hw hB hz1 hk1 hS => ?_)
  have hP := pu_keep hP hk1
  clear hk1 hz1 hB ht hvm
  generalize H1 = H at hP hS ⊢
  obtain rfl : r_1 = 0 := hw
  refine lv_if_ne (tgt := 16) hx hb dX8_undo_11 (by decide) (fun z => absurd z (by decide)) (fun _ => ?_)
  refine lv_iconst (v := 0) hx hb dX8_undo_14 (by decide) ?_
  exact W.zret (v := 0) (ty := .boolean) hx hb hr rfl (fun t ht hW => ⟨⟨0, (), rfl, by first | rfl | decide | simp_all, trivial⟩, hS.F ht⟩) hS.2.2 dX8_undo_15
theorem dX8_waits_0 : decode cX8_waits 0 = .ok (.aload_n 0, 1) := by decide +kernel
theorem dX8_waits_1 : decode cX8_waits 1 = .ok (.getfield 69, 3) := by decide +kernel
theorem dX8_waits_4 : decode cX8_waits 4 = .ok (.getfield 107, 3) := by decide +kernel
theorem dX8_waits_7 : decode cX8_waits 7 = .ok (.ifCond .eq 29, 3) := by decide +kernel
theorem dX8_waits_36 : decode cX8_waits 36 = .ok (.iconst 0, 1) := by decide +kernel
theorem dX8_waits_37 : decode cX8_waits 37 = .ok (.ireturn, 1) := by decide +kernel
def vs_X8_waits : List Cond := .code yX8_waits cX8_waits 2 (some .boolean) :: ([.fieldLink RX8 69 "ClockReach" "play" "LClockReach$Play;", .fieldLink RX8 107 "ClockReach$Play" "on" "Z"] ++ wsX80 ++ wsX30)
set_option maxHeartbeats 4000000 in
set_option maxRecDepth 100000 in
theorem c_X8_waits (l : Launch) (dC : Nat → ClassId) (dI : Nat → Nat → Nat) (sz : Nat) (a : Nat → Nat) (k : Nat → ClassId) (p0 : Int32) : Met l yX8_waits vs_X8_waits ({ frames := 0, cells := 0, slots := 0, locals := 0 }) (va_Pc [.ref (a 0), .int p0] (pu_B (dC, dI) (wX a k) (tX k) sz)) (va_Qi (fun (r : Int32) (_ : Unit) => r = 0) (fun _ _ => True) (va_A [] sz)) 0 0 (va_A [] sz) := by
  refine Met.ofW (cc := cX8_waits) (maxL := 2) (ret := (some .boolean)) (by decide) rfl ?_
  intro p e s m args below meth c s₁ B hml hv
  obtain ⟨rfl, rfl, hP, hK, hD0⟩ := hv
  have hx := B.exec
  have hb := B.bytes
  have hr := B.returns
  have hts := atoms_spec (ws := vs_X8_waits) B.pre
  have v_1 := hts (.fieldLink RX8 69 "ClockReach" "play" "LClockReach$Play;") (List.mem_of_getElem? (i := 1) rfl)
  have v_2 := hts (.fieldLink RX8 107 "ClockReach$Play" "on" "Z") (List.mem_of_getElem? (i := 2) rfl)
  have hown : s.vm.findClass RX8 = some m.cls := findClass_of_methodNamed B.named
  have hlocks := B.notSynchronized
  have hiX3 : ∀ w ∈ wsX30, w ∈ vs_X8_waits := fun _ h => List.mem_cons_of_mem _ (List.mem_append_right _ h)
  have hiX8 : ∀ w ∈ wsX80, w ∈ vs_X8_waits := fun _ h => List.mem_cons_of_mem _ (List.mem_append_left _ (List.mem_append_right _ h))
  have hD := hD0
  have hA : ∀ q : Nat, s.heap.size ≤ q → va_A [] s.heap.size q := fun _ h => Or.inr h
  have hS : va_S (va_A [] s.heap.size) s.heap s.heap [] := va_S.rf
  have hl := lv_entry ([.ref (a 0), .int p0]) (n := 2) (Nat.le_of_ble_eq_true rfl)
  rw [lg_entry_eq]
  generalize (lg_sl ([.ref (a 0), .int p0]) ++ List.replicate (2 - (lg_sl ([.ref (a 0), .int p0])).length) Slot.unset).toArray = ls at hl ⊢
  have hl : lv_has ls 2 [(0, .ref (a 0)), (1, .int p0)] := hl
  refine lv_aload_n hx hb dX8_waits_0 rfl (lv_at hl 0 rfl) ?_
  refine va_get (D := (dC, dI)) (ci := 8) (v := .ref (a 3)) (C := RX8) (T := TX8) (N := 16) hx hb hts hiX8 hown hK hP 0 rfl rfl 13 (by decide) v_1 (fun _ h9 => h9) rfl dX8_waits_1 ?_
  refine va_get (D := (dC, dI)) (ci := 3) (v := .int 0) (C := RX3) (T := TX3) (N := 5) hx hb hts hiX3 hown hK hP 3 rfl rfl 0 (by decide) v_2 (fun _ h9 => h9) rfl dX8_waits_4 ?_
  refine lv_if_eq (tgt := 36) hx hb dX8_waits_7 (by decide) (fun _ => ?_) (fun z => absurd z (by decide))
  refine lv_iconst (v := 0) hx hb dX8_waits_36 (by decide) ?_
  exact W.zret (v := 0) (ty := .boolean) hx hb hr rfl (fun t ht hW => ⟨⟨0, (), rfl, by first | rfl | decide | simp_all, trivial⟩, hS.F ht⟩) hS.2.2 dX8_waits_37
theorem dX8_rings_0 : decode cX8_rings 0 = .ok (.aload_n 0, 1) := by decide +kernel
theorem dX8_rings_1 : decode cX8_rings 1 = .ok (.getfield 23, 3) := by decide +kernel
theorem dX8_rings_4 : decode cX8_rings 4 = .ok (.invokevirtual 304, 3) := by decide +kernel
theorem dX8_rings_7 : decode cX8_rings 7 = .ok (.ireturn, 1) := by decide +kernel
def vs_X8_rings : List Cond := .code yX8_rings cX8_rings 1 (some .int) :: ([.fieldLink RX8 23 "ClockReach" "model" "LClockReach$Automaton;", .methodLink RX8 304 yX0_hurriedRings, .instanceMethod yX0_hurriedRings, .selects RX0 yX0_hurriedRings yX0_hurriedRings, .initialized RX0, .code yX0_hurriedRings cX0_hurriedRings 3 (some .int), .fieldLink RX0 59 "ClockReach$Automaton" "places" "I"] ++ wsX80 ++ wsX00)
theorem g_X8_rings_X0_hurriedRings : GoodIn vs_X8_rings (wsV RX8 304 RX0 yX0_hurriedRings vs_X0_hurriedRings) := goodIn_r _ [2, 3, 4, 5, 6, 7, 24, 25, 26, 27, 28, 29, 30, 31, 32, 33, 34, 35, 36, 37, 38, 39, 40] (by decide +kernel) (by decide +kernel)
set_option maxHeartbeats 4000000 in
set_option maxRecDepth 100000 in
theorem c_X8_rings (l : Launch) (dC : Nat → ClassId) (dI : Nat → Nat → Nat) (sz : Nat) (a : Nat → Nat) (k : Nat → ClassId) : Met l yX8_rings vs_X8_rings ({ frames := 1, cells := 0, slots := 0, locals := 22 }) (va_Pc [.ref (a 0)] (pu_B (dC, dI) (wX a k) (tX k) sz)) (va_Qi (fun (r : Int32) (_ : Unit) => r = 0) (fun _ _ => True) (va_A [] sz)) 0 0 (va_A [] sz) := by
  refine Met.ofW (cc := cX8_rings) (maxL := 1) (ret := (some .int)) (by decide) rfl ?_
  intro p e s m args below meth c s₁ B hml hv
  obtain ⟨rfl, rfl, hP, hK, hD0⟩ := hv
  have hx := B.exec
  have hb := B.bytes
  have hr := B.returns
  have hts := atoms_spec (ws := vs_X8_rings) B.pre
  have v_1 := hts (.fieldLink RX8 23 "ClockReach" "model" "LClockReach$Automaton;") (List.mem_of_getElem? (i := 1) rfl)
  have hown : s.vm.findClass RX8 = some m.cls := findClass_of_methodNamed B.named
  have hlocks := B.notSynchronized
  have hiX8 : ∀ w ∈ wsX80, w ∈ vs_X8_rings := fun _ h => List.mem_cons_of_mem _ (List.mem_append_left _ (List.mem_append_right _ h))
  have hD := hD0
  have hA : ∀ q : Nat, s.heap.size ≤ q → va_A [] s.heap.size q := fun _ h => Or.inr h
  have hS : va_S (va_A [] s.heap.size) s.heap s.heap [] := va_S.rf
  have hl := lv_entry ([.ref (a 0)]) (n := 1) (Nat.le_of_ble_eq_true rfl)
  rw [lg_entry_eq]
  generalize (lg_sl ([.ref (a 0)]) ++ List.replicate (1 - (lg_sl ([.ref (a 0)])).length) Slot.unset).toArray = ls at hl ⊢
  have hl : lv_has ls 1 [(0, .ref (a 0))] := hl
  refine lv_aload_n hx hb dX8_rings_0 rfl (lv_at hl 0 rfl) ?_
  refine va_get (D := (dC, dI)) (ci := 8) (v := .ref (a 1)) (C := RX8) (T := TX8) (N := 16) hx hb hts hiX8 hown hK hP 0 rfl rfl 3 (by decide) v_1 (fun _ h9 => h9) rfl dX8_rings_1 ?_
  refine va_calli (va_runV (As := []) (rest := []) ⟨hx, hb, hml, hown, hts⟩ (c_X0_hurriedRings l dC dI _ a k) (cwV 0 hts g_X8_rings_X0_hurriedRings rfl rfl rfl (by decide +kernel) ⟨Nat.le_of_ble_eq_true rfl, Nat.le_of_ble_eq_true rfl⟩) ⟨pu_bl, va_recv hK hP (ci := 0) (q0 := 1) rfl rfl, pu_in hP hK hD⟩ rfl rfl hl.1 rfl (lv_room (Nat.le_of_ble_eq_true rfl)) dX8_rings_4 ⟨Nat.le_of_ble_eq_true rfl, Nat.le_of_ble_eq_true rfl⟩) hS (fun q _ h => pu_fr hS hA q h) (pu_fr hS hA) (fun r_1 u t H1 locs ht hvm hw hB hz1 hk1 hS => ?_)
  have hP := pu_keep hP hk1
  clear hk1 hz1 hB ht hvm
  generalize H1 = H at hP hS ⊢
  obtain rfl : r_1 = 0 := hw
  exact W.iret (v := 0) hx hb hr (fun t ht hW => ⟨⟨0, (), rfl, by first | rfl | decide | simp_all, trivial⟩, hS.F ht⟩) hS.2.2 dX8_rings_7
theorem dX8_fault_0 : decode cX8_fault 0 = .ok (.iload_n 1, 1) := by decide +kernel
theorem dX8_fault_1 : decode cX8_fault 1 = .ok (.lookupswitch 43 #[(0, 27), (1, 35)], 27) := by decide +kernel
theorem dX8_fault_28 : decode cX8_fault 28 = .ok (.aload_n 0, 1) := by decide +kernel
theorem dX8_fault_29 : decode cX8_fault 29 = .ok (.getfield 16, 3) := by decide +kernel
theorem dX8_fault_32 : decode cX8_fault 32 = .ok (.getfield 110, 3) := by decide +kernel
theorem dX8_fault_35 : decode cX8_fault 35 = .ok (.ireturn, 1) := by decide +kernel
theorem dX8_fault_36 : decode cX8_fault 36 = .ok (.aload_n 0, 1) := by decide +kernel
theorem dX8_fault_37 : decode cX8_fault 37 = .ok (.getfield 16, 3) := by decide +kernel
theorem dX8_fault_40 : decode cX8_fault 40 = .ok (.getfield 113, 3) := by decide +kernel
theorem dX8_fault_43 : decode cX8_fault 43 = .ok (.ireturn, 1) := by decide +kernel
theorem dX8_fault_44 : decode cX8_fault 44 = .ok (.iconst (-1), 1) := by decide +kernel
theorem dX8_fault_45 : decode cX8_fault 45 = .ok (.ireturn, 1) := by decide +kernel
def vs_X8_fault : List Cond := .code yX8_fault cX8_fault 2 (some .int) :: ([.fieldLink RX8 16 "ClockReach" "reader" "LClockReach$Reader;", .fieldLink RX8 110 "ClockReach$Reader" "fault" "I", .fieldLink RX8 113 "ClockReach$Reader" "faultAt" "I"] ++ wsX80 ++ wsX40)
set_option maxHeartbeats 4000000 in
set_option maxRecDepth 100000 in
theorem c_X8_fault (l : Launch) (dC : Nat → ClassId) (dI : Nat → Nat → Nat) (sz : Nat) (a : Nat → Nat) (k : Nat → ClassId) (p0 : Int32) : Met l yX8_fault vs_X8_fault ({ frames := 0, cells := 0, slots := 0, locals := 0 }) (va_Pc [.ref (a 0), .int p0] (pu_B (dC, dI) (wX a k) (tX k) sz)) (va_Qi (fun (r : Int32) (_ : Unit) => r = flF p0) (fun _ _ => True) (va_A [] sz)) 0 0 (va_A [] sz) := by
  refine Met.ofW (cc := cX8_fault) (maxL := 2) (ret := (some .int)) (by decide) rfl ?_
  intro p e s m args below meth c s₁ B hml hv
  obtain ⟨rfl, rfl, hP, hK, hD0⟩ := hv
  have hx := B.exec
  have hb := B.bytes
  have hr := B.returns
  have hts := atoms_spec (ws := vs_X8_fault) B.pre
  have v_1 := hts (.fieldLink RX8 16 "ClockReach" "reader" "LClockReach$Reader;") (List.mem_of_getElem? (i := 1) rfl)
  have v_2 := hts (.fieldLink RX8 110 "ClockReach$Reader" "fault" "I") (List.mem_of_getElem? (i := 2) rfl)
  have v_3 := hts (.fieldLink RX8 113 "ClockReach$Reader" "faultAt" "I") (List.mem_of_getElem? (i := 3) rfl)
  have hown : s.vm.findClass RX8 = some m.cls := findClass_of_methodNamed B.named
  have hlocks := B.notSynchronized
  have hiX4 : ∀ w ∈ wsX40, w ∈ vs_X8_fault := fun _ h => List.mem_cons_of_mem _ (List.mem_append_right _ h)
  have hiX8 : ∀ w ∈ wsX80, w ∈ vs_X8_fault := fun _ h => List.mem_cons_of_mem _ (List.mem_append_left _ (List.mem_append_right _ h))
  have hD := hD0
  have hA : ∀ q : Nat, s.heap.size ≤ q → va_A [] s.heap.size q := fun _ h => Or.inr h
  have hS : va_S (va_A [] s.heap.size) s.heap s.heap [] := va_S.rf
  have hl := lv_entry ([.ref (a 0), .int p0]) (n := 2) (Nat.le_of_ble_eq_true rfl)
  rw [lg_entry_eq]
  generalize (lg_sl ([.ref (a 0), .int p0]) ++ List.replicate (2 - (lg_sl ([.ref (a 0), .int p0])).length) Slot.unset).toArray = ls at hl ⊢
  have hl : lv_has ls 2 [(0, .ref (a 0)), (1, .int p0)] := hl
  refine lv_iload_n hx hb dX8_fault_0 rfl (lv_at hl 1 rfl) ?_
  by_cases w_1 : p0 = 0
  · subst w_1
    refine lv_lookup (tgt := 28) (off := 27) hx hb dX8_fault_1 (by decide) (by decide) (by decide) ?_
    refine lv_aload_n hx hb dX8_fault_28 rfl (lv_at hl 0 rfl) ?_
    refine va_get (D := (dC, dI)) (ci := 8) (v := .ref (a 4)) (C := RX8) (T := TX8) (N := 16) hx hb hts hiX8 hown hK hP 0 rfl rfl 2 (by decide) v_1 (fun _ h9 => h9) rfl dX8_fault_29 ?_
    refine va_get (D := (dC, dI)) (ci := 4) (v := .int 0) (C := RX4) (T := TX4) (N := 12) hx hb hts hiX4 hown hK hP 4 rfl rfl 0 (by decide) v_2 (fun _ h9 => h9) rfl dX8_fault_32 ?_
    exact W.iret (v := 0) hx hb hr (fun t ht hW => ⟨⟨0, (), rfl, by decide, trivial⟩, hS.F ht⟩) hS.2.2 dX8_fault_35
  by_cases w_2 : p0 = 1
  · subst w_2
    refine lv_lookup (tgt := 36) (off := 35) hx hb dX8_fault_1 (by decide) (by decide) (by decide) ?_
    refine lv_aload_n hx hb dX8_fault_36 rfl (lv_at hl 0 rfl) ?_
    refine va_get (D := (dC, dI)) (ci := 8) (v := .ref (a 4)) (C := RX8) (T := TX8) (N := 16) hx hb hts hiX8 hown hK hP 0 rfl rfl 2 (by decide) v_1 (fun _ h9 => h9) rfl dX8_fault_37 ?_
    refine va_get (D := (dC, dI)) (ci := 4) (v := .int (-1)) (C := RX4) (T := TX4) (N := 12) hx hb hts hiX4 hown hK hP 4 rfl rfl 1 (by decide) v_3 (fun _ h9 => h9) rfl dX8_fault_40 ?_
    exact W.iret (v := (-1)) hx hb hr (fun t ht hW => ⟨⟨(-1), (), rfl, by decide, trivial⟩, hS.F ht⟩) hS.2.2 dX8_fault_43
  refine lv_lookup (tgt := 44) (off := 43) hx hb dX8_fault_1 (by decide) ((lv_osw w_1 (by decide)).trans ((lv_osw w_2 (by decide)).trans (rfl))) (by decide) ?_
  refine lv_iconst (v := (-1)) hx hb dX8_fault_44 (by decide) ?_
  exact W.iret (v := (-1)) hx hb hr (fun t ht hW => ⟨⟨(-1), (), rfl, by unfold flF; simp [*], trivial⟩, hS.F ht⟩) hS.2.2 dX8_fault_45
theorem dX8_about_0 : decode cX8_about 0 = .ok (.iload_n 1, 1) := by decide +kernel
theorem dX8_about_1 : decode cX8_about 1 = .ok (.tableswitch 168 0 9 #[55, 63, 71, 79, 87, 95, 114, 136, 155, 163], 55) := by decide +kernel
theorem dX8_about_56 : decode cX8_about 56 = .ok (.aload_n 0, 1) := by decide +kernel
theorem dX8_about_57 : decode cX8_about 57 = .ok (.getfield 23, 3) := by decide +kernel
theorem dX8_about_60 : decode cX8_about 60 = .ok (.getfield 116, 3) := by decide +kernel
theorem dX8_about_63 : decode cX8_about 63 = .ok (.ireturn, 1) := by decide +kernel
theorem dX8_about_64 : decode cX8_about 64 = .ok (.aload_n 0, 1) := by decide +kernel
theorem dX8_about_65 : decode cX8_about 65 = .ok (.getfield 23, 3) := by decide +kernel
theorem dX8_about_68 : decode cX8_about 68 = .ok (.getfield 97, 3) := by decide +kernel
theorem dX8_about_71 : decode cX8_about 71 = .ok (.ireturn, 1) := by decide +kernel
theorem dX8_about_72 : decode cX8_about 72 = .ok (.aload_n 0, 1) := by decide +kernel
theorem dX8_about_73 : decode cX8_about 73 = .ok (.getfield 23, 3) := by decide +kernel
theorem dX8_about_76 : decode cX8_about 76 = .ok (.getfield 119, 3) := by decide +kernel
theorem dX8_about_79 : decode cX8_about 79 = .ok (.ireturn, 1) := by decide +kernel
theorem dX8_about_80 : decode cX8_about 80 = .ok (.aload_n 0, 1) := by decide +kernel
theorem dX8_about_81 : decode cX8_about 81 = .ok (.getfield 23, 3) := by decide +kernel
theorem dX8_about_84 : decode cX8_about 84 = .ok (.getfield 122, 3) := by decide +kernel
theorem dX8_about_87 : decode cX8_about 87 = .ok (.ireturn, 1) := by decide +kernel
theorem dX8_about_88 : decode cX8_about 88 = .ok (.aload_n 0, 1) := by decide +kernel
theorem dX8_about_89 : decode cX8_about 89 = .ok (.getfield 23, 3) := by decide +kernel
theorem dX8_about_92 : decode cX8_about 92 = .ok (.invokevirtual 125, 3) := by decide +kernel
theorem dX8_about_95 : decode cX8_about 95 = .ok (.ireturn, 1) := by decide +kernel
theorem dX8_about_96 : decode cX8_about 96 = .ok (.aload_n 0, 1) := by decide +kernel
theorem dX8_about_97 : decode cX8_about 97 = .ok (.getfield 100, 3) := by decide +kernel
theorem dX8_about_100 : decode cX8_about 100 = .ok (.ifCond .eq 13, 3) := by decide +kernel
theorem dX8_about_113 : decode cX8_about 113 = .ok (.iconst (-1), 1) := by decide +kernel
theorem dX8_about_114 : decode cX8_about 114 = .ok (.ireturn, 1) := by decide +kernel
theorem dX8_about_115 : decode cX8_about 115 = .ok (.aload_n 0, 1) := by decide +kernel
theorem dX8_about_116 : decode cX8_about 116 = .ok (.getfield 100, 3) := by decide +kernel
theorem dX8_about_119 : decode cX8_about 119 = .ok (.ifCond .eq 16, 3) := by decide +kernel
theorem dX8_about_135 : decode cX8_about 135 = .ok (.iconst (-1), 1) := by decide +kernel
theorem dX8_about_136 : decode cX8_about 136 = .ok (.ireturn, 1) := by decide +kernel
theorem dX8_about_137 : decode cX8_about 137 = .ok (.aload_n 0, 1) := by decide +kernel
theorem dX8_about_138 : decode cX8_about 138 = .ok (.getfield 100, 3) := by decide +kernel
theorem dX8_about_141 : decode cX8_about 141 = .ok (.ifCond .eq 13, 3) := by decide +kernel
theorem dX8_about_154 : decode cX8_about 154 = .ok (.iconst (-1), 1) := by decide +kernel
theorem dX8_about_155 : decode cX8_about 155 = .ok (.ireturn, 1) := by decide +kernel
theorem dX8_about_156 : decode cX8_about 156 = .ok (.aload_n 0, 1) := by decide +kernel
theorem dX8_about_157 : decode cX8_about 157 = .ok (.getfield 33, 3) := by decide +kernel
theorem dX8_about_160 : decode cX8_about 160 = .ok (.getfield 91, 3) := by decide +kernel
theorem dX8_about_163 : decode cX8_about 163 = .ok (.ireturn, 1) := by decide +kernel
theorem dX8_about_164 : decode cX8_about 164 = .ok (.aload_n 0, 1) := by decide +kernel
theorem dX8_about_165 : decode cX8_about 165 = .ok (.getfield 79, 3) := by decide +kernel
theorem dX8_about_168 : decode cX8_about 168 = .ok (.ireturn, 1) := by decide +kernel
theorem dX8_about_169 : decode cX8_about 169 = .ok (.iconst (-1), 1) := by decide +kernel
theorem dX8_about_170 : decode cX8_about 170 = .ok (.ireturn, 1) := by decide +kernel
def vs_X8_about : List Cond := .code yX8_about cX8_about 2 (some .int) :: ([.fieldLink RX8 23 "ClockReach" "model" "LClockReach$Automaton;", .fieldLink RX8 116 "ClockReach$Automaton" "clocks" "I", .fieldLink RX8 97 "ClockReach$Automaton" "places" "I", .fieldLink RX8 119 "ClockReach$Automaton" "edges" "I", .fieldLink RX8 122 "ClockReach$Automaton" "start" "I", .methodLink RX8 125 yX0_allConditions, .instanceMethod yX0_allConditions, .selects RX0 yX0_allConditions yX0_allConditions, .initialized RX0, .code yX0_allConditions cX0_allConditions 3 (some .int), .fieldLink RX0 29 "ClockReach$Automaton" "counts" "[I", .fieldLink RX8 100 "ClockReach" "hasShown" "Z", .fieldLink RX8 33 "ClockReach" "history" "LClockReach$History;", .fieldLink RX8 91 "ClockReach$History" "count" "I", .fieldLink RX8 79 "ClockReach" "taped" "I"] ++ wsX80 ++ wsX00 ++ wsX20)
theorem g_X8_about_X0_allConditions : GoodIn vs_X8_about (wsV RX8 125 RX0 yX0_allConditions vs_X0_allConditions) := goodIn_r _ [6, 7, 8, 9, 10, 11, 32, 33, 34, 35, 36, 37, 38, 39, 40, 41, 42, 43, 44, 45, 46, 47, 48] (by decide +kernel) (by decide +kernel)
set_option maxHeartbeats 4000000 in
set_option maxRecDepth 100000 in
theorem c_X8_about (l : Launch) (dC : Nat → ClassId) (dI : Nat → Nat → Nat) (sz : Nat) (a : Nat → Nat) (k : Nat → ClassId) (p0 : Int32) : Met l yX8_about vs_X8_about ({ frames := 1, cells := 0, slots := 0, locals := 22 }) (va_Pc [.ref (a 0), .int p0] (pu_B (dC, dI) (wX a k) (tX k) sz)) (va_Qi (fun (r : Int32) (_ : Unit) => r = abF p0) (fun _ _ => True) (va_A [] sz)) 0 0 (va_A [] sz) := by
  refine Met.ofW (cc := cX8_about) (maxL := 2) (ret := (some .int)) (by decide) rfl ?_
  intro p e s m args below meth c s₁ B hml hv
  obtain ⟨rfl, rfl, hP, hK, hD0⟩ := hv
  have hx := B.exec
  have hb := B.bytes
  have hr := B.returns
  have hts := atoms_spec (ws := vs_X8_about) B.pre
  have v_1 := hts (.fieldLink RX8 23 "ClockReach" "model" "LClockReach$Automaton;") (List.mem_of_getElem? (i := 1) rfl)
  have v_2 := hts (.fieldLink RX8 116 "ClockReach$Automaton" "clocks" "I") (List.mem_of_getElem? (i := 2) rfl)
  have v_3 := hts (.fieldLink RX8 97 "ClockReach$Automaton" "places" "I") (List.mem_of_getElem? (i := 3) rfl)
  have v_4 := hts (.fieldLink RX8 119 "ClockReach$Automaton" "edges" "I") (List.mem_of_getElem? (i := 4) rfl)
  have v_5 := hts (.fieldLink RX8 122 "ClockReach$Automaton" "start" "I") (List.mem_of_getElem? (i := 5) rfl)
  have v_12 := hts (.fieldLink RX8 100 "ClockReach" "hasShown" "Z") (List.mem_of_getElem? (i := 12) rfl)
  have v_13 := hts (.fieldLink RX8 33 "ClockReach" "history" "LClockReach$History;") (List.mem_of_getElem? (i := 13) rfl)
  have v_14 := hts (.fieldLink RX8 91 "ClockReach$History" "count" "I") (List.mem_of_getElem? (i := 14) rfl)
  have v_15 := hts (.fieldLink RX8 79 "ClockReach" "taped" "I") (List.mem_of_getElem? (i := 15) rfl)
  have hown : s.vm.findClass RX8 = some m.cls := findClass_of_methodNamed B.named
  have hlocks := B.notSynchronized
  have hiX0 : ∀ w ∈ wsX00, w ∈ vs_X8_about := fun _ h => List.mem_cons_of_mem _ (List.mem_append_left _ (List.mem_append_right _ h))
  have hiX2 : ∀ w ∈ wsX20, w ∈ vs_X8_about := fun _ h => List.mem_cons_of_mem _ (List.mem_append_right _ h)
  have hiX8 : ∀ w ∈ wsX80, w ∈ vs_X8_about := fun _ h => List.mem_cons_of_mem _ (List.mem_append_left _ (List.mem_append_left _ (List.mem_append_right _ h)))
  have hD := hD0
  have hA : ∀ q : Nat, s.heap.size ≤ q → va_A [] s.heap.size q := fun _ h => Or.inr h
  have hS : va_S (va_A [] s.heap.size) s.heap s.heap [] := va_S.rf
  have hl := lv_entry ([.ref (a 0), .int p0]) (n := 2) (Nat.le_of_ble_eq_true rfl)
  rw [lg_entry_eq]
  generalize (lg_sl ([.ref (a 0), .int p0]) ++ List.replicate (2 - (lg_sl ([.ref (a 0), .int p0])).length) Slot.unset).toArray = ls at hl ⊢
  have hl : lv_has ls 2 [(0, .ref (a 0)), (1, .int p0)] := hl
  refine lv_iload_n hx hb dX8_about_0 rfl (lv_at hl 1 rfl) ?_
  by_cases w_1 : p0 = 0
  · subst w_1
    refine lv_tableIn (tgt := 56) (off := 55) hx hb dX8_about_1 (by decide) (by decide) rfl (by decide) ?_
    refine lv_aload_n hx hb dX8_about_56 rfl (lv_at hl 0 rfl) ?_
    refine va_get (D := (dC, dI)) (ci := 8) (v := .ref (a 1)) (C := RX8) (T := TX8) (N := 16) hx hb hts hiX8 hown hK hP 0 rfl rfl 3 (by decide) v_1 (fun _ h9 => h9) rfl dX8_about_57 ?_
    refine va_get (D := (dC, dI)) (ci := 0) (v := .int 0) (C := RX0) (T := TX0) (N := 17) hx hb hts hiX0 hown hK hP 1 rfl rfl 0 (by decide) v_2 (fun _ h9 => h9) rfl dX8_about_60 ?_
    exact W.iret (v := 0) hx hb hr (fun t ht hW => ⟨⟨0, (), rfl, by decide, trivial⟩, hS.F ht⟩) hS.2.2 dX8_about_63
  by_cases w_2 : p0 = 1
  · subst w_2
    refine lv_tableIn (tgt := 64) (off := 63) hx hb dX8_about_1 (by decide) (by decide) rfl (by decide) ?_
    refine lv_aload_n hx hb dX8_about_64 rfl (lv_at hl 0 rfl) ?_
    refine va_get (D := (dC, dI)) (ci := 8) (v := .ref (a 1)) (C := RX8) (T := TX8) (N := 16) hx hb hts hiX8 hown hK hP 0 rfl rfl 3 (by decide) v_1 (fun _ h9 => h9) rfl dX8_about_65 ?_
    refine va_get (D := (dC, dI)) (ci := 0) (v := .int 0) (C := RX0) (T := TX0) (N := 17) hx hb hts hiX0 hown hK hP 1 rfl rfl 1 (by decide) v_3 (fun _ h9 => h9) rfl dX8_about_68 ?_
    exact W.iret (v := 0) hx hb hr (fun t ht hW => ⟨⟨0, (), rfl, by decide, trivial⟩, hS.F ht⟩) hS.2.2 dX8_about_71
  by_cases w_3 : p0 = 2
  · subst w_3
    refine lv_tableIn (tgt := 72) (off := 71) hx hb dX8_about_1 (by decide) (by decide) rfl (by decide) ?_
    refine lv_aload_n hx hb dX8_about_72 rfl (lv_at hl 0 rfl) ?_
    refine va_get (D := (dC, dI)) (ci := 8) (v := .ref (a 1)) (C := RX8) (T := TX8) (N := 16) hx hb hts hiX8 hown hK hP 0 rfl rfl 3 (by decide) v_1 (fun _ h9 => h9) rfl dX8_about_73 ?_
    refine va_get (D := (dC, dI)) (ci := 0) (v := .int 0) (C := RX0) (T := TX0) (N := 17) hx hb hts hiX0 hown hK hP 1 rfl rfl 2 (by decide) v_4 (fun _ h9 => h9) rfl dX8_about_76 ?_
    exact W.iret (v := 0) hx hb hr (fun t ht hW => ⟨⟨0, (), rfl, by decide, trivial⟩, hS.F ht⟩) hS.2.2 dX8_about_79
  by_cases w_4 : p0 = 3
  · subst w_4
    refine lv_tableIn (tgt := 80) (off := 79) hx hb dX8_about_1 (by decide) (by decide) rfl (by decide) ?_
    refine lv_aload_n hx hb dX8_about_80 rfl (lv_at hl 0 rfl) ?_
    refine va_get (D := (dC, dI)) (ci := 8) (v := .ref (a 1)) (C := RX8) (T := TX8) (N := 16) hx hb hts hiX8 hown hK hP 0 rfl rfl 3 (by decide) v_1 (fun _ h9 => h9) rfl dX8_about_81 ?_
    refine va_get (D := (dC, dI)) (ci := 0) (v := .int (-1)) (C := RX0) (T := TX0) (N := 17) hx hb hts hiX0 hown hK hP 1 rfl rfl 3 (by decide) v_5 (fun _ h9 => h9) rfl dX8_about_84 ?_
    exact W.iret (v := (-1)) hx hb hr (fun t ht hW => ⟨⟨(-1), (), rfl, by decide, trivial⟩, hS.F ht⟩) hS.2.2 dX8_about_87
  by_cases w_5 : p0 = 4
  · subst w_5
    refine lv_tableIn (tgt := 88) (off := 87) hx hb dX8_about_1 (by decide) (by decide) rfl (by decide) ?_
    refine lv_aload_n hx hb dX8_about_88 rfl (lv_at hl 0 rfl) ?_
    refine va_get (D := (dC, dI)) (ci := 8) (v := .ref (a 1)) (C := RX8) (T := TX8) (N := 16) hx hb hts hiX8 hown hK hP 0 rfl rfl 3 (by decide) v_1 (fun _ h9 => h9) rfl dX8_about_89 ?_
    refine va_calli (va_runV (As := []) (rest := []) ⟨hx, hb, hml, hown, hts⟩ (c_X0_allConditions l dC dI _ a k) (cwV 0 hts g_X8_about_X0_allConditions rfl rfl rfl (by decide +kernel) ⟨Nat.le_of_ble_eq_true rfl, Nat.le_of_ble_eq_true rfl⟩) ⟨pu_bl, va_recv hK hP (ci := 0) (q0 := 1) rfl rfl, pu_in hP hK hD⟩ rfl rfl hl.1 rfl (lv_room (Nat.le_of_ble_eq_true rfl)) dX8_about_92 ⟨Nat.le_of_ble_eq_true rfl, Nat.le_of_ble_eq_true rfl⟩) hS (fun q _ h => pu_fr hS hA q h) (pu_fr hS hA) (fun r_6 u t H1 locs ht hvm hw hB hz1 hk1 hS => ?_)
    have hP := pu_keep hP hk1
    clear hk1 hz1 hB ht hvm
    generalize H1 = H at hP hS ⊢
    obtain rfl : r_6 = 0 := hw
    exact W.iret (v := 0) hx hb hr (fun t ht hW => ⟨⟨0, (), rfl, by decide, trivial⟩, hS.F ht⟩) hS.2.2 dX8_about_95
  by_cases w_7 : p0 = 5
  · subst w_7
    refine lv_tableIn (tgt := 96) (off := 95) hx hb dX8_about_1 (by decide) (by decide) rfl (by decide) ?_
    refine lv_aload_n hx hb dX8_about_96 rfl (lv_at hl 0 rfl) ?_
    refine va_get (D := (dC, dI)) (ci := 8) (v := .int 0) (C := RX8) (T := TX8) (N := 16) hx hb hts hiX8 hown hK hP 0 rfl rfl 7 (by decide) v_12 (fun _ h9 => h9) rfl dX8_about_97 ?_
    refine lv_if_eq (tgt := 113) hx hb dX8_about_100 (by decide) (fun _ => ?_) (fun z => absurd z (by decide))
    refine lv_iconst (v := (-1)) hx hb dX8_about_113 (by decide) ?_
    exact W.iret (v := (-1)) hx hb hr (fun t ht hW => ⟨⟨(-1), (), rfl, by decide, trivial⟩, hS.F ht⟩) hS.2.2 dX8_about_114
  by_cases w_8 : p0 = 6
  · subst w_8
    refine lv_tableIn (tgt := 115) (off := 114) hx hb dX8_about_1 (by decide) (by decide) rfl (by decide) ?_
    refine lv_aload_n hx hb dX8_about_115 rfl (lv_at hl 0 rfl) ?_
    refine va_get (D := (dC, dI)) (ci := 8) (v := .int 0) (C := RX8) (T := TX8) (N := 16) hx hb hts hiX8 hown hK hP 0 rfl rfl 7 (by decide) v_12 (fun _ h9 => h9) rfl dX8_about_116 ?_
    refine lv_if_eq (tgt := 135) hx hb dX8_about_119 (by decide) (fun _ => ?_) (fun z => absurd z (by decide))
    refine lv_iconst (v := (-1)) hx hb dX8_about_135 (by decide) ?_
    exact W.iret (v := (-1)) hx hb hr (fun t ht hW => ⟨⟨(-1), (), rfl, by decide, trivial⟩, hS.F ht⟩) hS.2.2 dX8_about_136
  by_cases w_9 : p0 = 7
  · subst w_9
    refine lv_tableIn (tgt := 137) (off := 136) hx hb dX8_about_1 (by decide) (by decide) rfl (by decide) ?_
    refine lv_aload_n hx hb dX8_about_137 rfl (lv_at hl 0 rfl) ?_
    refine va_get (D := (dC, dI)) (ci := 8) (v := .int 0) (C := RX8) (T := TX8) (N := 16) hx hb hts hiX8 hown hK hP 0 rfl rfl 7 (by decide) v_12 (fun _ h9 => h9) rfl dX8_about_138 ?_
    refine lv_if_eq (tgt := 154) hx hb dX8_about_141 (by decide) (fun _ => ?_) (fun z => absurd z (by decide))
    refine lv_iconst (v := (-1)) hx hb dX8_about_154 (by decide) ?_
    exact W.iret (v := (-1)) hx hb hr (fun t ht hW => ⟨⟨(-1), (), rfl, by decide, trivial⟩, hS.F ht⟩) hS.2.2 dX8_about_155
  by_cases w_10 : p0 = 8
  · subst w_10
    refine lv_tableIn (tgt := 156) (off := 155) hx hb dX8_about_1 (by decide) (by decide) rfl (by decide) ?_
    refine lv_aload_n hx hb dX8_about_156 rfl (lv_at hl 0 rfl) ?_
    refine va_get (D := (dC, dI)) (ci := 8) (v := .ref (a 2)) (C := RX8) (T := TX8) (N := 16) hx hb hts hiX8 hown hK hP 0 rfl rfl 5 (by decide) v_13 (fun _ h9 => h9) rfl dX8_about_157 ?_
    refine va_get (D := (dC, dI)) (ci := 2) (v := .int 0) (C := RX2) (T := TX2) (N := 3) hx hb hts hiX2 hown hK hP 2 rfl rfl 0 (by decide) v_14 (fun _ h9 => h9) rfl dX8_about_160 ?_
    exact W.iret (v := 0) hx hb hr (fun t ht hW => ⟨⟨0, (), rfl, by decide, trivial⟩, hS.F ht⟩) hS.2.2 dX8_about_163
  by_cases w_11 : p0 = 9
  · subst w_11
    refine lv_tableIn (tgt := 164) (off := 163) hx hb dX8_about_1 (by decide) (by decide) rfl (by decide) ?_
    refine lv_aload_n hx hb dX8_about_164 rfl (lv_at hl 0 rfl) ?_
    refine va_get (D := (dC, dI)) (ci := 8) (v := .int 0) (C := RX8) (T := TX8) (N := 16) hx hb hts hiX8 hown hK hP 0 rfl rfl 1 (by decide) v_15 (fun _ h9 => h9) rfl dX8_about_165 ?_
    exact W.iret (v := 0) hx hb hr (fun t ht hW => ⟨⟨0, (), rfl, by decide, trivial⟩, hS.F ht⟩) hS.2.2 dX8_about_168
  refine lv_tableOut (tgt := 169) hx hb dX8_about_1 (by
      have zw_1 : Int32.toInt p0 ≠ 0 := fun g => w_1 ((fa_eq _ _).mpr g)
      have zw_2 : Int32.toInt p0 ≠ 1 := fun g => w_2 ((fa_eq _ _).mpr g)
      have zw_3 : Int32.toInt p0 ≠ 2 := fun g => w_3 ((fa_eq _ _).mpr g)
      have zw_4 : Int32.toInt p0 ≠ 3 := fun g => w_4 ((fa_eq _ _).mpr g)
      have zw_5 : Int32.toInt p0 ≠ 4 := fun g => w_5 ((fa_eq _ _).mpr g)
      have zw_7 : Int32.toInt p0 ≠ 5 := fun g => w_7 ((fa_eq _ _).mpr g)
      have zw_8 : Int32.toInt p0 ≠ 6 := fun g => w_8 ((fa_eq _ _).mpr g)
      have zw_9 : Int32.toInt p0 ≠ 7 := fun g => w_9 ((fa_eq _ _).mpr g)
      have zw_10 : Int32.toInt p0 ≠ 8 := fun g => w_10 ((fa_eq _ _).mpr g)
      have zw_11 : Int32.toInt p0 ≠ 9 := fun g => w_11 ((fa_eq _ _).mpr g)
      omega) (by decide) ?_
  refine lv_iconst (v := (-1)) hx hb dX8_about_169 (by decide) ?_
  exact W.iret (v := (-1)) hx hb hr (fun t ht hW => ⟨⟨(-1), (), rfl, by unfold abF; simp [*], trivial⟩, hS.F ht⟩) hS.2.2 dX8_about_170
theorem dX8_begin_0 : decode cX8_begin 0 = .ok (.aload_n 0, 1) := by decide +kernel
theorem dX8_begin_1 : decode cX8_begin 1 = .ok (.getfield 69, 3) := by decide +kernel
theorem dX8_begin_4 : decode cX8_begin 4 = .ok (.aload_n 0, 1) := by decide +kernel
theorem dX8_begin_5 : decode cX8_begin 5 = .ok (.getfield 23, 3) := by decide +kernel
theorem dX8_begin_8 : decode cX8_begin 8 = .ok (.invokevirtual 361, 3) := by decide +kernel
theorem dX8_begin_11 : decode cX8_begin 11 = .ok (.ifCond .eq 13, 3) := by decide +kernel
theorem dX8_begin_24 : decode cX8_begin 24 = .ok (.iconst (-1), 1) := by decide +kernel
theorem dX8_begin_25 : decode cX8_begin 25 = .ok (.ireturn, 1) := by decide +kernel
def vs_X8_begin : List Cond := .code yX8_begin cX8_begin 1 (some .int) :: ([.fieldLink RX8 69 "ClockReach" "play" "LClockReach$Play;", .fieldLink RX8 23 "ClockReach" "model" "LClockReach$Automaton;", .methodLink RX8 361 yX3_startsIn, .instanceMethod yX3_startsIn, .selects RX3 yX3_startsIn yX3_startsIn, .initialized RX3, .code yX3_startsIn cX3_startsIn 3 (some .boolean), .fieldLink RX3 18 "ClockReach$Play" "on" "Z", .fieldLink RX3 22 "ClockReach$Automaton" "places" "I"] ++ wsX80 ++ wsX30 ++ wsX00)
theorem g_X8_begin_X3_startsIn : GoodIn vs_X8_begin (wsV RX8 361 RX3 yX3_startsIn vs_X3_startsIn) := goodIn_r _ [3, 4, 5, 6, 7, 8, 9, 26, 27, 28, 29, 30, 31, 32, 33, 34, 35, 36, 37, 38, 39, 40, 41, 42, 43, 44, 45, 46, 47] (by decide +kernel) (by decide +kernel)
set_option maxHeartbeats 4000000 in
set_option maxRecDepth 100000 in
theorem c_X8_begin (l : Launch) (dC : Nat → ClassId) (dI : Nat → Nat → Nat) (sz : Nat) (a : Nat → Nat) (k : Nat → ClassId) : Met l yX8_begin vs_X8_begin ({ frames := 1, cells := 0, slots := 0, locals := 22 }) (va_Pc [.ref (a 0)] (pu_B (dC, dI) (wX a k) (tX k) sz)) (va_Qi (fun (r : Int32) (_ : Unit) => r = -1) (fun _ _ => True) (va_A (wX a k) sz)) 0 0 (va_A (wX a k) sz) := by
  refine Met.ofW (cc := cX8_begin) (maxL := 1) (ret := (some .int)) (by decide) rfl ?_
  intro p e s m args below meth c s₁ B hml hv
  obtain ⟨rfl, rfl, hP, hK, hD0⟩ := hv
  have hx := B.exec
  have hb := B.bytes
  have hr := B.returns
  have hts := atoms_spec (ws := vs_X8_begin) B.pre
  have v_1 := hts (.fieldLink RX8 69 "ClockReach" "play" "LClockReach$Play;") (List.mem_of_getElem? (i := 1) rfl)
  have v_2 := hts (.fieldLink RX8 23 "ClockReach" "model" "LClockReach$Automaton;") (List.mem_of_getElem? (i := 2) rfl)
  have hown : s.vm.findClass RX8 = some m.cls := findClass_of_methodNamed B.named
  have hlocks := B.notSynchronized
  have hiX8 : ∀ w ∈ wsX80, w ∈ vs_X8_begin := fun _ h => List.mem_cons_of_mem _ (List.mem_append_left _ (List.mem_append_left _ (List.mem_append_right _ h)))
  have hD := hD0.self (sz := s.heap.size)
  generalize hAe : va_A (wX a k) s.heap.size = A at hD ⊢
  have hA : ∀ q : Nat, s.heap.size ≤ q → A q := fun q h => by rw [← hAe]; exact Or.inr h
  have hS : va_S A s.heap s.heap [] := va_S.rf
  have hl := lv_entry ([.ref (a 0)]) (n := 1) (Nat.le_of_ble_eq_true rfl)
  rw [lg_entry_eq]
  generalize (lg_sl ([.ref (a 0)]) ++ List.replicate (1 - (lg_sl ([.ref (a 0)])).length) Slot.unset).toArray = ls at hl ⊢
  have hl : lv_has ls 1 [(0, .ref (a 0))] := hl
  refine lv_aload_n hx hb dX8_begin_0 rfl (lv_at hl 0 rfl) ?_
  refine va_get (D := (dC, dI)) (ci := 8) (v := .ref (a 3)) (C := RX8) (T := TX8) (N := 16) hx hb hts hiX8 hown hK hP 0 rfl rfl 13 (by decide) v_1 (fun _ h9 => h9) rfl dX8_begin_1 ?_
  refine lv_aload_n hx hb dX8_begin_4 rfl (lv_at hl 0 rfl) ?_
  refine va_get (D := (dC, dI)) (ci := 8) (v := .ref (a 1)) (C := RX8) (T := TX8) (N := 16) hx hb hts hiX8 hown hK hP 0 rfl rfl 3 (by decide) v_2 (fun _ h9 => h9) rfl dX8_begin_5 ?_
  have hFc := va_free (wc := [((a 0), .inr (8, [.ref (a 6), .int 0, .ref (a 4), .ref (a 1), .ref (a 5), .ref (a 2), .ref (a 10), .int 0, .ref (a 11), .ref (a 12), .int 0, .ref (a 13), .ref (a 14), .ref (a 3), .ref (a 15), .ref (a 16)])), ((a 1), .inr (0, [.int 0, .int 0, .int 0, .int (-1), .ref (a 20), .ref (a 21), .ref (a 22), .ref (a 23), .ref (a 7), .ref (a 24), .ref (a 25), .ref (a 26), .ref (a 27), .ref (a 28), .ref (a 29), .ref (a 30), .ref (a 31)])), ((a 2), .inr (2, [.int 0, .ref (a 60), .ref (a 61)])), ((a 3), .inr (3, [.int 0, .int 0, .int 0, .ref (a 62), .ref (a 63)])), ((a 4), .inr (4, [.int 0, .int (-1), .null, .int 0, .int 0, .int 0, .int 0, .int 0, .null, .ref (a 64), .ref (a 65), .ref (a 66)])), ((a 5), .inr (0, [.int 0, .int 0, .int 0, .int (-1), .ref (a 8), .ref (a 41), .ref (a 42), .ref (a 43), .ref (a 9), .ref (a 44), .ref (a 45), .ref (a 46), .ref (a 47), .ref (a 48), .ref (a 49), .ref (a 50), .ref (a 51)])), ((a 6), .inl ((k 0), 900, .inl (fun _ => 0))), ((a 7), .inl ((k 1), 22, .inl (fun _ => 0))), ((a 8), .inl ((k 2), 8, .inl (fun _ => 0))), ((a 9), .inl ((k 3), 22, .inl (fun _ => 0)))]) hD hS hA [0, 1, 2, 3, 4, 5, 6, 7, 8, 9] rfl
  refine va_calli (va_runV (As := [.ref (a 1)]) (rest := []) ⟨hx, hb, hml, hown, hts⟩ (c_X3_startsIn l dC dI _ a k) (cwV 1 hts g_X8_begin_X3_startsIn rfl rfl rfl (by decide +kernel) ⟨Nat.le_of_ble_eq_true rfl, Nat.le_of_ble_eq_true rfl⟩) ⟨pu_bl, va_recv hK hP (ci := 3) (q0 := 3) rfl rfl, pu_in hP hK hD⟩ rfl rfl hl.1 rfl (lv_room (Nat.le_of_ble_eq_true rfl)) dX8_begin_8 ⟨Nat.le_of_ble_eq_true rfl, Nat.le_of_ble_eq_true rfl⟩) hS (fun q _ h => hFc q h) hFc (fun r_1 u t H1 locs ht hvm hw hB hz1 hk1 hS => ?_)
  obtain ⟨hP, hD⟩ := va_join (wr := []) (w1 := []) hP hD [0, 1, 2, 3, 4, 5, 6, 7, 8, 9] [] rfl rfl (by decide) (by decide) hk1 hFc pu_P0 pu_D0
  clear hk1 hz1 hB ht hvm
  generalize H1 = H at hP hS ⊢
  have hP : va_P (dC, dI) vwCl [] H := hP
  have hD : va_D A [] := hD
  obtain rfl : r_1 = 0 := hw
  refine lv_if_eq (tgt := 24) hx hb dX8_begin_11 (by decide) (fun _ => ?_) (fun z => absurd z (by decide))
  refine lv_iconst (v := (-1)) hx hb dX8_begin_24 (by decide) ?_
  exact W.iret (v := (-1)) hx hb hr (fun t ht hW => ⟨⟨(-1), (), rfl, by first | rfl | decide | simp_all, trivial⟩, hS.F ht⟩) hS.2.2 dX8_begin_25
theorem dX8_replays_0 : decode cX8_replays 0 = .ok (.aload_n 0, 1) := by decide +kernel
theorem dX8_replays_1 : decode cX8_replays 1 = .ok (.getfield 69, 3) := by decide +kernel
theorem dX8_replays_4 : decode cX8_replays 4 = .ok (.iconst 0, 1) := by decide +kernel
theorem dX8_replays_5 : decode cX8_replays 5 = .ok (.putfield 107, 3) := by decide +kernel
theorem dX8_replays_8 : decode cX8_replays 8 = .ok (.aload_n 0, 1) := by decide +kernel
theorem dX8_replays_9 : decode cX8_replays 9 = .ok (.iload_n 1, 1) := by decide +kernel
theorem dX8_replays_10 : decode cX8_replays 10 = .ok (.invokevirtual 228, 3) := by decide +kernel
theorem dX8_replays_13 : decode cX8_replays 13 = .ok (.ifCond .eq 25, 3) := by decide +kernel
theorem dX8_replays_38 : decode cX8_replays 38 = .ok (.iconst 0, 1) := by decide +kernel
theorem dX8_replays_39 : decode cX8_replays 39 = .ok (.ireturn, 1) := by decide +kernel
def vs_X8_replays : List Cond := .code yX8_replays cX8_replays 3 (some .boolean) :: ([.fieldLink RX8 69 "ClockReach" "play" "LClockReach$Play;", .fieldLink RX8 107 "ClockReach$Play" "on" "Z", .methodLink RX8 228 yX8_isState, .instanceMethod yX8_isState, .selects RX8 yX8_isState yX8_isState, .initialized RX8, .code yX8_isState cX8_isState 2 (some .boolean), .fieldLink RX8 100 "ClockReach" "hasShown" "Z"] ++ wsX80 ++ wsX30)
theorem g_X8_replays_X8_isState : GoodIn vs_X8_replays (wsV RX8 228 RX8 yX8_isState vs_X8_isState) := goodIn_r _ [3, 4, 5, 6, 7, 8, 9, 10, 11, 12, 13, 14, 15, 16, 17, 18, 19, 20, 21, 22, 23, 24] (by decide +kernel) (by decide +kernel)
set_option maxHeartbeats 4000000 in
set_option maxRecDepth 100000 in
theorem c_X8_replays (l : Launch) (dC : Nat → ClassId) (dI : Nat → Nat → Nat) (sz : Nat) (a : Nat → Nat) (k : Nat → ClassId) (p0 : Int32) : Met l yX8_replays vs_X8_replays ({ frames := 1, cells := 0, slots := 0, locals := 21 }) (va_Pc [.ref (a 0), .int p0] (pu_B (dC, dI) (wX a k) (tX k) sz)) (va_Qi (fun (r : Int32) (_ : Unit) => r = 0) (fun _ _ => True) (va_A (wX a k) sz)) 0 0 (va_A (wX a k) sz) := by
  refine Met.ofW (cc := cX8_replays) (maxL := 3) (ret := (some .boolean)) (by decide) rfl ?_
  intro p e s m args below meth c s₁ B hml hv
  obtain ⟨rfl, rfl, hP, hK, hD0⟩ := hv
  have hx := B.exec
  have hb := B.bytes
  have hr := B.returns
  have hts := atoms_spec (ws := vs_X8_replays) B.pre
  have v_1 := hts (.fieldLink RX8 69 "ClockReach" "play" "LClockReach$Play;") (List.mem_of_getElem? (i := 1) rfl)
  have v_2 := hts (.fieldLink RX8 107 "ClockReach$Play" "on" "Z") (List.mem_of_getElem? (i := 2) rfl)
  have hown : s.vm.findClass RX8 = some m.cls := findClass_of_methodNamed B.named
  have hlocks := B.notSynchronized
  have hiX3 : ∀ w ∈ wsX30, w ∈ vs_X8_replays := fun _ h => List.mem_cons_of_mem _ (List.mem_append_right _ h)
  have hiX8 : ∀ w ∈ wsX80, w ∈ vs_X8_replays := fun _ h => List.mem_cons_of_mem _ (List.mem_append_left _ (List.mem_append_right _ h))
  have hD := hD0.self (sz := s.heap.size)
  generalize hAe : va_A (wX a k) s.heap.size = A at hD ⊢
  have hA : ∀ q : Nat, s.heap.size ≤ q → A q := fun q h => by rw [← hAe]; exact Or.inr h
  have hS : va_S A s.heap s.heap [] := va_S.rf
  have hl := lv_entry ([.ref (a 0), .int p0]) (n := 3) (Nat.le_of_ble_eq_true rfl)
  rw [lg_entry_eq]
  generalize (lg_sl ([.ref (a 0), .int p0]) ++ List.replicate (3 - (lg_sl ([.ref (a 0), .int p0])).length) Slot.unset).toArray = ls at hl ⊢
  have hl : lv_has ls 3 [(0, .ref (a 0)), (1, .int p0)] := hl
  refine lv_aload_n hx hb dX8_replays_0 rfl (lv_at hl 0 rfl) ?_
  refine va_get (D := (dC, dI)) (ci := 8) (v := .ref (a 3)) (C := RX8) (T := TX8) (N := 16) hx hb hts hiX8 hown hK hP 0 rfl rfl 13 (by decide) v_1 (fun _ h9 => h9) rfl dX8_replays_1 ?_
  refine lv_iconst (v := 0) hx hb dX8_replays_4 (by decide) ?_
  refine va_put (D := (dC, dI)) (ci := 3) (v := .int 0) (ty := .boolean) (C := RX3) (T := TX3) (N := 5) hx hb hts hiX3 tyX3 tyX3_ok nmX3 hown hK hP hD hS 3 rfl rfl 0 (by decide) v_2 (fun _ h9 => h9) rfl (by decide +kernel) rfl rfl (Nat.le_of_ble_eq_true rfl) dX8_replays_5 (fun H locs hP hD hS => ?_)
  have hP : va_P (dC, dI) vwCl (wX a k) H := hP
  have hD : va_D A (wX a k) := hD
  refine lv_aload_n hx hb dX8_replays_8 rfl (lv_at hl 0 rfl) ?_
  refine lv_iload_n hx hb dX8_replays_9 rfl (lv_at hl 1 rfl) ?_
  refine va_calli (va_runV (As := [.int p0]) (rest := []) ⟨hx, hb, hml, hown, hts⟩ (c_X8_isState l dC dI _ a k p0) (cwV 1 hts g_X8_replays_X8_isState rfl rfl rfl (by decide +kernel) ⟨Nat.le_of_ble_eq_true rfl, Nat.le_of_ble_eq_true rfl⟩) ⟨pu_bl, va_recv hK hP (ci := 8) (q0 := 0) rfl rfl, pu_in hP hK hD⟩ rfl rfl hl.1 rfl (lv_room (Nat.le_of_ble_eq_true rfl)) dX8_replays_10 ⟨Nat.le_of_ble_eq_true rfl, Nat.le_of_ble_eq_true rfl⟩) hS (fun q _ h => pu_fr hS hA q h) (pu_fr hS hA) (fun r_1 u t H1 locs ht hvm hw hB hz1 hk1 hS => ?_)
  have hP := pu_keep hP hk1
  clear hk1 hz1 hB ht hvm
  generalize H1 = H at hP hS ⊢
  obtain rfl : r_1 = 0 := hw
  refine lv_if_eq (tgt := 38) hx hb dX8_replays_13 (by decide) (fun _ => ?_) (fun z => absurd z (by decide))
  refine lv_iconst (v := 0) hx hb dX8_replays_38 (by decide) ?_
  exact W.zret (v := 0) (ty := .boolean) hx hb hr rfl (fun t ht hW => ⟨⟨0, (), rfl, by first | rfl | decide | simp_all, trivial⟩, hS.F ht⟩) hS.2.2 dX8_replays_39
theorem dX8_end_0 : decode cX8_end 0 = .ok (.iload_n 1, 1) := by decide +kernel
theorem dX8_end_1 : decode cX8_end 1 = .ok (.ifCond .lt 11, 3) := by decide +kernel
theorem dX8_end_4 : decode cX8_end 4 = .ok (.iload_n 1, 1) := by decide +kernel
theorem dX8_end_5 : decode cX8_end 5 = .ok (.aload_n 0, 1) := by decide +kernel
theorem dX8_end_6 : decode cX8_end 6 = .ok (.getfield 79, 3) := by decide +kernel
theorem dX8_end_9 : decode cX8_end 9 = .ok (.if_icmp .le 5, 3) := by decide +kernel
theorem dX8_end_12 : decode cX8_end 12 = .ok (.iconst (-1), 1) := by decide +kernel
theorem dX8_end_13 : decode cX8_end 13 = .ok (.ireturn, 1) := by decide +kernel
theorem dX8_end_14 : decode cX8_end 14 = .ok (.aload_n 0, 1) := by decide +kernel
theorem dX8_end_15 : decode cX8_end 15 = .ok (.iload_n 1, 1) := by decide +kernel
theorem dX8_end_16 : decode cX8_end 16 = .ok (.putfield 79, 3) := by decide +kernel
theorem dX8_end_19 : decode cX8_end 19 = .ok (.iload_n 1, 1) := by decide +kernel
theorem dX8_end_20 : decode cX8_end 20 = .ok (.ireturn, 1) := by decide +kernel
def vs_X8_end : List Cond := .code yX8_end cX8_end 2 (some .int) :: ([.fieldLink RX8 79 "ClockReach" "taped" "I"] ++ wsX80)
set_option maxHeartbeats 4000000 in
set_option maxRecDepth 100000 in
theorem c_X8_end (l : Launch) (dC : Nat → ClassId) (dI : Nat → Nat → Nat) (sz : Nat) (a : Nat → Nat) (k : Nat → ClassId) (p0 : Int32) : Met l yX8_end vs_X8_end ({ frames := 0, cells := 0, slots := 0, locals := 0 }) (va_Pc [.ref (a 0), .int p0] (pu_B (dC, dI) (wX a k) (tX k) sz)) (va_Qi (fun (r : Int32) (_ : Unit) => r = flF p0) (fun _ _ => True) (va_A (wX a k) sz)) 0 0 (va_A (wX a k) sz) := by
  refine Met.ofW (cc := cX8_end) (maxL := 2) (ret := (some .int)) (by decide) rfl ?_
  intro p e s m args below meth c s₁ B hml hv
  obtain ⟨rfl, rfl, hP, hK, hD0⟩ := hv
  have hx := B.exec
  have hb := B.bytes
  have hr := B.returns
  have hts := atoms_spec (ws := vs_X8_end) B.pre
  have v_1 := hts (.fieldLink RX8 79 "ClockReach" "taped" "I") (List.mem_of_getElem? (i := 1) rfl)
  have hown : s.vm.findClass RX8 = some m.cls := findClass_of_methodNamed B.named
  have hlocks := B.notSynchronized
  have hiX8 : ∀ w ∈ wsX80, w ∈ vs_X8_end := fun _ h => List.mem_cons_of_mem _ (List.mem_append_right _ h)
  have hD := hD0.self (sz := s.heap.size)
  generalize hAe : va_A (wX a k) s.heap.size = A at hD ⊢
  have hA : ∀ q : Nat, s.heap.size ≤ q → A q := fun q h => by rw [← hAe]; exact Or.inr h
  have hS : va_S A s.heap s.heap [] := va_S.rf
  have hl := lv_entry ([.ref (a 0), .int p0]) (n := 2) (Nat.le_of_ble_eq_true rfl)
  rw [lg_entry_eq]
  generalize (lg_sl ([.ref (a 0), .int p0]) ++ List.replicate (2 - (lg_sl ([.ref (a 0), .int p0])).length) Slot.unset).toArray = ls at hl ⊢
  have hl : lv_has ls 2 [(0, .ref (a 0)), (1, .int p0)] := hl
  refine lv_iload_n hx hb dX8_end_0 rfl (lv_at hl 1 rfl) ?_
  refine lv_if_lt (tgt := 12) hx hb dX8_end_1 (by decide) (fun c_1 => ?_) (fun c_1 => ?_)
  · refine lv_iconst (v := (-1)) hx hb dX8_end_12 (by decide) ?_
    exact W.iret (v := (-1)) hx hb hr (fun t ht hW => ⟨⟨(-1), (), rfl, flF_lt c_1, trivial⟩, hS.F ht⟩) hS.2.2 dX8_end_13
  · refine lv_iload_n hx hb dX8_end_4 rfl (lv_at hl 1 rfl) ?_
    refine lv_aload_n hx hb dX8_end_5 rfl (lv_at hl 0 rfl) ?_
    refine va_get (D := (dC, dI)) (ci := 8) (v := .int 0) (C := RX8) (T := TX8) (N := 16) hx hb hts hiX8 hown hK hP 0 rfl rfl 1 (by decide) v_1 (fun _ h9 => h9) rfl dX8_end_6 ?_
    refine lv_icmp_le (tgt := 14) hx hb dX8_end_9 (by decide) (fun c_2 => ?_) (fun c_2 => ?_)
    · refine lv_aload_n hx hb dX8_end_14 rfl (lv_at hl 0 rfl) ?_
      refine lv_iload_n hx hb dX8_end_15 rfl (lv_at hl 1 rfl) ?_
      refine va_put (D := (dC, dI)) (ci := 8) (v := .int p0) (ty := .int) (C := RX8) (T := TX8) (N := 16) hx hb hts hiX8 tyX8 tyX8_ok nmX8 hown hK hP hD hS 0 rfl rfl 1 (by decide) v_1 (fun _ h9 => h9) rfl (by decide +kernel) rfl rfl (Nat.le_of_ble_eq_true rfl) dX8_end_16 (fun H locs hP hD hS => ?_)
      have hP : va_P (dC, dI) vwCl [((a 0), .inr (8, [.ref (a 6), .int p0, .ref (a 4), .ref (a 1), .ref (a 5), .ref (a 2), .ref (a 10), .int 0, .ref (a 11), .ref (a 12), .int 0, .ref (a 13), .ref (a 14), .ref (a 3), .ref (a 15), .ref (a 16)])), ((a 1), .inr (0, [.int 0, .int 0, .int 0, .int (-1), .ref (a 20), .ref (a 21), .ref (a 22), .ref (a 23), .ref (a 7), .ref (a 24), .ref (a 25), .ref (a 26), .ref (a 27), .ref (a 28), .ref (a 29), .ref (a 30), .ref (a 31)])), ((a 2), .inr (2, [.int 0, .ref (a 60), .ref (a 61)])), ((a 3), .inr (3, [.int 0, .int 0, .int 0, .ref (a 62), .ref (a 63)])), ((a 4), .inr (4, [.int 0, .int (-1), .null, .int 0, .int 0, .int 0, .int 0, .int 0, .null, .ref (a 64), .ref (a 65), .ref (a 66)])), ((a 5), .inr (0, [.int 0, .int 0, .int 0, .int (-1), .ref (a 8), .ref (a 41), .ref (a 42), .ref (a 43), .ref (a 9), .ref (a 44), .ref (a 45), .ref (a 46), .ref (a 47), .ref (a 48), .ref (a 49), .ref (a 50), .ref (a 51)])), ((a 6), .inl ((k 0), 900, .inl (fun _ => 0))), ((a 7), .inl ((k 1), 22, .inl (fun _ => 0))), ((a 8), .inl ((k 2), 8, .inl (fun _ => 0))), ((a 9), .inl ((k 3), 22, .inl (fun _ => 0)))] H := hP
      have hD : va_D A [((a 0), .inr (8, [.ref (a 6), .int p0, .ref (a 4), .ref (a 1), .ref (a 5), .ref (a 2), .ref (a 10), .int 0, .ref (a 11), .ref (a 12), .int 0, .ref (a 13), .ref (a 14), .ref (a 3), .ref (a 15), .ref (a 16)])), ((a 1), .inr (0, [.int 0, .int 0, .int 0, .int (-1), .ref (a 20), .ref (a 21), .ref (a 22), .ref (a 23), .ref (a 7), .ref (a 24), .ref (a 25), .ref (a 26), .ref (a 27), .ref (a 28), .ref (a 29), .ref (a 30), .ref (a 31)])), ((a 2), .inr (2, [.int 0, .ref (a 60), .ref (a 61)])), ((a 3), .inr (3, [.int 0, .int 0, .int 0, .ref (a 62), .ref (a 63)])), ((a 4), .inr (4, [.int 0, .int (-1), .null, .int 0, .int 0, .int 0, .int 0, .int 0, .null, .ref (a 64), .ref (a 65), .ref (a 66)])), ((a 5), .inr (0, [.int 0, .int 0, .int 0, .int (-1), .ref (a 8), .ref (a 41), .ref (a 42), .ref (a 43), .ref (a 9), .ref (a 44), .ref (a 45), .ref (a 46), .ref (a 47), .ref (a 48), .ref (a 49), .ref (a 50), .ref (a 51)])), ((a 6), .inl ((k 0), 900, .inl (fun _ => 0))), ((a 7), .inl ((k 1), 22, .inl (fun _ => 0))), ((a 8), .inl ((k 2), 8, .inl (fun _ => 0))), ((a 9), .inl ((k 3), 22, .inl (fun _ => 0)))] := hD
      refine lv_iload_n hx hb dX8_end_19 rfl (lv_at hl 1 rfl) ?_
      exact W.iret (v := p0) hx hb hr (fun t ht hW => ⟨⟨p0, (), rfl, flF_le c_1 c_2, trivial⟩, hS.F ht⟩) hS.2.2 dX8_end_20
    · refine lv_iconst (v := (-1)) hx hb dX8_end_12 (by decide) ?_
      exact W.iret (v := (-1)) hx hb hr (fun t ht hW => ⟨⟨(-1), (), rfl, flF_nle c_2, trivial⟩, hS.F ht⟩) hS.2.2 dX8_end_13
end
section
theorem dX9_in_0 : decode cX9_in 0 = .ok (.iload_n 0, 1) := by decide +kernel
theorem dX9_in_1 : decode cX9_in 1 = .ok (.iload_n 1, 1) := by decide +kernel
theorem dX9_in_2 : decode cX9_in 2 = .ok (.if_icmp .lt 12, 3) := by decide +kernel
theorem dX9_in_5 : decode cX9_in 5 = .ok (.iload_n 0, 1) := by decide +kernel
theorem dX9_in_6 : decode cX9_in 6 = .ok (.iload_n 2, 1) := by decide +kernel
theorem dX9_in_7 : decode cX9_in 7 = .ok (.if_icmp .gt 7, 3) := by decide +kernel
theorem dX9_in_14 : decode cX9_in 14 = .ok (.iconst 0, 1) := by decide +kernel
theorem dX9_in_15 : decode cX9_in 15 = .ok (.ireturn, 1) := by decide +kernel
def vs_X9_in_m1 : List Cond := .code yX9_in cX9_in 3 (some .boolean) :: ([])
set_option maxHeartbeats 4000000 in
set_option maxRecDepth 100000 in
theorem c_X9_in_m1 (l : Launch) (dC : Nat → ClassId) (dI : Nat → Nat → Nat) (sz : Nat) (p0 : Int32) : Met l yX9_in vs_X9_in_m1 ({ frames := 0, cells := 0, slots := 0, locals := 0 }) (va_Pc [.int p0, .int 0, .int (-1)] (pu_B (dC, dI) [] [] sz)) (va_Qi (fun (r : Int32) (_ : Unit) => r = 0) (fun _ _ => True) (va_A [] sz)) 0 0 (va_A [] sz) := by
  refine Met.ofW (cc := cX9_in) (maxL := 3) (ret := (some .boolean)) (by decide) rfl ?_
  intro p e s m args below meth c s₁ B hml hv
  obtain ⟨rfl, rfl, hP, hK, hD0⟩ := hv
  have hx := B.exec
  have hb := B.bytes
  have hr := B.returns
  have hts := atoms_spec (ws := vs_X9_in_m1) B.pre
  have hown : s.vm.findClass RX9 = some m.cls := findClass_of_methodNamed B.named
  have hlocks := B.notSynchronized
  have hD := hD0
  have hA : ∀ q : Nat, s.heap.size ≤ q → va_A [] s.heap.size q := fun _ h => Or.inr h
  have hS : va_S (va_A [] s.heap.size) s.heap s.heap [] := va_S.rf
  have hl := lv_entry ([.int p0, .int 0, .int (-1)]) (n := 3) (Nat.le_of_ble_eq_true rfl)
  rw [lg_entry_eq]
  generalize (lg_sl ([.int p0, .int 0, .int (-1)]) ++ List.replicate (3 - (lg_sl ([.int p0, .int 0, .int (-1)])).length) Slot.unset).toArray = ls at hl ⊢
  have hl : lv_has ls 3 [(0, .int p0), (1, .int 0), (2, .int (-1))] := hl
  refine lv_iload_n hx hb dX9_in_0 rfl (lv_at hl 0 rfl) ?_
  refine lv_iload_n hx hb dX9_in_1 rfl (lv_at hl 1 rfl) ?_
  refine lv_icmp_lt (tgt := 14) hx hb dX9_in_2 (by decide) (fun c_1 => ?_) (fun c_1 => ?_)
  · refine lv_iconst (v := 0) hx hb dX9_in_14 (by decide) ?_
    exact W.zret (v := 0) (ty := .boolean) hx hb hr rfl (fun t ht hW => ⟨⟨0, (), rfl, by first | rfl | decide | simp_all, trivial⟩, hS.F ht⟩) hS.2.2 dX9_in_15
  · refine lv_iload_n hx hb dX9_in_5 rfl (lv_at hl 0 rfl) ?_
    refine lv_iload_n hx hb dX9_in_6 rfl (lv_at hl 2 rfl) ?_
    refine lv_icmp_gt (tgt := 14) hx hb dX9_in_7 (by decide) (fun c_2 => ?_) (fun c_2 => ?_)
    · refine lv_iconst (v := 0) hx hb dX9_in_14 (by decide) ?_
      exact W.zret (v := 0) (ty := .boolean) hx hb hr rfl (fun t ht hW => ⟨⟨0, (), rfl, by first | rfl | decide | simp_all, trivial⟩, hS.F ht⟩) hS.2.2 dX9_in_15
    · have z_0 := c_1
      have z_1 := c_2
      exfalso
      simp only [fa_lt, fa_le, fa_eq] at z_0 z_1
      have y_m1 : ((-1) : Int32).toInt = -1 := by decide
      have y_0 : (0 : Int32).toInt = 0 := by decide
      omega
def vs_X9_in_m2 : List Cond := .code yX9_in cX9_in 3 (some .boolean) :: ([])
set_option maxHeartbeats 4000000 in
set_option maxRecDepth 100000 in
theorem c_X9_in_m2 (l : Launch) (dC : Nat → ClassId) (dI : Nat → Nat → Nat) (sz : Nat) (p0 : Int32) : Met l yX9_in vs_X9_in_m2 ({ frames := 0, cells := 0, slots := 0, locals := 0 }) (va_Pc [.int p0, .int 0, .int (-2)] (pu_B (dC, dI) [] [] sz)) (va_Qi (fun (r : Int32) (_ : Unit) => r = 0) (fun _ _ => True) (va_A [] sz)) 0 0 (va_A [] sz) := by
  refine Met.ofW (cc := cX9_in) (maxL := 3) (ret := (some .boolean)) (by decide) rfl ?_
  intro p e s m args below meth c s₁ B hml hv
  obtain ⟨rfl, rfl, hP, hK, hD0⟩ := hv
  have hx := B.exec
  have hb := B.bytes
  have hr := B.returns
  have hts := atoms_spec (ws := vs_X9_in_m2) B.pre
  have hown : s.vm.findClass RX9 = some m.cls := findClass_of_methodNamed B.named
  have hlocks := B.notSynchronized
  have hD := hD0
  have hA : ∀ q : Nat, s.heap.size ≤ q → va_A [] s.heap.size q := fun _ h => Or.inr h
  have hS : va_S (va_A [] s.heap.size) s.heap s.heap [] := va_S.rf
  have hl := lv_entry ([.int p0, .int 0, .int (-2)]) (n := 3) (Nat.le_of_ble_eq_true rfl)
  rw [lg_entry_eq]
  generalize (lg_sl ([.int p0, .int 0, .int (-2)]) ++ List.replicate (3 - (lg_sl ([.int p0, .int 0, .int (-2)])).length) Slot.unset).toArray = ls at hl ⊢
  have hl : lv_has ls 3 [(0, .int p0), (1, .int 0), (2, .int (-2))] := hl
  refine lv_iload_n hx hb dX9_in_0 rfl (lv_at hl 0 rfl) ?_
  refine lv_iload_n hx hb dX9_in_1 rfl (lv_at hl 1 rfl) ?_
  refine lv_icmp_lt (tgt := 14) hx hb dX9_in_2 (by decide) (fun c_1 => ?_) (fun c_1 => ?_)
  · refine lv_iconst (v := 0) hx hb dX9_in_14 (by decide) ?_
    exact W.zret (v := 0) (ty := .boolean) hx hb hr rfl (fun t ht hW => ⟨⟨0, (), rfl, by first | rfl | decide | simp_all, trivial⟩, hS.F ht⟩) hS.2.2 dX9_in_15
  · refine lv_iload_n hx hb dX9_in_5 rfl (lv_at hl 0 rfl) ?_
    refine lv_iload_n hx hb dX9_in_6 rfl (lv_at hl 2 rfl) ?_
    refine lv_icmp_gt (tgt := 14) hx hb dX9_in_7 (by decide) (fun c_2 => ?_) (fun c_2 => ?_)
    · refine lv_iconst (v := 0) hx hb dX9_in_14 (by decide) ?_
      exact W.zret (v := 0) (ty := .boolean) hx hb hr rfl (fun t ht hW => ⟨⟨0, (), rfl, by first | rfl | decide | simp_all, trivial⟩, hS.F ht⟩) hS.2.2 dX9_in_15
    · have z_0 := c_1
      have z_1 := c_2
      exfalso
      simp only [fa_lt, fa_le, fa_eq] at z_0 z_1
      have y_m2 : ((-2) : Int32).toInt = -2 := by decide
      have y_0 : (0 : Int32).toInt = 0 := by decide
      omega
theorem dX9_in_10 : decode cX9_in 10 = .ok (.iconst 1, 1) := by decide +kernel
theorem dX9_in_11 : decode cX9_in 11 = .ok (.goto 4, 3) := by decide +kernel
def vs_X9_in_00 : List Cond := .code yX9_in cX9_in 3 (some .boolean) :: ([])
set_option maxHeartbeats 4000000 in
set_option maxRecDepth 100000 in
theorem c_X9_in_00 (l : Launch) (dC : Nat → ClassId) (dI : Nat → Nat → Nat) (sz : Nat) (p0 : Int32) : Met l yX9_in vs_X9_in_00 ({ frames := 0, cells := 0, slots := 0, locals := 0 }) (va_Pc [.int p0, .int 0, .int 0] (pu_B (dC, dI) [] [] sz)) (va_Qi (fun (r : Int32) (_ : Unit) => (r = 1 ∧ p0 = 0) ∨ (r = 0 ∧ ¬ p0 = 0)) (fun _ _ => True) (va_A [] sz)) 0 0 (va_A [] sz) := by
  refine Met.ofW (cc := cX9_in) (maxL := 3) (ret := (some .boolean)) (by decide) rfl ?_
  intro p e s m args below meth c s₁ B hml hv
  obtain ⟨rfl, rfl, hP, hK, hD0⟩ := hv
  have hx := B.exec
  have hb := B.bytes
  have hr := B.returns
  have hts := atoms_spec (ws := vs_X9_in_00) B.pre
  have hown : s.vm.findClass RX9 = some m.cls := findClass_of_methodNamed B.named
  have hlocks := B.notSynchronized
  have hD := hD0
  have hA : ∀ q : Nat, s.heap.size ≤ q → va_A [] s.heap.size q := fun _ h => Or.inr h
  have hS : va_S (va_A [] s.heap.size) s.heap s.heap [] := va_S.rf
  have hl := lv_entry ([.int p0, .int 0, .int 0]) (n := 3) (Nat.le_of_ble_eq_true rfl)
  rw [lg_entry_eq]
  generalize (lg_sl ([.int p0, .int 0, .int 0]) ++ List.replicate (3 - (lg_sl ([.int p0, .int 0, .int 0])).length) Slot.unset).toArray = ls at hl ⊢
  have hl : lv_has ls 3 [(0, .int p0), (1, .int 0), (2, .int 0)] := hl
  refine lv_iload_n hx hb dX9_in_0 rfl (lv_at hl 0 rfl) ?_
  refine lv_iload_n hx hb dX9_in_1 rfl (lv_at hl 1 rfl) ?_
  refine lv_icmp_lt (tgt := 14) hx hb dX9_in_2 (by decide) (fun c_1 => ?_) (fun c_1 => ?_)
  · refine lv_iconst (v := 0) hx hb dX9_in_14 (by decide) ?_
    exact W.zret (v := 0) (ty := .boolean) hx hb hr rfl (fun t ht hW => ⟨⟨0, (), rfl, Or.inr ⟨rfl, fun e => by subst e; exact absurd c_1 (by decide)⟩, trivial⟩, hS.F ht⟩) hS.2.2 dX9_in_15
  · refine lv_iload_n hx hb dX9_in_5 rfl (lv_at hl 0 rfl) ?_
    refine lv_iload_n hx hb dX9_in_6 rfl (lv_at hl 2 rfl) ?_
    refine lv_icmp_gt (tgt := 14) hx hb dX9_in_7 (by decide) (fun c_2 => ?_) (fun c_2 => ?_)
    · refine lv_iconst (v := 0) hx hb dX9_in_14 (by decide) ?_
      exact W.zret (v := 0) (ty := .boolean) hx hb hr rfl (fun t ht hW => ⟨⟨0, (), rfl, Or.inr ⟨rfl, fun e => by subst e; exact absurd c_2 (by decide)⟩, trivial⟩, hS.F ht⟩) hS.2.2 dX9_in_15
    · refine lv_iconst (v := 1) hx hb dX9_in_10 (by decide) ?_
      refine lv_goto (tgt := 15) hx hb dX9_in_11 (by decide) ?_
      exact W.zret (v := 1) (ty := .boolean) hx hb hr rfl (fun t ht hW => ⟨⟨1, (), rfl, Or.inl ⟨rfl, pu_z0 c_1 c_2⟩, trivial⟩, hS.F ht⟩) hS.2.2 dX9_in_15
def vs_X9_in_any : List Cond := .code yX9_in cX9_in 3 (some .boolean) :: ([])
set_option maxHeartbeats 4000000 in
set_option maxRecDepth 100000 in
theorem c_X9_in_any (l : Launch) (dC : Nat → ClassId) (dI : Nat → Nat → Nat) (sz : Nat) (p0 : Int32) (p1 : Int32) (p2 : Int32) : Met l yX9_in vs_X9_in_any ({ frames := 0, cells := 0, slots := 0, locals := 0 }) (va_Pc [.int p0, .int p1, .int p2] (pu_B (dC, dI) [] [] sz)) (va_Qi (fun (r : Int32) (_ : Unit) => r = 0 ∨ r = 1) (fun _ _ => True) (va_A [] sz)) 0 0 (va_A [] sz) := by
  refine Met.ofW (cc := cX9_in) (maxL := 3) (ret := (some .boolean)) (by decide) rfl ?_
  intro p e s m args below meth c s₁ B hml hv
  obtain ⟨rfl, rfl, hP, hK, hD0⟩ := hv
  have hx := B.exec
  have hb := B.bytes
  have hr := B.returns
  have hts := atoms_spec (ws := vs_X9_in_any) B.pre
  have hown : s.vm.findClass RX9 = some m.cls := findClass_of_methodNamed B.named
  have hlocks := B.notSynchronized
  have hD := hD0
  have hA : ∀ q : Nat, s.heap.size ≤ q → va_A [] s.heap.size q := fun _ h => Or.inr h
  have hS : va_S (va_A [] s.heap.size) s.heap s.heap [] := va_S.rf
  have hl := lv_entry ([.int p0, .int p1, .int p2]) (n := 3) (Nat.le_of_ble_eq_true rfl)
  rw [lg_entry_eq]
  generalize (lg_sl ([.int p0, .int p1, .int p2]) ++ List.replicate (3 - (lg_sl ([.int p0, .int p1, .int p2])).length) Slot.unset).toArray = ls at hl ⊢
  have hl : lv_has ls 3 [(0, .int p0), (1, .int p1), (2, .int p2)] := hl
  refine lv_iload_n hx hb dX9_in_0 rfl (lv_at hl 0 rfl) ?_
  refine lv_iload_n hx hb dX9_in_1 rfl (lv_at hl 1 rfl) ?_
  refine lv_icmp_lt (tgt := 14) hx hb dX9_in_2 (by decide) (fun c_1 => ?_) (fun c_1 => ?_)
  · refine lv_iconst (v := 0) hx hb dX9_in_14 (by decide) ?_
    exact W.zret (v := 0) (ty := .boolean) hx hb hr rfl (fun t ht hW => ⟨⟨0, (), rfl, by first | rfl | decide | simp_all, trivial⟩, hS.F ht⟩) hS.2.2 dX9_in_15
  · refine lv_iload_n hx hb dX9_in_5 rfl (lv_at hl 0 rfl) ?_
    refine lv_iload_n hx hb dX9_in_6 rfl (lv_at hl 2 rfl) ?_
    refine lv_icmp_gt (tgt := 14) hx hb dX9_in_7 (by decide) (fun c_2 => ?_) (fun c_2 => ?_)
    · refine lv_iconst (v := 0) hx hb dX9_in_14 (by decide) ?_
      exact W.zret (v := 0) (ty := .boolean) hx hb hr rfl (fun t ht hW => ⟨⟨0, (), rfl, by first | rfl | decide | simp_all, trivial⟩, hS.F ht⟩) hS.2.2 dX9_in_15
    · refine lv_iconst (v := 1) hx hb dX9_in_10 (by decide) ?_
      refine lv_goto (tgt := 15) hx hb dX9_in_11 (by decide) ?_
      exact W.zret (v := 1) (ty := .boolean) hx hb hr rfl (fun t ht hW => ⟨⟨1, (), rfl, by first | rfl | decide | simp_all, trivial⟩, hS.F ht⟩) hS.2.2 dX9_in_15
theorem dX9_clocks_0 : decode cX9_clocks 0 = .ok (.aload_n 0, 1) := by decide +kernel
theorem dX9_clocks_1 : decode cX9_clocks 1 = .ok (.getfield 43, 3) := by decide +kernel
theorem dX9_clocks_4 : decode cX9_clocks 4 = .ok (.aload_n 0, 1) := by decide +kernel
theorem dX9_clocks_5 : decode cX9_clocks 5 = .ok (.getfield 258, 3) := by decide +kernel
theorem dX9_clocks_8 : decode cX9_clocks 8 = .ok (.iaload, 1) := by decide +kernel
theorem dX9_clocks_9 : decode cX9_clocks 9 = .ok (.ireturn, 1) := by decide +kernel
def vs_X9_clocks : List Cond := .code yX9_clocks cX9_clocks 1 (some .int) :: ([.fieldLink RX9 43 "ClockReachModel" "clockMany" "[I", .fieldLink RX9 258 "ClockReachModel" "bank" "I"] ++ wsX90)
set_option maxHeartbeats 4000000 in
set_option maxRecDepth 100000 in
theorem c_X9_clocks (l : Launch) (dC : Nat → ClassId) (dI : Nat → Nat → Nat) (sz : Nat) (b : Nat → Nat) (j : Nat → ClassId) : Met l yX9_clocks vs_X9_clocks ({ frames := 0, cells := 0, slots := 0, locals := 0 }) (va_Pc [.ref (b 0)] (pu_B (dC, dI) (wM b j) (tM j) sz)) (va_Qi (fun (r : Int32) (_ : Unit) => r = 0) (fun _ _ => True) (va_A [] sz)) 0 0 (va_A [] sz) := by
  refine Met.ofW (cc := cX9_clocks) (maxL := 1) (ret := (some .int)) (by decide) rfl ?_
  intro p e s m args below meth c s₁ B hml hv
  obtain ⟨rfl, rfl, hP, hK, hD0⟩ := hv
  have hx := B.exec
  have hb := B.bytes
  have hr := B.returns
  have hts := atoms_spec (ws := vs_X9_clocks) B.pre
  have v_1 := hts (.fieldLink RX9 43 "ClockReachModel" "clockMany" "[I") (List.mem_of_getElem? (i := 1) rfl)
  have v_2 := hts (.fieldLink RX9 258 "ClockReachModel" "bank" "I") (List.mem_of_getElem? (i := 2) rfl)
  have hown : s.vm.findClass RX9 = some m.cls := findClass_of_methodNamed B.named
  have hlocks := B.notSynchronized
  have hiX9 : ∀ w ∈ wsX90, w ∈ vs_X9_clocks := fun _ h => List.mem_cons_of_mem _ (List.mem_append_right _ h)
  have hD := hD0
  have hA : ∀ q : Nat, s.heap.size ≤ q → va_A [] s.heap.size q := fun _ h => Or.inr h
  have hS : va_S (va_A [] s.heap.size) s.heap s.heap [] := va_S.rf
  have hl := lv_entry ([.ref (b 0)]) (n := 1) (Nat.le_of_ble_eq_true rfl)
  rw [lg_entry_eq]
  generalize (lg_sl ([.ref (b 0)]) ++ List.replicate (1 - (lg_sl ([.ref (b 0)])).length) Slot.unset).toArray = ls at hl ⊢
  have hl : lv_has ls 1 [(0, .ref (b 0))] := hl
  refine lv_aload_n hx hb dX9_clocks_0 rfl (lv_at hl 0 rfl) ?_
  refine va_get (D := (dC, dI)) (ci := 9) (v := .ref (b 1)) (C := RX9) (T := TX9) (N := 67) hx hb hts hiX9 hown hK hP 0 rfl rfl 12 (by decide) v_1 (fun _ h9 => h9) rfl dX9_clocks_1 ?_
  refine lv_aload_n hx hb dX9_clocks_4 rfl (lv_at hl 0 rfl) ?_
  refine va_get (D := (dC, dI)) (ci := 9) (v := .int 0) (C := RX9) (T := TX9) (N := 67) hx hb hts hiX9 hown hK hP 0 rfl rfl 16 (by decide) v_2 (fun _ h9 => h9) rfl dX9_clocks_5 ?_
  refine va_iald hx hb hK hP 1 0 rfl rfl (show ¬ (_ ∨ _) by decide) dX9_clocks_8 ?_
  refine lv_topi (fun y_1 ey_1 => ?_)
  obtain rfl : y_1 = 0 := ey_1.trans (by first | rfl | decide)
  exact W.iret (v := 0) hx hb hr (fun t ht hW => ⟨⟨0, (), rfl, by first | rfl | decide | simp_all, trivial⟩, hS.F ht⟩) hS.2.2 dX9_clocks_9
theorem dX9_isClock_0 : decode cX9_isClock 0 = .ok (.iload_n 1, 1) := by decide +kernel
theorem dX9_isClock_1 : decode cX9_isClock 1 = .ok (.iconst 0, 1) := by decide +kernel
theorem dX9_isClock_2 : decode cX9_isClock 2 = .ok (.aload_n 0, 1) := by decide +kernel
theorem dX9_isClock_3 : decode cX9_isClock 3 = .ok (.invokevirtual 280, 3) := by decide +kernel
theorem dX9_isClock_6 : decode cX9_isClock 6 = .ok (.iconst 1, 1) := by decide +kernel
theorem dX9_isClock_7 : decode cX9_isClock 7 = .ok (.isub, 1) := by decide +kernel
theorem dX9_isClock_8 : decode cX9_isClock 8 = .ok (.invokestatic 152, 3) := by decide +kernel
theorem dX9_isClock_11 : decode cX9_isClock 11 = .ok (.ireturn, 1) := by decide +kernel
def vs_X9_isClock : List Cond := .code yX9_isClock cX9_isClock 2 (some .boolean) :: ([.methodLink RX9 280 yX9_clocks, .instanceMethod yX9_clocks, .selects RX9 yX9_clocks yX9_clocks, .initialized RX9, .code yX9_clocks cX9_clocks 1 (some .int), .fieldLink RX9 43 "ClockReachModel" "clockMany" "[I", .fieldLink RX9 258 "ClockReachModel" "bank" "I", .methodLink RX9 152 yX9_in, .static yX9_in, .code yX9_in cX9_in 3 (some .boolean)] ++ wsX90)
theorem g_X9_isClock_X9_clocks : GoodIn vs_X9_isClock (wsV RX9 280 RX9 yX9_clocks vs_X9_clocks) := goodIn_r _ [1, 2, 3, 4, 5, 6, 7, 11, 12, 13, 14, 15, 16, 17, 18, 19, 20, 21, 22, 23, 24, 25, 26, 27, 28, 29, 30, 31, 32, 33, 34, 35, 36, 37, 38, 39, 40, 41, 42, 43, 44, 45, 46, 47, 48, 49, 50, 51, 52, 53, 54, 55, 56, 57, 58, 59, 60, 61, 62, 63, 64, 65, 66, 67, 68, 69, 70, 71, 72, 73, 74, 75, 76, 77] (by decide +kernel) (by decide +kernel)
theorem g_X9_isClock_X9_in_m1 : GoodIn vs_X9_isClock (va_wsS RX9 152 yX9_in vs_X9_in_m1) := goodIn_r _ [8, 9, 4, 10] (by decide +kernel) (by decide +kernel)
set_option maxHeartbeats 4000000 in
set_option maxRecDepth 100000 in
theorem c_X9_isClock (l : Launch) (dC : Nat → ClassId) (dI : Nat → Nat → Nat) (sz : Nat) (b : Nat → Nat) (j : Nat → ClassId) (p0 : Int32) : Met l yX9_isClock vs_X9_isClock ({ frames := 1, cells := 0, slots := 0, locals := 22 }) (va_Pc [.ref (b 0), .int p0] (pu_B (dC, dI) (wM b j) (tM j) sz)) (va_Qi (fun (r : Int32) (_ : Unit) => r = 0) (fun _ _ => True) (va_A [] sz)) 0 0 (va_A [] sz) := by
  refine Met.ofW (cc := cX9_isClock) (maxL := 2) (ret := (some .boolean)) (by decide) rfl ?_
  intro p e s m args below meth c s₁ B hml hv
  obtain ⟨rfl, rfl, hP, hK, hD0⟩ := hv
  have hx := B.exec
  have hb := B.bytes
  have hr := B.returns
  have hts := atoms_spec (ws := vs_X9_isClock) B.pre
  have hown : s.vm.findClass RX9 = some m.cls := findClass_of_methodNamed B.named
  have hlocks := B.notSynchronized
  have hD := hD0
  have hA : ∀ q : Nat, s.heap.size ≤ q → va_A [] s.heap.size q := fun _ h => Or.inr h
  have hS : va_S (va_A [] s.heap.size) s.heap s.heap [] := va_S.rf
  have hl := lv_entry ([.ref (b 0), .int p0]) (n := 2) (Nat.le_of_ble_eq_true rfl)
  rw [lg_entry_eq]
  generalize (lg_sl ([.ref (b 0), .int p0]) ++ List.replicate (2 - (lg_sl ([.ref (b 0), .int p0])).length) Slot.unset).toArray = ls at hl ⊢
  have hl : lv_has ls 2 [(0, .ref (b 0)), (1, .int p0)] := hl
  refine lv_iload_n hx hb dX9_isClock_0 rfl (lv_at hl 1 rfl) ?_
  refine lv_iconst (v := 0) hx hb dX9_isClock_1 (by decide) ?_
  refine lv_aload_n hx hb dX9_isClock_2 rfl (lv_at hl 0 rfl) ?_
  refine va_calli (va_runV (As := []) (rest := [.int 0, .int p0]) ⟨hx, hb, hml, hown, hts⟩ (c_X9_clocks l dC dI _ b j) (cwV 0 hts g_X9_isClock_X9_clocks rfl rfl rfl (by decide +kernel) ⟨Nat.le_of_ble_eq_true rfl, Nat.le_of_ble_eq_true rfl⟩) ⟨pu_bl, va_recv hK hP (ci := 9) (q0 := 0) rfl rfl, pu_in hP hK hD⟩ rfl rfl hl.1 rfl (lv_room (Nat.le_of_ble_eq_true rfl)) dX9_isClock_3 ⟨Nat.le_of_ble_eq_true rfl, Nat.le_of_ble_eq_true rfl⟩) hS (fun q _ h => pu_fr hS hA q h) (pu_fr hS hA) (fun r_1 u t H1 locs ht hvm hw hB hz1 hk1 hS => ?_)
  have hP := pu_keep hP hk1
  clear hk1 hz1 hB ht hvm
  generalize H1 = H at hP hS ⊢
  obtain rfl : r_1 = 0 := hw
  refine lv_iconst (v := 1) hx hb dX9_isClock_6 (by decide) ?_
  refine lv_isub hx hb dX9_isClock_7 ?_
  refine lv_topi (fun y_2 ey_2 => ?_)
  obtain rfl : y_2 = (-1) := ey_2.trans (by decide)
  refine va_calli (va_runS (As := [.int p0, .int 0, .int (-1)]) (rest := []) ⟨hx, hb, hml, hown, hts⟩ (c_X9_in_m1 l dC dI _ p0) (va_cwS 3 hts g_X9_isClock_X9_in_m1 rfl rfl rfl (by decide +kernel) ⟨Nat.le_of_ble_eq_true rfl, Nat.le_of_ble_eq_true rfl⟩) ⟨pu_bl, pu_in (hP.sub [] rfl) (hK.sub [] rfl) (hD.sub [] (by decide) rfl)⟩ rfl rfl hl.1 rfl (lv_room (Nat.le_of_ble_eq_true rfl)) dX9_isClock_8 ⟨Nat.le_of_ble_eq_true rfl, Nat.le_of_ble_eq_true rfl⟩) hS (fun q _ h => pu_fr hS hA q h) (pu_fr hS hA) (fun r_3 u t H1 locs ht hvm hw hB hz1 hk1 hS => ?_)
  have hP := pu_keep hP hk1
  clear hk1 hz1 hB ht hvm
  generalize H1 = H at hP hS ⊢
  obtain rfl : r_3 = 0 := hw
  exact W.zret (v := 0) (ty := .boolean) hx hb hr rfl (fun t ht hW => ⟨⟨0, (), rfl, by first | rfl | decide | simp_all, trivial⟩, hS.F ht⟩) hS.2.2 dX9_isClock_11
theorem dX9_isPlace_0 : decode cX9_isPlace 0 = .ok (.iload_n 1, 1) := by decide +kernel
theorem dX9_isPlace_1 : decode cX9_isPlace 1 = .ok (.iconst 0, 1) := by decide +kernel
theorem dX9_isPlace_2 : decode cX9_isPlace 2 = .ok (.aload_n 0, 1) := by decide +kernel
theorem dX9_isPlace_3 : decode cX9_isPlace 3 = .ok (.getfield 46, 3) := by decide +kernel
theorem dX9_isPlace_6 : decode cX9_isPlace 6 = .ok (.aload_n 0, 1) := by decide +kernel
theorem dX9_isPlace_7 : decode cX9_isPlace 7 = .ok (.getfield 258, 3) := by decide +kernel
theorem dX9_isPlace_10 : decode cX9_isPlace 10 = .ok (.iaload, 1) := by decide +kernel
theorem dX9_isPlace_11 : decode cX9_isPlace 11 = .ok (.iconst 1, 1) := by decide +kernel
theorem dX9_isPlace_12 : decode cX9_isPlace 12 = .ok (.isub, 1) := by decide +kernel
theorem dX9_isPlace_13 : decode cX9_isPlace 13 = .ok (.invokestatic 152, 3) := by decide +kernel
theorem dX9_isPlace_16 : decode cX9_isPlace 16 = .ok (.ireturn, 1) := by decide +kernel
def vs_X9_isPlace : List Cond := .code yX9_isPlace cX9_isPlace 2 (some .boolean) :: ([.fieldLink RX9 46 "ClockReachModel" "placeMany" "[I", .fieldLink RX9 258 "ClockReachModel" "bank" "I", .methodLink RX9 152 yX9_in, .static yX9_in, .initialized RX9, .code yX9_in cX9_in 3 (some .boolean)] ++ wsX90)
theorem g_X9_isPlace_X9_in_m1 : GoodIn vs_X9_isPlace (va_wsS RX9 152 yX9_in vs_X9_in_m1) := goodIn_r _ [3, 4, 5, 6] (by decide +kernel) (by decide +kernel)
set_option maxHeartbeats 4000000 in
set_option maxRecDepth 100000 in
theorem c_X9_isPlace (l : Launch) (dC : Nat → ClassId) (dI : Nat → Nat → Nat) (sz : Nat) (b : Nat → Nat) (j : Nat → ClassId) (p0 : Int32) : Met l yX9_isPlace vs_X9_isPlace ({ frames := 1, cells := 0, slots := 0, locals := 22 }) (va_Pc [.ref (b 0), .int p0] (pu_B (dC, dI) (wM b j) (tM j) sz)) (va_Qi (fun (r : Int32) (_ : Unit) => r = 0) (fun _ _ => True) (va_A [] sz)) 0 0 (va_A [] sz) := by
  refine Met.ofW (cc := cX9_isPlace) (maxL := 2) (ret := (some .boolean)) (by decide) rfl ?_
  intro p e s m args below meth c s₁ B hml hv
  obtain ⟨rfl, rfl, hP, hK, hD0⟩ := hv
  have hx := B.exec
  have hb := B.bytes
  have hr := B.returns
  have hts := atoms_spec (ws := vs_X9_isPlace) B.pre
  have v_1 := hts (.fieldLink RX9 46 "ClockReachModel" "placeMany" "[I") (List.mem_of_getElem? (i := 1) rfl)
  have v_2 := hts (.fieldLink RX9 258 "ClockReachModel" "bank" "I") (List.mem_of_getElem? (i := 2) rfl)
  have hown : s.vm.findClass RX9 = some m.cls := findClass_of_methodNamed B.named
  have hlocks := B.notSynchronized
  have hiX9 : ∀ w ∈ wsX90, w ∈ vs_X9_isPlace := fun _ h => List.mem_cons_of_mem _ (List.mem_append_right _ h)
  have hD := hD0
  have hA : ∀ q : Nat, s.heap.size ≤ q → va_A [] s.heap.size q := fun _ h => Or.inr h
  have hS : va_S (va_A [] s.heap.size) s.heap s.heap [] := va_S.rf
  have hl := lv_entry ([.ref (b 0), .int p0]) (n := 2) (Nat.le_of_ble_eq_true rfl)
  rw [lg_entry_eq]
  generalize (lg_sl ([.ref (b 0), .int p0]) ++ List.replicate (2 - (lg_sl ([.ref (b 0), .int p0])).length) Slot.unset).toArray = ls at hl ⊢
  have hl : lv_has ls 2 [(0, .ref (b 0)), (1, .int p0)] := hl
  refine lv_iload_n hx hb dX9_isPlace_0 rfl (lv_at hl 1 rfl) ?_
  refine lv_iconst (v := 0) hx hb dX9_isPlace_1 (by decide) ?_
  refine lv_aload_n hx hb dX9_isPlace_2 rfl (lv_at hl 0 rfl) ?_
  refine va_get (D := (dC, dI)) (ci := 9) (v := .ref (b 2)) (C := RX9) (T := TX9) (N := 67) hx hb hts hiX9 hown hK hP 0 rfl rfl 13 (by decide) v_1 (fun _ h9 => h9) rfl dX9_isPlace_3 ?_
  refine lv_aload_n hx hb dX9_isPlace_6 rfl (lv_at hl 0 rfl) ?_
  refine va_get (D := (dC, dI)) (ci := 9) (v := .int 0) (C := RX9) (T := TX9) (N := 67) hx hb hts hiX9 hown hK hP 0 rfl rfl 16 (by decide) v_2 (fun _ h9 => h9) rfl dX9_isPlace_7 ?_
  refine va_iald hx hb hK hP 2 1 rfl rfl (show ¬ (_ ∨ _) by decide) dX9_isPlace_10 ?_
  refine lv_topi (fun y_1 ey_1 => ?_)
  obtain rfl : y_1 = 0 := ey_1.trans (by first | rfl | decide)
  refine lv_iconst (v := 1) hx hb dX9_isPlace_11 (by decide) ?_
  refine lv_isub hx hb dX9_isPlace_12 ?_
  refine lv_topi (fun y_2 ey_2 => ?_)
  obtain rfl : y_2 = (-1) := ey_2.trans (by decide)
  refine va_calli (va_runS (As := [.int p0, .int 0, .int (-1)]) (rest := []) ⟨hx, hb, hml, hown, hts⟩ (c_X9_in_m1 l dC dI _ p0) (va_cwS 3 hts g_X9_isPlace_X9_in_m1 rfl rfl rfl (by decide +kernel) ⟨Nat.le_of_ble_eq_true rfl, Nat.le_of_ble_eq_true rfl⟩) ⟨pu_bl, pu_in (hP.sub [] rfl) (hK.sub [] rfl) (hD.sub [] (by decide) rfl)⟩ rfl rfl hl.1 rfl (lv_room (Nat.le_of_ble_eq_true rfl)) dX9_isPlace_13 ⟨Nat.le_of_ble_eq_true rfl, Nat.le_of_ble_eq_true rfl⟩) hS (fun q _ h => pu_fr hS hA q h) (pu_fr hS hA) (fun r_3 u t H1 locs ht hvm hw hB hz1 hk1 hS => ?_)
  have hP := pu_keep hP hk1
  clear hk1 hz1 hB ht hvm
  generalize H1 = H at hP hS ⊢
  obtain rfl : r_3 = 0 := hw
  exact W.zret (v := 0) (ty := .boolean) hx hb hr rfl (fun t ht hW => ⟨⟨0, (), rfl, by first | rfl | decide | simp_all, trivial⟩, hS.F ht⟩) hS.2.2 dX9_isPlace_16
theorem dX9_isEdge_0 : decode cX9_isEdge 0 = .ok (.iload_n 1, 1) := by decide +kernel
theorem dX9_isEdge_1 : decode cX9_isEdge 1 = .ok (.iconst 0, 1) := by decide +kernel
theorem dX9_isEdge_2 : decode cX9_isEdge 2 = .ok (.aload_n 0, 1) := by decide +kernel
theorem dX9_isEdge_3 : decode cX9_isEdge 3 = .ok (.getfield 49, 3) := by decide +kernel
theorem dX9_isEdge_6 : decode cX9_isEdge 6 = .ok (.aload_n 0, 1) := by decide +kernel
theorem dX9_isEdge_7 : decode cX9_isEdge 7 = .ok (.getfield 258, 3) := by decide +kernel
theorem dX9_isEdge_10 : decode cX9_isEdge 10 = .ok (.iaload, 1) := by decide +kernel
theorem dX9_isEdge_11 : decode cX9_isEdge 11 = .ok (.iconst 1, 1) := by decide +kernel
theorem dX9_isEdge_12 : decode cX9_isEdge 12 = .ok (.isub, 1) := by decide +kernel
theorem dX9_isEdge_13 : decode cX9_isEdge 13 = .ok (.invokestatic 152, 3) := by decide +kernel
theorem dX9_isEdge_16 : decode cX9_isEdge 16 = .ok (.ireturn, 1) := by decide +kernel
def vs_X9_isEdge : List Cond := .code yX9_isEdge cX9_isEdge 2 (some .boolean) :: ([.fieldLink RX9 49 "ClockReachModel" "edgeMany" "[I", .fieldLink RX9 258 "ClockReachModel" "bank" "I", .methodLink RX9 152 yX9_in, .static yX9_in, .initialized RX9, .code yX9_in cX9_in 3 (some .boolean)] ++ wsX90)
theorem g_X9_isEdge_X9_in_m1 : GoodIn vs_X9_isEdge (va_wsS RX9 152 yX9_in vs_X9_in_m1) := goodIn_r _ [3, 4, 5, 6] (by decide +kernel) (by decide +kernel)
set_option maxHeartbeats 4000000 in
set_option maxRecDepth 100000 in
theorem c_X9_isEdge (l : Launch) (dC : Nat → ClassId) (dI : Nat → Nat → Nat) (sz : Nat) (b : Nat → Nat) (j : Nat → ClassId) (p0 : Int32) : Met l yX9_isEdge vs_X9_isEdge ({ frames := 1, cells := 0, slots := 0, locals := 22 }) (va_Pc [.ref (b 0), .int p0] (pu_B (dC, dI) (wM b j) (tM j) sz)) (va_Qi (fun (r : Int32) (_ : Unit) => r = 0) (fun _ _ => True) (va_A [] sz)) 0 0 (va_A [] sz) := by
  refine Met.ofW (cc := cX9_isEdge) (maxL := 2) (ret := (some .boolean)) (by decide) rfl ?_
  intro p e s m args below meth c s₁ B hml hv
  obtain ⟨rfl, rfl, hP, hK, hD0⟩ := hv
  have hx := B.exec
  have hb := B.bytes
  have hr := B.returns
  have hts := atoms_spec (ws := vs_X9_isEdge) B.pre
  have v_1 := hts (.fieldLink RX9 49 "ClockReachModel" "edgeMany" "[I") (List.mem_of_getElem? (i := 1) rfl)
  have v_2 := hts (.fieldLink RX9 258 "ClockReachModel" "bank" "I") (List.mem_of_getElem? (i := 2) rfl)
  have hown : s.vm.findClass RX9 = some m.cls := findClass_of_methodNamed B.named
  have hlocks := B.notSynchronized
  have hiX9 : ∀ w ∈ wsX90, w ∈ vs_X9_isEdge := fun _ h => List.mem_cons_of_mem _ (List.mem_append_right _ h)
  have hD := hD0
  have hA : ∀ q : Nat, s.heap.size ≤ q → va_A [] s.heap.size q := fun _ h => Or.inr h
  have hS : va_S (va_A [] s.heap.size) s.heap s.heap [] := va_S.rf
  have hl := lv_entry ([.ref (b 0), .int p0]) (n := 2) (Nat.le_of_ble_eq_true rfl)
  rw [lg_entry_eq]
  generalize (lg_sl ([.ref (b 0), .int p0]) ++ List.replicate (2 - (lg_sl ([.ref (b 0), .int p0])).length) Slot.unset).toArray = ls at hl ⊢
  have hl : lv_has ls 2 [(0, .ref (b 0)), (1, .int p0)] := hl
  refine lv_iload_n hx hb dX9_isEdge_0 rfl (lv_at hl 1 rfl) ?_
  refine lv_iconst (v := 0) hx hb dX9_isEdge_1 (by decide) ?_
  refine lv_aload_n hx hb dX9_isEdge_2 rfl (lv_at hl 0 rfl) ?_
  refine va_get (D := (dC, dI)) (ci := 9) (v := .ref (b 3)) (C := RX9) (T := TX9) (N := 67) hx hb hts hiX9 hown hK hP 0 rfl rfl 14 (by decide) v_1 (fun _ h9 => h9) rfl dX9_isEdge_3 ?_
  refine lv_aload_n hx hb dX9_isEdge_6 rfl (lv_at hl 0 rfl) ?_
  refine va_get (D := (dC, dI)) (ci := 9) (v := .int 0) (C := RX9) (T := TX9) (N := 67) hx hb hts hiX9 hown hK hP 0 rfl rfl 16 (by decide) v_2 (fun _ h9 => h9) rfl dX9_isEdge_7 ?_
  refine va_iald hx hb hK hP 3 2 rfl rfl (show ¬ (_ ∨ _) by decide) dX9_isEdge_10 ?_
  refine lv_topi (fun y_1 ey_1 => ?_)
  obtain rfl : y_1 = 0 := ey_1.trans (by first | rfl | decide)
  refine lv_iconst (v := 1) hx hb dX9_isEdge_11 (by decide) ?_
  refine lv_isub hx hb dX9_isEdge_12 ?_
  refine lv_topi (fun y_2 ey_2 => ?_)
  obtain rfl : y_2 = (-1) := ey_2.trans (by decide)
  refine va_calli (va_runS (As := [.int p0, .int 0, .int (-1)]) (rest := []) ⟨hx, hb, hml, hown, hts⟩ (c_X9_in_m1 l dC dI _ p0) (va_cwS 3 hts g_X9_isEdge_X9_in_m1 rfl rfl rfl (by decide +kernel) ⟨Nat.le_of_ble_eq_true rfl, Nat.le_of_ble_eq_true rfl⟩) ⟨pu_bl, pu_in (hP.sub [] rfl) (hK.sub [] rfl) (hD.sub [] (by decide) rfl)⟩ rfl rfl hl.1 rfl (lv_room (Nat.le_of_ble_eq_true rfl)) dX9_isEdge_13 ⟨Nat.le_of_ble_eq_true rfl, Nat.le_of_ble_eq_true rfl⟩) hS (fun q _ h => pu_fr hS hA q h) (pu_fr hS hA) (fun r_3 u t H1 locs ht hvm hw hB hz1 hk1 hS => ?_)
  have hP := pu_keep hP hk1
  clear hk1 hz1 hB ht hvm
  generalize H1 = H at hP hS ⊢
  obtain rfl : r_3 = 0 := hw
  exact W.zret (v := 0) (ty := .boolean) hx hb hr rfl (fun t ht hW => ⟨⟨0, (), rfl, by first | rfl | decide | simp_all, trivial⟩, hS.F ht⟩) hS.2.2 dX9_isEdge_16
theorem dX9_manyOf_0 : decode cX9_manyOf 0 = .ok (.aload_n 0, 1) := by decide +kernel
theorem dX9_manyOf_1 : decode cX9_manyOf 1 = .ok (.iload_n 1, 1) := by decide +kernel
theorem dX9_manyOf_2 : decode cX9_manyOf 2 = .ok (.invokevirtual 283, 3) := by decide +kernel
theorem dX9_manyOf_5 : decode cX9_manyOf 5 = .ok (.ifCond .eq 20, 3) := by decide +kernel
theorem dX9_manyOf_25 : decode cX9_manyOf 25 = .ok (.aload_n 0, 1) := by decide +kernel
theorem dX9_manyOf_26 : decode cX9_manyOf 26 = .ok (.iload_n 1, 1) := by decide +kernel
theorem dX9_manyOf_27 : decode cX9_manyOf 27 = .ok (.bipush 100, 2) := by decide +kernel
theorem dX9_manyOf_29 : decode cX9_manyOf 29 = .ok (.isub, 1) := by decide +kernel
theorem dX9_manyOf_30 : decode cX9_manyOf 30 = .ok (.invokevirtual 286, 3) := by decide +kernel
theorem dX9_manyOf_33 : decode cX9_manyOf 33 = .ok (.ifCond .eq 23, 3) := by decide +kernel
theorem dX9_manyOf_56 : decode cX9_manyOf 56 = .ok (.iconst (-1), 1) := by decide +kernel
theorem dX9_manyOf_57 : decode cX9_manyOf 57 = .ok (.ireturn, 1) := by decide +kernel
def vs_X9_manyOf : List Cond := .code yX9_manyOf cX9_manyOf 2 (some .int) :: ([.methodLink RX9 283 yX9_isEdge, .instanceMethod yX9_isEdge, .selects RX9 yX9_isEdge yX9_isEdge, .initialized RX9, .code yX9_isEdge cX9_isEdge 2 (some .boolean), .fieldLink RX9 49 "ClockReachModel" "edgeMany" "[I", .fieldLink RX9 258 "ClockReachModel" "bank" "I", .methodLink RX9 152 yX9_in, .static yX9_in, .code yX9_in cX9_in 3 (some .boolean), .methodLink RX9 286 yX9_isPlace, .instanceMethod yX9_isPlace, .selects RX9 yX9_isPlace yX9_isPlace, .code yX9_isPlace cX9_isPlace 2 (some .boolean), .fieldLink RX9 46 "ClockReachModel" "placeMany" "[I"] ++ wsX90)
theorem g_X9_manyOf_X9_isEdge : GoodIn vs_X9_manyOf (wsV RX9 283 RX9 yX9_isEdge vs_X9_isEdge) := goodIn_r _ [1, 2, 3, 4, 5, 6, 7, 8, 9, 4, 10, 16, 17, 18, 19, 20, 21, 22, 23, 24, 25, 26, 27, 28, 29, 30, 31, 32, 33, 34, 35, 36, 37, 38, 39, 40, 41, 42, 43, 44, 45, 46, 47, 48, 49, 50, 51, 52, 53, 54, 55, 56, 57, 58, 59, 60, 61, 62, 63, 64, 65, 66, 67, 68, 69, 70, 71, 72, 73, 74, 75, 76, 77, 78, 79, 80, 81, 82] (by decide +kernel) (by decide +kernel)
theorem g_X9_manyOf_X9_isPlace : GoodIn vs_X9_manyOf (wsV RX9 286 RX9 yX9_isPlace vs_X9_isPlace) := goodIn_r _ [11, 12, 13, 4, 14, 15, 7, 8, 9, 4, 10, 16, 17, 18, 19, 20, 21, 22, 23, 24, 25, 26, 27, 28, 29, 30, 31, 32, 33, 34, 35, 36, 37, 38, 39, 40, 41, 42, 43, 44, 45, 46, 47, 48, 49, 50, 51, 52, 53, 54, 55, 56, 57, 58, 59, 60, 61, 62, 63, 64, 65, 66, 67, 68, 69, 70, 71, 72, 73, 74, 75, 76, 77, 78, 79, 80, 81, 82] (by decide +kernel) (by decide +kernel)
set_option maxHeartbeats 4000000 in
set_option maxRecDepth 100000 in
theorem c_X9_manyOf (l : Launch) (dC : Nat → ClassId) (dI : Nat → Nat → Nat) (sz : Nat) (b : Nat → Nat) (j : Nat → ClassId) (p0 : Int32) : Met l yX9_manyOf vs_X9_manyOf ({ frames := 2, cells := 0, slots := 0, locals := 43 }) (va_Pc [.ref (b 0), .int p0] (pu_B (dC, dI) (wM b j) (tM j) sz)) (va_Qi (fun (r : Int32) (_ : Unit) => r = -1) (fun _ _ => True) (va_A [] sz)) 0 0 (va_A [] sz) := by
  refine Met.ofW (cc := cX9_manyOf) (maxL := 2) (ret := (some .int)) (by decide) rfl ?_
  intro p e s m args below meth c s₁ B hml hv
  obtain ⟨rfl, rfl, hP, hK, hD0⟩ := hv
  have hx := B.exec
  have hb := B.bytes
  have hr := B.returns
  have hts := atoms_spec (ws := vs_X9_manyOf) B.pre
  have hown : s.vm.findClass RX9 = some m.cls := findClass_of_methodNamed B.named
  have hlocks := B.notSynchronized
  have hD := hD0
  have hA : ∀ q : Nat, s.heap.size ≤ q → va_A [] s.heap.size q := fun _ h => Or.inr h
  have hS : va_S (va_A [] s.heap.size) s.heap s.heap [] := va_S.rf
  have hl := lv_entry ([.ref (b 0), .int p0]) (n := 2) (Nat.le_of_ble_eq_true rfl)
  rw [lg_entry_eq]
  generalize (lg_sl ([.ref (b 0), .int p0]) ++ List.replicate (2 - (lg_sl ([.ref (b 0), .int p0])).length) Slot.unset).toArray = ls at hl ⊢
  have hl : lv_has ls 2 [(0, .ref (b 0)), (1, .int p0)] := hl
  refine lv_aload_n hx hb dX9_manyOf_0 rfl (lv_at hl 0 rfl) ?_
  refine lv_iload_n hx hb dX9_manyOf_1 rfl (lv_at hl 1 rfl) ?_
  refine va_calli (va_runV (As := [.int p0]) (rest := []) ⟨hx, hb, hml, hown, hts⟩ (c_X9_isEdge l dC dI _ b j p0) (cwV 1 hts g_X9_manyOf_X9_isEdge rfl rfl rfl (by decide +kernel) ⟨Nat.le_of_ble_eq_true rfl, Nat.le_of_ble_eq_true rfl⟩) ⟨pu_bl, va_recv hK hP (ci := 9) (q0 := 0) rfl rfl, pu_in hP hK hD⟩ rfl rfl hl.1 rfl (lv_room (Nat.le_of_ble_eq_true rfl)) dX9_manyOf_2 ⟨Nat.le_of_ble_eq_true rfl, Nat.le_of_ble_eq_true rfl⟩) hS (fun q _ h => pu_fr hS hA q h) (pu_fr hS hA) (fun r_1 u t H1 locs ht hvm hw hB hz1 hk1 hS => ?_)
  have hP := pu_keep hP hk1
  clear hk1 hz1 hB ht hvm
  generalize H1 = H at hP hS ⊢
  obtain rfl : r_1 = 0 := hw
  refine lv_if_eq (tgt := 25) hx hb dX9_manyOf_5 (by decide) (fun _ => ?_) (fun z => absurd z (by decide))
  refine lv_aload_n hx hb dX9_manyOf_25 rfl (lv_at hl 0 rfl) ?_
  refine lv_iload_n hx hb dX9_manyOf_26 rfl (lv_at hl 1 rfl) ?_
  refine lv_bipush (v := 100) hx hb dX9_manyOf_27 (by decide) ?_
  refine lv_isub hx hb dX9_manyOf_29 ?_
  refine va_calli (va_runV (As := [.int (p0 - 100)]) (rest := []) ⟨hx, hb, hml, hown, hts⟩ (c_X9_isPlace l dC dI _ b j (p0 - 100)) (cwV 1 hts g_X9_manyOf_X9_isPlace rfl rfl rfl (by decide +kernel) ⟨Nat.le_of_ble_eq_true rfl, Nat.le_of_ble_eq_true rfl⟩) ⟨pu_bl, va_recv hK hP (ci := 9) (q0 := 0) rfl rfl, pu_in hP hK hD⟩ rfl rfl hl.1 rfl (lv_room (Nat.le_of_ble_eq_true rfl)) dX9_manyOf_30 ⟨Nat.le_of_ble_eq_true rfl, Nat.le_of_ble_eq_true rfl⟩) hS (fun q _ h => pu_fr hS hA q h) (pu_fr hS hA) (fun r_2 u t H1 locs ht hvm hw hB hz1 hk1 hS => ?_)
  have hP := pu_keep hP hk1
  clear hk1 hz1 hB ht hvm
  generalize H1 = H at hP hS ⊢
  obtain rfl : r_2 = 0 := hw
  refine lv_if_eq (tgt := 56) hx hb dX9_manyOf_33 (by decide) (fun _ => ?_) (fun z => absurd z (by decide))
  refine lv_iconst (v := (-1)) hx hb dX9_manyOf_56 (by decide) ?_
  exact W.iret (v := (-1)) hx hb hr (fun t ht hW => ⟨⟨(-1), (), rfl, by first | rfl | decide | simp_all, trivial⟩, hS.F ht⟩) hS.2.2 dX9_manyOf_57
theorem dX9_isCondition_0 : decode cX9_isCondition 0 = .ok (.iload_n 2, 1) := by decide +kernel
theorem dX9_isCondition_1 : decode cX9_isCondition 1 = .ok (.iconst 0, 1) := by decide +kernel
theorem dX9_isCondition_2 : decode cX9_isCondition 2 = .ok (.aload_n 0, 1) := by decide +kernel
theorem dX9_isCondition_3 : decode cX9_isCondition 3 = .ok (.iload_n 1, 1) := by decide +kernel
theorem dX9_isCondition_4 : decode cX9_isCondition 4 = .ok (.invokevirtual 295, 3) := by decide +kernel
theorem dX9_isCondition_7 : decode cX9_isCondition 7 = .ok (.iconst 1, 1) := by decide +kernel
theorem dX9_isCondition_8 : decode cX9_isCondition 8 = .ok (.isub, 1) := by decide +kernel
theorem dX9_isCondition_9 : decode cX9_isCondition 9 = .ok (.invokestatic 152, 3) := by decide +kernel
theorem dX9_isCondition_12 : decode cX9_isCondition 12 = .ok (.ireturn, 1) := by decide +kernel
def vs_X9_isCondition : List Cond := .code yX9_isCondition cX9_isCondition 3 (some .boolean) :: ([.methodLink RX9 295 yX9_manyOf, .instanceMethod yX9_manyOf, .selects RX9 yX9_manyOf yX9_manyOf, .initialized RX9, .code yX9_manyOf cX9_manyOf 2 (some .int), .methodLink RX9 283 yX9_isEdge, .instanceMethod yX9_isEdge, .selects RX9 yX9_isEdge yX9_isEdge, .code yX9_isEdge cX9_isEdge 2 (some .boolean), .fieldLink RX9 49 "ClockReachModel" "edgeMany" "[I", .fieldLink RX9 258 "ClockReachModel" "bank" "I", .methodLink RX9 152 yX9_in, .static yX9_in, .code yX9_in cX9_in 3 (some .boolean), .methodLink RX9 286 yX9_isPlace, .instanceMethod yX9_isPlace, .selects RX9 yX9_isPlace yX9_isPlace, .code yX9_isPlace cX9_isPlace 2 (some .boolean), .fieldLink RX9 46 "ClockReachModel" "placeMany" "[I"] ++ wsX90)
theorem g_X9_isCondition_X9_manyOf : GoodIn vs_X9_isCondition (wsV RX9 295 RX9 yX9_manyOf vs_X9_manyOf) := goodIn_r _ [1, 2, 3, 4, 5, 6, 7, 8, 4, 9, 10, 11, 12, 13, 14, 15, 16, 17, 18, 19, 20, 21, 22, 23, 24, 25, 26, 27, 28, 29, 30, 31, 32, 33, 34, 35, 36, 37, 38, 39, 40, 41, 42, 43, 44, 45, 46, 47, 48, 49, 50, 51, 52, 53, 54, 55, 56, 57, 58, 59, 60, 61, 62, 63, 64, 65, 66, 67, 68, 69, 70, 71, 72, 73, 74, 75, 76, 77, 78, 79, 80, 81, 82, 83, 84, 85, 86] (by decide +kernel) (by decide +kernel)
theorem g_X9_isCondition_X9_in_m2 : GoodIn vs_X9_isCondition (va_wsS RX9 152 yX9_in vs_X9_in_m2) := goodIn_r _ [12, 13, 4, 14] (by decide +kernel) (by decide +kernel)
set_option maxHeartbeats 4000000 in
set_option maxRecDepth 100000 in
theorem c_X9_isCondition (l : Launch) (dC : Nat → ClassId) (dI : Nat → Nat → Nat) (sz : Nat) (b : Nat → Nat) (j : Nat → ClassId) (p0 : Int32) (p1 : Int32) : Met l yX9_isCondition vs_X9_isCondition ({ frames := 3, cells := 0, slots := 0, locals := 64 }) (va_Pc [.ref (b 0), .int p0, .int p1] (pu_B (dC, dI) (wM b j) (tM j) sz)) (va_Qi (fun (r : Int32) (_ : Unit) => r = 0) (fun _ _ => True) (va_A [] sz)) 0 0 (va_A [] sz) := by
  refine Met.ofW (cc := cX9_isCondition) (maxL := 3) (ret := (some .boolean)) (by decide) rfl ?_
  intro p e s m args below meth c s₁ B hml hv
  obtain ⟨rfl, rfl, hP, hK, hD0⟩ := hv
  have hx := B.exec
  have hb := B.bytes
  have hr := B.returns
  have hts := atoms_spec (ws := vs_X9_isCondition) B.pre
  have hown : s.vm.findClass RX9 = some m.cls := findClass_of_methodNamed B.named
  have hlocks := B.notSynchronized
  have hD := hD0
  have hA : ∀ q : Nat, s.heap.size ≤ q → va_A [] s.heap.size q := fun _ h => Or.inr h
  have hS : va_S (va_A [] s.heap.size) s.heap s.heap [] := va_S.rf
  have hl := lv_entry ([.ref (b 0), .int p0, .int p1]) (n := 3) (Nat.le_of_ble_eq_true rfl)
  rw [lg_entry_eq]
  generalize (lg_sl ([.ref (b 0), .int p0, .int p1]) ++ List.replicate (3 - (lg_sl ([.ref (b 0), .int p0, .int p1])).length) Slot.unset).toArray = ls at hl ⊢
  have hl : lv_has ls 3 [(0, .ref (b 0)), (1, .int p0), (2, .int p1)] := hl
  refine lv_iload_n hx hb dX9_isCondition_0 rfl (lv_at hl 2 rfl) ?_
  refine lv_iconst (v := 0) hx hb dX9_isCondition_1 (by decide) ?_
  refine lv_aload_n hx hb dX9_isCondition_2 rfl (lv_at hl 0 rfl) ?_
  refine lv_iload_n hx hb dX9_isCondition_3 rfl (lv_at hl 1 rfl) ?_
  refine va_calli (va_runV (As := [.int p0]) (rest := [.int 0, .int p1]) ⟨hx, hb, hml, hown, hts⟩ (c_X9_manyOf l dC dI _ b j p0) (cwV 1 hts g_X9_isCondition_X9_manyOf rfl rfl rfl (by decide +kernel) ⟨Nat.le_of_ble_eq_true rfl, Nat.le_of_ble_eq_true rfl⟩) ⟨pu_bl, va_recv hK hP (ci := 9) (q0 := 0) rfl rfl, pu_in hP hK hD⟩ rfl rfl hl.1 rfl (lv_room (Nat.le_of_ble_eq_true rfl)) dX9_isCondition_4 ⟨Nat.le_of_ble_eq_true rfl, Nat.le_of_ble_eq_true rfl⟩) hS (fun q _ h => pu_fr hS hA q h) (pu_fr hS hA) (fun r_1 u t H1 locs ht hvm hw hB hz1 hk1 hS => ?_)
  have hP := pu_keep hP hk1
  clear hk1 hz1 hB ht hvm
  generalize H1 = H at hP hS ⊢
  obtain rfl : r_1 = (-1) := hw
  refine lv_iconst (v := 1) hx hb dX9_isCondition_7 (by decide) ?_
  refine lv_isub hx hb dX9_isCondition_8 ?_
  refine lv_topi (fun y_2 ey_2 => ?_)
  obtain rfl : y_2 = (-2) := ey_2.trans (by decide)
  refine va_calli (va_runS (As := [.int p1, .int 0, .int (-2)]) (rest := []) ⟨hx, hb, hml, hown, hts⟩ (c_X9_in_m2 l dC dI _ p1) (va_cwS 3 hts g_X9_isCondition_X9_in_m2 rfl rfl rfl (by decide +kernel) ⟨Nat.le_of_ble_eq_true rfl, Nat.le_of_ble_eq_true rfl⟩) ⟨pu_bl, pu_in (hP.sub [] rfl) (hK.sub [] rfl) (hD.sub [] (by decide) rfl)⟩ rfl rfl hl.1 rfl (lv_room (Nat.le_of_ble_eq_true rfl)) dX9_isCondition_9 ⟨Nat.le_of_ble_eq_true rfl, Nat.le_of_ble_eq_true rfl⟩) hS (fun q _ h => pu_fr hS hA q h) (pu_fr hS hA) (fun r_3 u t H1 locs ht hvm hw hB hz1 hk1 hS => ?_)
  have hP := pu_keep hP hk1
  clear hk1 hz1 hB ht hvm
  generalize H1 = H at hP hS ⊢
  obtain rfl : r_3 = 0 := hw
  exact W.zret (v := 0) (ty := .boolean) hx hb hr rfl (fun t ht hW => ⟨⟨0, (), rfl, by first | rfl | decide | simp_all, trivial⟩, hS.F ht⟩) hS.2.2 dX9_isCondition_12
theorem dX9_isState_0 : decode cX9_isState 0 = .ok (.aload_n 0, 1) := by decide +kernel
theorem dX9_isState_1 : decode cX9_isState 1 = .ok (.aload_n 0, 1) := by decide +kernel
theorem dX9_isState_2 : decode cX9_isState 2 = .ok (.invokevirtual 280, 3) := by decide +kernel
theorem dX9_isState_5 : decode cX9_isState 5 = .ok (.iconst 1, 1) := by decide +kernel
theorem dX9_isState_6 : decode cX9_isState 6 = .ok (.iadd, 1) := by decide +kernel
theorem dX9_isState_7 : decode cX9_isState 7 = .ok (.putfield 328, 3) := by decide +kernel
theorem dX9_isState_10 : decode cX9_isState 10 = .ok (.aload_n 0, 1) := by decide +kernel
theorem dX9_isState_11 : decode cX9_isState 11 = .ok (.getfield 273, 3) := by decide +kernel
theorem dX9_isState_14 : decode cX9_isState 14 = .ok (.ifCond .eq 23, 3) := by decide +kernel
theorem dX9_isState_37 : decode cX9_isState 37 = .ok (.iconst 0, 1) := by decide +kernel
theorem dX9_isState_38 : decode cX9_isState 38 = .ok (.ireturn, 1) := by decide +kernel
def vs_X9_isState : List Cond := .code yX9_isState cX9_isState 2 (some .boolean) :: ([.methodLink RX9 280 yX9_clocks, .instanceMethod yX9_clocks, .selects RX9 yX9_clocks yX9_clocks, .initialized RX9, .code yX9_clocks cX9_clocks 1 (some .int), .fieldLink RX9 43 "ClockReachModel" "clockMany" "[I", .fieldLink RX9 258 "ClockReachModel" "bank" "I", .fieldLink RX9 328 "ClockReachModel" "side" "I", .fieldLink RX9 273 "ClockReachModel" "hasGraph" "Z"] ++ wsX90)
theorem g_X9_isState_X9_clocks : GoodIn vs_X9_isState (wsV RX9 280 RX9 yX9_clocks vs_X9_clocks) := goodIn_r _ [1, 2, 3, 4, 5, 6, 7, 10, 11, 12, 13, 14, 15, 16, 17, 18, 19, 20, 21, 22, 23, 24, 25, 26, 27, 28, 29, 30, 31, 32, 33, 34, 35, 36, 37, 38, 39, 40, 41, 42, 43, 44, 45, 46, 47, 48, 49, 50, 51, 52, 53, 54, 55, 56, 57, 58, 59, 60, 61, 62, 63, 64, 65, 66, 67, 68, 69, 70, 71, 72, 73, 74, 75, 76] (by decide +kernel) (by decide +kernel)
set_option maxHeartbeats 4000000 in
set_option maxRecDepth 100000 in
theorem c_X9_isState (l : Launch) (dC : Nat → ClassId) (dI : Nat → Nat → Nat) (sz : Nat) (b : Nat → Nat) (j : Nat → ClassId) (p0 : Int32) : Met l yX9_isState vs_X9_isState ({ frames := 1, cells := 0, slots := 0, locals := 20 }) (va_Pc [.ref (b 0), .int p0] (pu_B (dC, dI) (wM b j) (tM j) sz)) (va_Qi (fun (r : Int32) (_ : Unit) => r = 0) (fun _ _ => True) (va_A (wM b j) sz)) 0 0 (va_A (wM b j) sz) := by
  refine Met.ofW (cc := cX9_isState) (maxL := 2) (ret := (some .boolean)) (by decide) rfl ?_
  intro p e s m args below meth c s₁ B hml hv
  obtain ⟨rfl, rfl, hP, hK, hD0⟩ := hv
  have hx := B.exec
  have hb := B.bytes
  have hr := B.returns
  have hts := atoms_spec (ws := vs_X9_isState) B.pre
  have v_8 := hts (.fieldLink RX9 328 "ClockReachModel" "side" "I") (List.mem_of_getElem? (i := 8) rfl)
  have v_9 := hts (.fieldLink RX9 273 "ClockReachModel" "hasGraph" "Z") (List.mem_of_getElem? (i := 9) rfl)
  have hown : s.vm.findClass RX9 = some m.cls := findClass_of_methodNamed B.named
  have hlocks := B.notSynchronized
  have hiX9 : ∀ w ∈ wsX90, w ∈ vs_X9_isState := fun _ h => List.mem_cons_of_mem _ (List.mem_append_right _ h)
  have hD := hD0.self (sz := s.heap.size)
  generalize hAe : va_A (wM b j) s.heap.size = A at hD ⊢
  have hA : ∀ q : Nat, s.heap.size ≤ q → A q := fun q h => by rw [← hAe]; exact Or.inr h
  have hS : va_S A s.heap s.heap [] := va_S.rf
  have hl := lv_entry ([.ref (b 0), .int p0]) (n := 2) (Nat.le_of_ble_eq_true rfl)
  rw [lg_entry_eq]
  generalize (lg_sl ([.ref (b 0), .int p0]) ++ List.replicate (2 - (lg_sl ([.ref (b 0), .int p0])).length) Slot.unset).toArray = ls at hl ⊢
  have hl : lv_has ls 2 [(0, .ref (b 0)), (1, .int p0)] := hl
  refine lv_aload_n hx hb dX9_isState_0 rfl (lv_at hl 0 rfl) ?_
  refine lv_aload_n hx hb dX9_isState_1 rfl (lv_at hl 0 rfl) ?_
  refine va_calli (va_runV (As := []) (rest := [.ref (b 0)]) ⟨hx, hb, hml, hown, hts⟩ (c_X9_clocks l dC dI _ b j) (cwV 0 hts g_X9_isState_X9_clocks rfl rfl rfl (by decide +kernel) ⟨Nat.le_of_ble_eq_true rfl, Nat.le_of_ble_eq_true rfl⟩) ⟨pu_bl, va_recv hK hP (ci := 9) (q0 := 0) rfl rfl, pu_in hP hK hD⟩ rfl rfl hl.1 rfl (lv_room (Nat.le_of_ble_eq_true rfl)) dX9_isState_2 ⟨Nat.le_of_ble_eq_true rfl, Nat.le_of_ble_eq_true rfl⟩) hS (fun q _ h => pu_fr hS hA q h) (pu_fr hS hA) (fun r_1 u t H1 locs ht hvm hw hB hz1 hk1 hS => ?_)
  have hP := pu_keep hP hk1
  clear hk1 hz1 hB ht hvm
  generalize H1 = H at hP hS ⊢
  obtain rfl : r_1 = 0 := hw
  refine lv_iconst (v := 1) hx hb dX9_isState_5 (by decide) ?_
  refine lv_iadd hx hb dX9_isState_6 ?_
  refine lv_topi (fun y_2 ey_2 => ?_)
  obtain rfl : y_2 = 1 := ey_2.trans (by decide)
  refine va_put (D := (dC, dI)) (ci := 9) (v := .int 1) (ty := .int) (C := RX9) (T := TX9) (N := 67) hx hb hts hiX9 tyX9 tyX9_ok nmX9 hown hK hP hD hS 0 rfl rfl 46 (by decide) v_8 (fun _ h9 => h9) rfl (by decide +kernel) rfl rfl (Nat.le_of_ble_eq_true rfl) dX9_isState_7 (fun H locs hP hD hS => ?_)
  have hP : va_P (dC, dI) vwCl [((b 0), .inr (9, [.int 0, .ref (b 10), .ref (b 11), .ref (b 12), .ref (b 13), .ref (b 14), .ref (b 15), .ref (b 16), .ref (b 17), .ref (b 18), .ref (b 19), .ref (b 20), .ref (b 1), .ref (b 2), .ref (b 3), .ref (b 4), .int 0, .ref (b 5), .int 0, .int 0, .int 0, .int 0, .int 0, .int 0, .int 0, .int (-1), .int 0, .int 0, .int 0, .int 0, .int 0, .ref (b 21), .ref (b 22), .int 0, .ref (b 23), .ref (b 24), .ref (b 25), .ref (b 26), .ref (b 27), .ref (b 28), .ref (b 29), .ref (b 30), .ref (b 31), .ref (b 32), .ref (b 33), .int 0, .int 1, .ref (b 34), .ref (b 35), .ref (b 36), .ref (b 37), .ref (b 38), .int 0, .int 0, .ref (b 39), .ref (b 40), .ref (b 41), .ref (b 42), .ref (b 43), .ref (b 44), .ref (b 45), .int 0, .int 0, .int 0, .ref (b 46), .int 0, .int 0])), ((b 1), .inl ((j 1), 2, .inl (fun _ => 0))), ((b 2), .inl ((j 2), 2, .inl (fun _ => 0))), ((b 3), .inl ((j 3), 2, .inl (fun _ => 0))), ((b 4), .inl ((j 4), 2, .inl begF)), ((b 5), .inl ((j 5), 900, .inl (fun _ => 0)))] H := hP
  have hD : va_D A [((b 0), .inr (9, [.int 0, .ref (b 10), .ref (b 11), .ref (b 12), .ref (b 13), .ref (b 14), .ref (b 15), .ref (b 16), .ref (b 17), .ref (b 18), .ref (b 19), .ref (b 20), .ref (b 1), .ref (b 2), .ref (b 3), .ref (b 4), .int 0, .ref (b 5), .int 0, .int 0, .int 0, .int 0, .int 0, .int 0, .int 0, .int (-1), .int 0, .int 0, .int 0, .int 0, .int 0, .ref (b 21), .ref (b 22), .int 0, .ref (b 23), .ref (b 24), .ref (b 25), .ref (b 26), .ref (b 27), .ref (b 28), .ref (b 29), .ref (b 30), .ref (b 31), .ref (b 32), .ref (b 33), .int 0, .int 1, .ref (b 34), .ref (b 35), .ref (b 36), .ref (b 37), .ref (b 38), .int 0, .int 0, .ref (b 39), .ref (b 40), .ref (b 41), .ref (b 42), .ref (b 43), .ref (b 44), .ref (b 45), .int 0, .int 0, .int 0, .ref (b 46), .int 0, .int 0])), ((b 1), .inl ((j 1), 2, .inl (fun _ => 0))), ((b 2), .inl ((j 2), 2, .inl (fun _ => 0))), ((b 3), .inl ((j 3), 2, .inl (fun _ => 0))), ((b 4), .inl ((j 4), 2, .inl begF)), ((b 5), .inl ((j 5), 900, .inl (fun _ => 0)))] := hD
  refine lv_aload_n hx hb dX9_isState_10 rfl (lv_at hl 0 rfl) ?_
  refine va_get (D := (dC, dI)) (ci := 9) (v := .int 0) (C := RX9) (T := TX9) (N := 67) hx hb hts hiX9 hown hK hP 0 rfl rfl 29 (by decide) v_9 (fun _ h9 => h9) rfl dX9_isState_11 ?_
  refine lv_if_eq (tgt := 37) hx hb dX9_isState_14 (by decide) (fun _ => ?_) (fun z => absurd z (by decide))
  refine lv_iconst (v := 0) hx hb dX9_isState_37 (by decide) ?_
  exact W.zret (v := 0) (ty := .boolean) hx hb hr rfl (fun t ht hW => ⟨⟨0, (), rfl, by first | rfl | decide | simp_all, trivial⟩, hS.F ht⟩) hS.2.2 dX9_isState_38
theorem dX9_isStep_0 : decode cX9_isStep 0 = .ok (.aload_n 0, 1) := by decide +kernel
theorem dX9_isStep_1 : decode cX9_isStep 1 = .ok (.iload_n 1, 1) := by decide +kernel
theorem dX9_isStep_2 : decode cX9_isStep 2 = .ok (.invokevirtual 387, 3) := by decide +kernel
theorem dX9_isStep_5 : decode cX9_isStep 5 = .ok (.ifCond .ne 5, 3) := by decide +kernel
theorem dX9_isStep_8 : decode cX9_isStep 8 = .ok (.iconst 0, 1) := by decide +kernel
theorem dX9_isStep_9 : decode cX9_isStep 9 = .ok (.ireturn, 1) := by decide +kernel
def vs_X9_isStep : List Cond := .code yX9_isStep cX9_isStep 3 (some .boolean) :: ([.methodLink RX9 387 yX9_isState, .instanceMethod yX9_isState, .selects RX9 yX9_isState yX9_isState, .initialized RX9, .code yX9_isState cX9_isState 2 (some .boolean), .methodLink RX9 280 yX9_clocks, .instanceMethod yX9_clocks, .selects RX9 yX9_clocks yX9_clocks, .code yX9_clocks cX9_clocks 1 (some .int), .fieldLink RX9 43 "ClockReachModel" "clockMany" "[I", .fieldLink RX9 258 "ClockReachModel" "bank" "I", .fieldLink RX9 328 "ClockReachModel" "side" "I", .fieldLink RX9 273 "ClockReachModel" "hasGraph" "Z"] ++ wsX90)
theorem g_X9_isStep_X9_isState : GoodIn vs_X9_isStep (wsV RX9 387 RX9 yX9_isState vs_X9_isState) := goodIn_r _ [1, 2, 3, 4, 5, 6, 7, 8, 4, 9, 10, 11, 12, 13, 14, 15, 16, 17, 18, 19, 20, 21, 22, 23, 24, 25, 26, 27, 28, 29, 30, 31, 32, 33, 34, 35, 36, 37, 38, 39, 40, 41, 42, 43, 44, 45, 46, 47, 48, 49, 50, 51, 52, 53, 54, 55, 56, 57, 58, 59, 60, 61, 62, 63, 64, 65, 66, 67, 68, 69, 70, 71, 72, 73, 74, 75, 76, 77, 78, 79, 80] (by decide +kernel) (by decide +kernel)
set_option maxHeartbeats 4000000 in
set_option maxRecDepth 100000 in
theorem c_X9_isStep (l : Launch) (dC : Nat → ClassId) (dI : Nat → Nat → Nat) (sz : Nat) (b : Nat → Nat) (j : Nat → ClassId) (p0 : Int32) (p1 : Int32) : Met l yX9_isStep vs_X9_isStep ({ frames := 2, cells := 0, slots := 0, locals := 41 }) (va_Pc [.ref (b 0), .int p0, .int p1] (pu_B (dC, dI) (wM b j) (tM j) sz)) (va_Qi (fun (r : Int32) (_ : Unit) => r = 0) (fun _ _ => True) (va_A (wM b j) sz)) 0 0 (va_A (wM b j) sz) := by
  refine Met.ofW (cc := cX9_isStep) (maxL := 3) (ret := (some .boolean)) (by decide) rfl ?_
  intro p e s m args below meth c s₁ B hml hv
  obtain ⟨rfl, rfl, hP, hK, hD0⟩ := hv
  have hx := B.exec
  have hb := B.bytes
  have hr := B.returns
  have hts := atoms_spec (ws := vs_X9_isStep) B.pre
  have hown : s.vm.findClass RX9 = some m.cls := findClass_of_methodNamed B.named
  have hlocks := B.notSynchronized
  have hD := hD0.self (sz := s.heap.size)
  generalize hAe : va_A (wM b j) s.heap.size = A at hD ⊢
  have hA : ∀ q : Nat, s.heap.size ≤ q → A q := fun q h => by rw [← hAe]; exact Or.inr h
  have hS : va_S A s.heap s.heap [] := va_S.rf
  have hl := lv_entry ([.ref (b 0), .int p0, .int p1]) (n := 3) (Nat.le_of_ble_eq_true rfl)
  rw [lg_entry_eq]
  generalize (lg_sl ([.ref (b 0), .int p0, .int p1]) ++ List.replicate (3 - (lg_sl ([.ref (b 0), .int p0, .int p1])).length) Slot.unset).toArray = ls at hl ⊢
  have hl : lv_has ls 3 [(0, .ref (b 0)), (1, .int p0), (2, .int p1)] := hl
  refine lv_aload_n hx hb dX9_isStep_0 rfl (lv_at hl 0 rfl) ?_
  refine lv_iload_n hx hb dX9_isStep_1 rfl (lv_at hl 1 rfl) ?_
  have hFc := va_free (wc := [((b 0), .inr (9, [.int 0, .ref (b 10), .ref (b 11), .ref (b 12), .ref (b 13), .ref (b 14), .ref (b 15), .ref (b 16), .ref (b 17), .ref (b 18), .ref (b 19), .ref (b 20), .ref (b 1), .ref (b 2), .ref (b 3), .ref (b 4), .int 0, .ref (b 5), .int 0, .int 0, .int 0, .int 0, .int 0, .int 0, .int 0, .int (-1), .int 0, .int 0, .int 0, .int 0, .int 0, .ref (b 21), .ref (b 22), .int 0, .ref (b 23), .ref (b 24), .ref (b 25), .ref (b 26), .ref (b 27), .ref (b 28), .ref (b 29), .ref (b 30), .ref (b 31), .ref (b 32), .ref (b 33), .int 0, .int 0, .ref (b 34), .ref (b 35), .ref (b 36), .ref (b 37), .ref (b 38), .int 0, .int 0, .ref (b 39), .ref (b 40), .ref (b 41), .ref (b 42), .ref (b 43), .ref (b 44), .ref (b 45), .int 0, .int 0, .int 0, .ref (b 46), .int 0, .int 0])), ((b 1), .inl ((j 1), 2, .inl (fun _ => 0))), ((b 2), .inl ((j 2), 2, .inl (fun _ => 0))), ((b 3), .inl ((j 3), 2, .inl (fun _ => 0))), ((b 4), .inl ((j 4), 2, .inl begF)), ((b 5), .inl ((j 5), 900, .inl (fun _ => 0)))]) hD hS hA [0, 1, 2, 3, 4, 5] rfl
  refine va_calli (va_runV (As := [.int p0]) (rest := []) ⟨hx, hb, hml, hown, hts⟩ (c_X9_isState l dC dI _ b j p0) (cwV 1 hts g_X9_isStep_X9_isState rfl rfl rfl (by decide +kernel) ⟨Nat.le_of_ble_eq_true rfl, Nat.le_of_ble_eq_true rfl⟩) ⟨pu_bl, va_recv hK hP (ci := 9) (q0 := 0) rfl rfl, pu_in hP hK hD⟩ rfl rfl hl.1 rfl (lv_room (Nat.le_of_ble_eq_true rfl)) dX9_isStep_2 ⟨Nat.le_of_ble_eq_true rfl, Nat.le_of_ble_eq_true rfl⟩) hS (fun q _ h => hFc q h) hFc (fun r_1 u t H1 locs ht hvm hw hB hz1 hk1 hS => ?_)
  obtain ⟨hP, hD⟩ := va_join (wr := []) (w1 := []) hP hD [0, 1, 2, 3, 4, 5] [] rfl rfl (by decide) (by decide) hk1 hFc pu_P0 pu_D0
  clear hk1 hz1 hB ht hvm
  generalize H1 = H at hP hS ⊢
  have hP : va_P (dC, dI) vwCl [] H := hP
  have hD : va_D A [] := hD
  obtain rfl : r_1 = 0 := hw
  refine lv_if_ne (tgt := 10) hx hb dX9_isStep_5 (by decide) (fun z => absurd z (by decide)) (fun _ => ?_)
  refine lv_iconst (v := 0) hx hb dX9_isStep_8 (by decide) ?_
  exact W.zret (v := 0) (ty := .boolean) hx hb hr rfl (fun t ht hW => ⟨⟨0, (), rfl, by first | rfl | decide | simp_all, trivial⟩, hS.F ht⟩) hS.2.2 dX9_isStep_9
theorem dX9_beginsPlay_0 : decode cX9_beginsPlay 0 = .ok (.aload_n 0, 1) := by decide +kernel
theorem dX9_beginsPlay_1 : decode cX9_beginsPlay 1 = .ok (.iconst 0, 1) := by decide +kernel
theorem dX9_beginsPlay_2 : decode cX9_beginsPlay 2 = .ok (.putfield 277, 3) := by decide +kernel
theorem dX9_beginsPlay_5 : decode cX9_beginsPlay 5 = .ok (.aload_n 0, 1) := by decide +kernel
theorem dX9_beginsPlay_6 : decode cX9_beginsPlay 6 = .ok (.getfield 46, 3) := by decide +kernel
theorem dX9_beginsPlay_9 : decode cX9_beginsPlay 9 = .ok (.aload_n 0, 1) := by decide +kernel
theorem dX9_beginsPlay_10 : decode cX9_beginsPlay 10 = .ok (.getfield 258, 3) := by decide +kernel
theorem dX9_beginsPlay_13 : decode cX9_beginsPlay 13 = .ok (.iaload, 1) := by decide +kernel
theorem dX9_beginsPlay_14 : decode cX9_beginsPlay 14 = .ok (.ifCond .ne 5, 3) := by decide +kernel
theorem dX9_beginsPlay_17 : decode cX9_beginsPlay 17 = .ok (.iconst 0, 1) := by decide +kernel
theorem dX9_beginsPlay_18 : decode cX9_beginsPlay 18 = .ok (.ireturn, 1) := by decide +kernel
def vs_X9_beginsPlay : List Cond := .code yX9_beginsPlay cX9_beginsPlay 2 (some .boolean) :: ([.fieldLink RX9 277 "ClockReachModel" "isPlayed" "Z", .fieldLink RX9 46 "ClockReachModel" "placeMany" "[I", .fieldLink RX9 258 "ClockReachModel" "bank" "I"] ++ wsX90)
set_option maxHeartbeats 4000000 in
set_option maxRecDepth 100000 in
theorem c_X9_beginsPlay (l : Launch) (dC : Nat → ClassId) (dI : Nat → Nat → Nat) (sz : Nat) (b : Nat → Nat) (j : Nat → ClassId) : Met l yX9_beginsPlay vs_X9_beginsPlay ({ frames := 0, cells := 0, slots := 0, locals := 0 }) (va_Pc [.ref (b 0)] (pu_B (dC, dI) (wM b j) (tM j) sz)) (va_Qi (fun (r : Int32) (_ : Unit) => r = 0) (fun _ _ => True) (va_A (wM b j) sz)) 0 0 (va_A (wM b j) sz) := by
  refine Met.ofW (cc := cX9_beginsPlay) (maxL := 2) (ret := (some .boolean)) (by decide) rfl ?_
  intro p e s m args below meth c s₁ B hml hv
  obtain ⟨rfl, rfl, hP, hK, hD0⟩ := hv
  have hx := B.exec
  have hb := B.bytes
  have hr := B.returns
  have hts := atoms_spec (ws := vs_X9_beginsPlay) B.pre
  have v_1 := hts (.fieldLink RX9 277 "ClockReachModel" "isPlayed" "Z") (List.mem_of_getElem? (i := 1) rfl)
  have v_2 := hts (.fieldLink RX9 46 "ClockReachModel" "placeMany" "[I") (List.mem_of_getElem? (i := 2) rfl)
  have v_3 := hts (.fieldLink RX9 258 "ClockReachModel" "bank" "I") (List.mem_of_getElem? (i := 3) rfl)
  have hown : s.vm.findClass RX9 = some m.cls := findClass_of_methodNamed B.named
  have hlocks := B.notSynchronized
  have hiX9 : ∀ w ∈ wsX90, w ∈ vs_X9_beginsPlay := fun _ h => List.mem_cons_of_mem _ (List.mem_append_right _ h)
  have hD := hD0.self (sz := s.heap.size)
  generalize hAe : va_A (wM b j) s.heap.size = A at hD ⊢
  have hA : ∀ q : Nat, s.heap.size ≤ q → A q := fun q h => by rw [← hAe]; exact Or.inr h
  have hS : va_S A s.heap s.heap [] := va_S.rf
  have hl := lv_entry ([.ref (b 0)]) (n := 2) (Nat.le_of_ble_eq_true rfl)
  rw [lg_entry_eq]
  generalize (lg_sl ([.ref (b 0)]) ++ List.replicate (2 - (lg_sl ([.ref (b 0)])).length) Slot.unset).toArray = ls at hl ⊢
  have hl : lv_has ls 2 [(0, .ref (b 0))] := hl
  refine lv_aload_n hx hb dX9_beginsPlay_0 rfl (lv_at hl 0 rfl) ?_
  refine lv_iconst (v := 0) hx hb dX9_beginsPlay_1 (by decide) ?_
  refine va_put (D := (dC, dI)) (ci := 9) (v := .int 0) (ty := .boolean) (C := RX9) (T := TX9) (N := 67) hx hb hts hiX9 tyX9 tyX9_ok nmX9 hown hK hP hD hS 0 rfl rfl 30 (by decide) v_1 (fun _ h9 => h9) rfl (by decide +kernel) rfl rfl (Nat.le_of_ble_eq_true rfl) dX9_beginsPlay_2 (fun H locs hP hD hS => ?_)
  have hP : va_P (dC, dI) vwCl (wM b j) H := hP
  have hD : va_D A (wM b j) := hD
  refine lv_aload_n hx hb dX9_beginsPlay_5 rfl (lv_at hl 0 rfl) ?_
  refine va_get (D := (dC, dI)) (ci := 9) (v := .ref (b 2)) (C := RX9) (T := TX9) (N := 67) hx hb hts hiX9 hown hK hP 0 rfl rfl 13 (by decide) v_2 (fun _ h9 => h9) rfl dX9_beginsPlay_6 ?_
  refine lv_aload_n hx hb dX9_beginsPlay_9 rfl (lv_at hl 0 rfl) ?_
  refine va_get (D := (dC, dI)) (ci := 9) (v := .int 0) (C := RX9) (T := TX9) (N := 67) hx hb hts hiX9 hown hK hP 0 rfl rfl 16 (by decide) v_3 (fun _ h9 => h9) rfl dX9_beginsPlay_10 ?_
  refine va_iald hx hb hK hP 2 1 rfl rfl (show ¬ (_ ∨ _) by decide) dX9_beginsPlay_13 ?_
  refine lv_topi (fun y_1 ey_1 => ?_)
  obtain rfl : y_1 = 0 := ey_1.trans (by first | rfl | decide)
  refine lv_if_ne (tgt := 19) hx hb dX9_beginsPlay_14 (by decide) (fun z => absurd z (by decide)) (fun _ => ?_)
  refine lv_iconst (v := 0) hx hb dX9_beginsPlay_17 (by decide) ?_
  exact W.zret (v := 0) (ty := .boolean) hx hb hr rfl (fun t ht hW => ⟨⟨0, (), rfl, by first | rfl | decide | simp_all, trivial⟩, hS.F ht⟩) hS.2.2 dX9_beginsPlay_18
end
section
theorem dX9_place_0 : decode cX9_place 0 = .ok (.aload_n 0, 1) := by decide +kernel
theorem dX9_place_1 : decode cX9_place 1 = .ok (.iconst 0, 1) := by decide +kernel
theorem dX9_place_2 : decode cX9_place 2 = .ok (.putfield 142, 3) := by decide +kernel
theorem dX9_place_5 : decode cX9_place 5 = .ok (.aload_n 0, 1) := by decide +kernel
theorem dX9_place_6 : decode cX9_place 6 = .ok (.iload_n 1, 1) := by decide +kernel
theorem dX9_place_7 : decode cX9_place 7 = .ok (.invokevirtual 286, 3) := by decide +kernel
theorem dX9_place_10 : decode cX9_place 10 = .ok (.ifCond .eq 12, 3) := by decide +kernel
theorem dX9_place_22 : decode cX9_place 22 = .ok (.iconst (-1), 1) := by decide +kernel
theorem dX9_place_23 : decode cX9_place 23 = .ok (.ireturn, 1) := by decide +kernel
def vs_X9_place : List Cond := .code yX9_place cX9_place 3 (some .int) :: ([.fieldLink RX9 142 "ClockReachModel" "thrown" "I", .methodLink RX9 286 yX9_isPlace, .instanceMethod yX9_isPlace, .selects RX9 yX9_isPlace yX9_isPlace, .initialized RX9, .code yX9_isPlace cX9_isPlace 2 (some .boolean), .fieldLink RX9 46 "ClockReachModel" "placeMany" "[I", .fieldLink RX9 258 "ClockReachModel" "bank" "I", .methodLink RX9 152 yX9_in, .static yX9_in, .code yX9_in cX9_in 3 (some .boolean)] ++ wsX90)
theorem g_X9_place_X9_isPlace : GoodIn vs_X9_place (wsV RX9 286 RX9 yX9_isPlace vs_X9_isPlace) := goodIn_r _ [2, 3, 4, 5, 6, 7, 8, 9, 10, 5, 11, 12, 13, 14, 15, 16, 17, 18, 19, 20, 21, 22, 23, 24, 25, 26, 27, 28, 29, 30, 31, 32, 33, 34, 35, 36, 37, 38, 39, 40, 41, 42, 43, 44, 45, 46, 47, 48, 49, 50, 51, 52, 53, 54, 55, 56, 57, 58, 59, 60, 61, 62, 63, 64, 65, 66, 67, 68, 69, 70, 71, 72, 73, 74, 75, 76, 77, 78] (by decide +kernel) (by decide +kernel)
set_option maxHeartbeats 4000000 in
set_option maxRecDepth 100000 in
theorem c_X9_place (l : Launch) (dC : Nat → ClassId) (dI : Nat → Nat → Nat) (sz : Nat) (b : Nat → Nat) (j : Nat → ClassId) (p0 : Int32) (p1 : Int32) : Met l yX9_place vs_X9_place ({ frames := 2, cells := 0, slots := 0, locals := 43 }) (va_Pc [.ref (b 0), .int p0, .int p1] (pu_B (dC, dI) (wM b j) (tM j) sz)) (va_Qi (fun (r : Int32) (_ : Unit) => r = -1) (fun _ _ => True) (va_A (wM b j) sz)) 0 0 (va_A (wM b j) sz) := by
  refine Met.ofW (cc := cX9_place) (maxL := 3) (ret := (some .int)) (by decide) rfl ?_
  intro p e s m args below meth c s₁ B hml hv
  obtain ⟨rfl, rfl, hP, hK, hD0⟩ := hv
  have hx := B.exec
  have hb := B.bytes
  have hr := B.returns
  have hts := atoms_spec (ws := vs_X9_place) B.pre
  have v_1 := hts (.fieldLink RX9 142 "ClockReachModel" "thrown" "I") (List.mem_of_getElem? (i := 1) rfl)
  have hown : s.vm.findClass RX9 = some m.cls := findClass_of_methodNamed B.named
  have hlocks := B.notSynchronized
  have hiX9 : ∀ w ∈ wsX90, w ∈ vs_X9_place := fun _ h => List.mem_cons_of_mem _ (List.mem_append_right _ h)
  have hD := hD0.self (sz := s.heap.size)
  generalize hAe : va_A (wM b j) s.heap.size = A at hD ⊢
  have hA : ∀ q : Nat, s.heap.size ≤ q → A q := fun q h => by rw [← hAe]; exact Or.inr h
  have hS : va_S A s.heap s.heap [] := va_S.rf
  have hl := lv_entry ([.ref (b 0), .int p0, .int p1]) (n := 3) (Nat.le_of_ble_eq_true rfl)
  rw [lg_entry_eq]
  generalize (lg_sl ([.ref (b 0), .int p0, .int p1]) ++ List.replicate (3 - (lg_sl ([.ref (b 0), .int p0, .int p1])).length) Slot.unset).toArray = ls at hl ⊢
  have hl : lv_has ls 3 [(0, .ref (b 0)), (1, .int p0), (2, .int p1)] := hl
  refine lv_aload_n hx hb dX9_place_0 rfl (lv_at hl 0 rfl) ?_
  refine lv_iconst (v := 0) hx hb dX9_place_1 (by decide) ?_
  refine va_put (D := (dC, dI)) (ci := 9) (v := .int 0) (ty := .int) (C := RX9) (T := TX9) (N := 67) hx hb hts hiX9 tyX9 tyX9_ok nmX9 hown hK hP hD hS 0 rfl rfl 0 (by decide) v_1 (fun _ h9 => h9) rfl (by decide +kernel) rfl rfl (Nat.le_of_ble_eq_true rfl) dX9_place_2 (fun H locs hP hD hS => ?_)
  have hP : va_P (dC, dI) vwCl (wM b j) H := hP
  have hD : va_D A (wM b j) := hD
  refine lv_aload_n hx hb dX9_place_5 rfl (lv_at hl 0 rfl) ?_
  refine lv_iload_n hx hb dX9_place_6 rfl (lv_at hl 1 rfl) ?_
  refine va_calli (va_runV (As := [.int p0]) (rest := []) ⟨hx, hb, hml, hown, hts⟩ (c_X9_isPlace l dC dI _ b j p0) (cwV 1 hts g_X9_place_X9_isPlace rfl rfl rfl (by decide +kernel) ⟨Nat.le_of_ble_eq_true rfl, Nat.le_of_ble_eq_true rfl⟩) ⟨pu_bl, va_recv hK hP (ci := 9) (q0 := 0) rfl rfl, pu_in hP hK hD⟩ rfl rfl hl.1 rfl (lv_room (Nat.le_of_ble_eq_true rfl)) dX9_place_7 ⟨Nat.le_of_ble_eq_true rfl, Nat.le_of_ble_eq_true rfl⟩) hS (fun q _ h => pu_fr hS hA q h) (pu_fr hS hA) (fun r_1 u t H1 locs ht hvm hw hB hz1 hk1 hS => ?_)
  have hP := pu_keep hP hk1
  clear hk1 hz1 hB ht hvm
  generalize H1 = H at hP hS ⊢
  obtain rfl : r_1 = 0 := hw
  refine lv_if_eq (tgt := 22) hx hb dX9_place_10 (by decide) (fun _ => ?_) (fun z => absurd z (by decide))
  refine lv_iconst (v := (-1)) hx hb dX9_place_22 (by decide) ?_
  exact W.iret (v := (-1)) hx hb hr (fun t ht hW => ⟨⟨(-1), (), rfl, by first | rfl | decide | simp_all, trivial⟩, hS.F ht⟩) hS.2.2 dX9_place_23
theorem dX9_edge_0 : decode cX9_edge 0 = .ok (.aload_n 0, 1) := by decide +kernel
theorem dX9_edge_1 : decode cX9_edge 1 = .ok (.iconst 0, 1) := by decide +kernel
theorem dX9_edge_2 : decode cX9_edge 2 = .ok (.putfield 142, 3) := by decide +kernel
theorem dX9_edge_5 : decode cX9_edge 5 = .ok (.aload_n 0, 1) := by decide +kernel
theorem dX9_edge_6 : decode cX9_edge 6 = .ok (.iload_n 1, 1) := by decide +kernel
theorem dX9_edge_7 : decode cX9_edge 7 = .ok (.invokevirtual 283, 3) := by decide +kernel
theorem dX9_edge_10 : decode cX9_edge 10 = .ok (.ifCond .eq 12, 3) := by decide +kernel
theorem dX9_edge_22 : decode cX9_edge 22 = .ok (.iconst (-1), 1) := by decide +kernel
theorem dX9_edge_23 : decode cX9_edge 23 = .ok (.ireturn, 1) := by decide +kernel
def vs_X9_edge : List Cond := .code yX9_edge cX9_edge 3 (some .int) :: ([.fieldLink RX9 142 "ClockReachModel" "thrown" "I", .methodLink RX9 283 yX9_isEdge, .instanceMethod yX9_isEdge, .selects RX9 yX9_isEdge yX9_isEdge, .initialized RX9, .code yX9_isEdge cX9_isEdge 2 (some .boolean), .fieldLink RX9 49 "ClockReachModel" "edgeMany" "[I", .fieldLink RX9 258 "ClockReachModel" "bank" "I", .methodLink RX9 152 yX9_in, .static yX9_in, .code yX9_in cX9_in 3 (some .boolean)] ++ wsX90)
theorem g_X9_edge_X9_isEdge : GoodIn vs_X9_edge (wsV RX9 283 RX9 yX9_isEdge vs_X9_isEdge) := goodIn_r _ [2, 3, 4, 5, 6, 7, 8, 9, 10, 5, 11, 12, 13, 14, 15, 16, 17, 18, 19, 20, 21, 22, 23, 24, 25, 26, 27, 28, 29, 30, 31, 32, 33, 34, 35, 36, 37, 38, 39, 40, 41, 42, 43, 44, 45, 46, 47, 48, 49, 50, 51, 52, 53, 54, 55, 56, 57, 58, 59, 60, 61, 62, 63, 64, 65, 66, 67, 68, 69, 70, 71, 72, 73, 74, 75, 76, 77, 78] (by decide +kernel) (by decide +kernel)
set_option maxHeartbeats 4000000 in
set_option maxRecDepth 100000 in
theorem c_X9_edge (l : Launch) (dC : Nat → ClassId) (dI : Nat → Nat → Nat) (sz : Nat) (b : Nat → Nat) (j : Nat → ClassId) (p0 : Int32) (p1 : Int32) : Met l yX9_edge vs_X9_edge ({ frames := 2, cells := 0, slots := 0, locals := 43 }) (va_Pc [.ref (b 0), .int p0, .int p1] (pu_B (dC, dI) (wM b j) (tM j) sz)) (va_Qi (fun (r : Int32) (_ : Unit) => r = -1) (fun _ _ => True) (va_A (wM b j) sz)) 0 0 (va_A (wM b j) sz) := by
  refine Met.ofW (cc := cX9_edge) (maxL := 3) (ret := (some .int)) (by decide) rfl ?_
  intro p e s m args below meth c s₁ B hml hv
  obtain ⟨rfl, rfl, hP, hK, hD0⟩ := hv
  have hx := B.exec
  have hb := B.bytes
  have hr := B.returns
  have hts := atoms_spec (ws := vs_X9_edge) B.pre
  have v_1 := hts (.fieldLink RX9 142 "ClockReachModel" "thrown" "I") (List.mem_of_getElem? (i := 1) rfl)
  have hown : s.vm.findClass RX9 = some m.cls := findClass_of_methodNamed B.named
  have hlocks := B.notSynchronized
  have hiX9 : ∀ w ∈ wsX90, w ∈ vs_X9_edge := fun _ h => List.mem_cons_of_mem _ (List.mem_append_right _ h)
  have hD := hD0.self (sz := s.heap.size)
  generalize hAe : va_A (wM b j) s.heap.size = A at hD ⊢
  have hA : ∀ q : Nat, s.heap.size ≤ q → A q := fun q h => by rw [← hAe]; exact Or.inr h
  have hS : va_S A s.heap s.heap [] := va_S.rf
  have hl := lv_entry ([.ref (b 0), .int p0, .int p1]) (n := 3) (Nat.le_of_ble_eq_true rfl)
  rw [lg_entry_eq]
  generalize (lg_sl ([.ref (b 0), .int p0, .int p1]) ++ List.replicate (3 - (lg_sl ([.ref (b 0), .int p0, .int p1])).length) Slot.unset).toArray = ls at hl ⊢
  have hl : lv_has ls 3 [(0, .ref (b 0)), (1, .int p0), (2, .int p1)] := hl
  refine lv_aload_n hx hb dX9_edge_0 rfl (lv_at hl 0 rfl) ?_
  refine lv_iconst (v := 0) hx hb dX9_edge_1 (by decide) ?_
  refine va_put (D := (dC, dI)) (ci := 9) (v := .int 0) (ty := .int) (C := RX9) (T := TX9) (N := 67) hx hb hts hiX9 tyX9 tyX9_ok nmX9 hown hK hP hD hS 0 rfl rfl 0 (by decide) v_1 (fun _ h9 => h9) rfl (by decide +kernel) rfl rfl (Nat.le_of_ble_eq_true rfl) dX9_edge_2 (fun H locs hP hD hS => ?_)
  have hP : va_P (dC, dI) vwCl (wM b j) H := hP
  have hD : va_D A (wM b j) := hD
  refine lv_aload_n hx hb dX9_edge_5 rfl (lv_at hl 0 rfl) ?_
  refine lv_iload_n hx hb dX9_edge_6 rfl (lv_at hl 1 rfl) ?_
  refine va_calli (va_runV (As := [.int p0]) (rest := []) ⟨hx, hb, hml, hown, hts⟩ (c_X9_isEdge l dC dI _ b j p0) (cwV 1 hts g_X9_edge_X9_isEdge rfl rfl rfl (by decide +kernel) ⟨Nat.le_of_ble_eq_true rfl, Nat.le_of_ble_eq_true rfl⟩) ⟨pu_bl, va_recv hK hP (ci := 9) (q0 := 0) rfl rfl, pu_in hP hK hD⟩ rfl rfl hl.1 rfl (lv_room (Nat.le_of_ble_eq_true rfl)) dX9_edge_7 ⟨Nat.le_of_ble_eq_true rfl, Nat.le_of_ble_eq_true rfl⟩) hS (fun q _ h => pu_fr hS hA q h) (pu_fr hS hA) (fun r_1 u t H1 locs ht hvm hw hB hz1 hk1 hS => ?_)
  have hP := pu_keep hP hk1
  clear hk1 hz1 hB ht hvm
  generalize H1 = H at hP hS ⊢
  obtain rfl : r_1 = 0 := hw
  refine lv_if_eq (tgt := 22) hx hb dX9_edge_10 (by decide) (fun _ => ?_) (fun z => absurd z (by decide))
  refine lv_iconst (v := (-1)) hx hb dX9_edge_22 (by decide) ?_
  exact W.iret (v := (-1)) hx hb hr (fun t ht hW => ⟨⟨(-1), (), rfl, by first | rfl | decide | simp_all, trivial⟩, hS.F ht⟩) hS.2.2 dX9_edge_23
theorem dX9_condition_0 : decode cX9_condition 0 = .ok (.aload_n 0, 1) := by decide +kernel
theorem dX9_condition_1 : decode cX9_condition 1 = .ok (.iconst 0, 1) := by decide +kernel
theorem dX9_condition_2 : decode cX9_condition 2 = .ok (.putfield 142, 3) := by decide +kernel
theorem dX9_condition_5 : decode cX9_condition 5 = .ok (.aload_n 0, 1) := by decide +kernel
theorem dX9_condition_6 : decode cX9_condition 6 = .ok (.iload_n 1, 1) := by decide +kernel
theorem dX9_condition_7 : decode cX9_condition 7 = .ok (.iload_n 2, 1) := by decide +kernel
theorem dX9_condition_8 : decode cX9_condition 8 = .ok (.invokevirtual 308, 3) := by decide +kernel
theorem dX9_condition_11 : decode cX9_condition 11 = .ok (.ifCond .eq 12, 3) := by decide +kernel
theorem dX9_condition_23 : decode cX9_condition 23 = .ok (.iconst (-1), 1) := by decide +kernel
theorem dX9_condition_24 : decode cX9_condition 24 = .ok (.ireturn, 1) := by decide +kernel
def vs_X9_condition : List Cond := .code yX9_condition cX9_condition 5 (some .int) :: ([.fieldLink RX9 142 "ClockReachModel" "thrown" "I", .methodLink RX9 308 yX9_isCondition, .instanceMethod yX9_isCondition, .selects RX9 yX9_isCondition yX9_isCondition, .initialized RX9, .code yX9_isCondition cX9_isCondition 3 (some .boolean), .methodLink RX9 295 yX9_manyOf, .instanceMethod yX9_manyOf, .selects RX9 yX9_manyOf yX9_manyOf, .code yX9_manyOf cX9_manyOf 2 (some .int), .methodLink RX9 283 yX9_isEdge, .instanceMethod yX9_isEdge, .selects RX9 yX9_isEdge yX9_isEdge, .code yX9_isEdge cX9_isEdge 2 (some .boolean), .fieldLink RX9 49 "ClockReachModel" "edgeMany" "[I", .fieldLink RX9 258 "ClockReachModel" "bank" "I", .methodLink RX9 152 yX9_in, .static yX9_in, .code yX9_in cX9_in 3 (some .boolean), .methodLink RX9 286 yX9_isPlace, .instanceMethod yX9_isPlace, .selects RX9 yX9_isPlace yX9_isPlace, .code yX9_isPlace cX9_isPlace 2 (some .boolean), .fieldLink RX9 46 "ClockReachModel" "placeMany" "[I"] ++ wsX90)
theorem g_X9_condition_X9_isCondition : GoodIn vs_X9_condition (wsV RX9 308 RX9 yX9_isCondition vs_X9_isCondition) := goodIn_r _ [2, 3, 4, 5, 6, 7, 8, 9, 5, 10, 11, 12, 13, 14, 15, 16, 17, 18, 19, 20, 21, 22, 23, 24, 25, 26, 27, 28, 29, 30, 31, 32, 33, 34, 35, 36, 37, 38, 39, 40, 41, 42, 43, 44, 45, 46, 47, 48, 49, 50, 51, 52, 53, 54, 55, 56, 57, 58, 59, 60, 61, 62, 63, 64, 65, 66, 67, 68, 69, 70, 71, 72, 73, 74, 75, 76, 77, 78, 79, 80, 81, 82, 83, 84, 85, 86, 87, 88, 89, 90, 91] (by decide +kernel) (by decide +kernel)
set_option maxHeartbeats 4000000 in
set_option maxRecDepth 100000 in
theorem c_X9_condition (l : Launch) (dC : Nat → ClassId) (dI : Nat → Nat → Nat) (sz : Nat) (b : Nat → Nat) (j : Nat → ClassId) (p0 : Int32) (p1 : Int32) (p2 : Int32) : Met l yX9_condition vs_X9_condition ({ frames := 4, cells := 0, slots := 0, locals := 86 }) (va_Pc [.ref (b 0), .int p0, .int p1, .int p2] (pu_B (dC, dI) (wM b j) (tM j) sz)) (va_Qi (fun (r : Int32) (_ : Unit) => r = -1) (fun _ _ => True) (va_A (wM b j) sz)) 0 0 (va_A (wM b j) sz) := by
  refine Met.ofW (cc := cX9_condition) (maxL := 5) (ret := (some .int)) (by decide) rfl ?_
  intro p e s m args below meth c s₁ B hml hv
  obtain ⟨rfl, rfl, hP, hK, hD0⟩ := hv
  have hx := B.exec
  have hb := B.bytes
  have hr := B.returns
  have hts := atoms_spec (ws := vs_X9_condition) B.pre
  have v_1 := hts (.fieldLink RX9 142 "ClockReachModel" "thrown" "I") (List.mem_of_getElem? (i := 1) rfl)
  have hown : s.vm.findClass RX9 = some m.cls := findClass_of_methodNamed B.named
  have hlocks := B.notSynchronized
  have hiX9 : ∀ w ∈ wsX90, w ∈ vs_X9_condition := fun _ h => List.mem_cons_of_mem _ (List.mem_append_right _ h)
  have hD := hD0.self (sz := s.heap.size)
  generalize hAe : va_A (wM b j) s.heap.size = A at hD ⊢
  have hA : ∀ q : Nat, s.heap.size ≤ q → A q := fun q h => by rw [← hAe]; exact Or.inr h
  have hS : va_S A s.heap s.heap [] := va_S.rf
  have hl := lv_entry ([.ref (b 0), .int p0, .int p1, .int p2]) (n := 5) (Nat.le_of_ble_eq_true rfl)
  rw [lg_entry_eq]
  generalize (lg_sl ([.ref (b 0), .int p0, .int p1, .int p2]) ++ List.replicate (5 - (lg_sl ([.ref (b 0), .int p0, .int p1, .int p2])).length) Slot.unset).toArray = ls at hl ⊢
  have hl : lv_has ls 5 [(0, .ref (b 0)), (1, .int p0), (2, .int p1), (3, .int p2)] := hl
  refine lv_aload_n hx hb dX9_condition_0 rfl (lv_at hl 0 rfl) ?_
  refine lv_iconst (v := 0) hx hb dX9_condition_1 (by decide) ?_
  refine va_put (D := (dC, dI)) (ci := 9) (v := .int 0) (ty := .int) (C := RX9) (T := TX9) (N := 67) hx hb hts hiX9 tyX9 tyX9_ok nmX9 hown hK hP hD hS 0 rfl rfl 0 (by decide) v_1 (fun _ h9 => h9) rfl (by decide +kernel) rfl rfl (Nat.le_of_ble_eq_true rfl) dX9_condition_2 (fun H locs hP hD hS => ?_)
  have hP : va_P (dC, dI) vwCl (wM b j) H := hP
  have hD : va_D A (wM b j) := hD
  refine lv_aload_n hx hb dX9_condition_5 rfl (lv_at hl 0 rfl) ?_
  refine lv_iload_n hx hb dX9_condition_6 rfl (lv_at hl 1 rfl) ?_
  refine lv_iload_n hx hb dX9_condition_7 rfl (lv_at hl 2 rfl) ?_
  refine va_calli (va_runV (As := [.int p0, .int p1]) (rest := []) ⟨hx, hb, hml, hown, hts⟩ (c_X9_isCondition l dC dI _ b j p0 p1) (cwV 2 hts g_X9_condition_X9_isCondition rfl rfl rfl (by decide +kernel) ⟨Nat.le_of_ble_eq_true rfl, Nat.le_of_ble_eq_true rfl⟩) ⟨pu_bl, va_recv hK hP (ci := 9) (q0 := 0) rfl rfl, pu_in hP hK hD⟩ rfl rfl hl.1 rfl (lv_room (Nat.le_of_ble_eq_true rfl)) dX9_condition_8 ⟨Nat.le_of_ble_eq_true rfl, Nat.le_of_ble_eq_true rfl⟩) hS (fun q _ h => pu_fr hS hA q h) (pu_fr hS hA) (fun r_1 u t H1 locs ht hvm hw hB hz1 hk1 hS => ?_)
  have hP := pu_keep hP hk1
  clear hk1 hz1 hB ht hvm
  generalize H1 = H at hP hS ⊢
  obtain rfl : r_1 = 0 := hw
  refine lv_if_eq (tgt := 23) hx hb dX9_condition_11 (by decide) (fun _ => ?_) (fun z => absurd z (by decide))
  refine lv_iconst (v := (-1)) hx hb dX9_condition_23 (by decide) ?_
  exact W.iret (v := (-1)) hx hb hr (fun t ht hW => ⟨⟨(-1), (), rfl, by first | rfl | decide | simp_all, trivial⟩, hS.F ht⟩) hS.2.2 dX9_condition_24
theorem dX9_limit_0 : decode cX9_limit 0 = .ok (.aload_n 0, 1) := by decide +kernel
theorem dX9_limit_1 : decode cX9_limit 1 = .ok (.iconst 0, 1) := by decide +kernel
theorem dX9_limit_2 : decode cX9_limit 2 = .ok (.putfield 142, 3) := by decide +kernel
theorem dX9_limit_5 : decode cX9_limit 5 = .ok (.aload_n 0, 1) := by decide +kernel
theorem dX9_limit_6 : decode cX9_limit 6 = .ok (.iload_n 1, 1) := by decide +kernel
theorem dX9_limit_7 : decode cX9_limit 7 = .ok (.invokevirtual 314, 3) := by decide +kernel
theorem dX9_limit_10 : decode cX9_limit 10 = .ok (.ifCond .eq 21, 3) := by decide +kernel
theorem dX9_limit_31 : decode cX9_limit 31 = .ok (.iconst (-1), 1) := by decide +kernel
theorem dX9_limit_32 : decode cX9_limit 32 = .ok (.ireturn, 1) := by decide +kernel
def vs_X9_limit : List Cond := .code yX9_limit cX9_limit 3 (some .int) :: ([.fieldLink RX9 142 "ClockReachModel" "thrown" "I", .methodLink RX9 314 yX9_isClock, .instanceMethod yX9_isClock, .selects RX9 yX9_isClock yX9_isClock, .initialized RX9, .code yX9_isClock cX9_isClock 2 (some .boolean), .methodLink RX9 280 yX9_clocks, .instanceMethod yX9_clocks, .selects RX9 yX9_clocks yX9_clocks, .code yX9_clocks cX9_clocks 1 (some .int), .fieldLink RX9 43 "ClockReachModel" "clockMany" "[I", .fieldLink RX9 258 "ClockReachModel" "bank" "I", .methodLink RX9 152 yX9_in, .static yX9_in, .code yX9_in cX9_in 3 (some .boolean)] ++ wsX90)
theorem g_X9_limit_X9_isClock : GoodIn vs_X9_limit (wsV RX9 314 RX9 yX9_isClock vs_X9_isClock) := goodIn_r _ [2, 3, 4, 5, 6, 7, 8, 9, 5, 10, 11, 12, 13, 14, 15, 16, 17, 18, 19, 20, 21, 22, 23, 24, 25, 26, 27, 28, 29, 30, 31, 32, 33, 34, 35, 36, 37, 38, 39, 40, 41, 42, 43, 44, 45, 46, 47, 48, 49, 50, 51, 52, 53, 54, 55, 56, 57, 58, 59, 60, 61, 62, 63, 64, 65, 66, 67, 68, 69, 70, 71, 72, 73, 74, 75, 76, 77, 78, 79, 80, 81, 82] (by decide +kernel) (by decide +kernel)
set_option maxHeartbeats 4000000 in
set_option maxRecDepth 100000 in
theorem c_X9_limit (l : Launch) (dC : Nat → ClassId) (dI : Nat → Nat → Nat) (sz : Nat) (b : Nat → Nat) (j : Nat → ClassId) (p0 : Int32) (p1 : Int32) : Met l yX9_limit vs_X9_limit ({ frames := 2, cells := 0, slots := 0, locals := 43 }) (va_Pc [.ref (b 0), .int p0, .int p1] (pu_B (dC, dI) (wM b j) (tM j) sz)) (va_Qi (fun (r : Int32) (_ : Unit) => r = -1) (fun _ _ => True) (va_A (wM b j) sz)) 0 0 (va_A (wM b j) sz) := by
  refine Met.ofW (cc := cX9_limit) (maxL := 3) (ret := (some .int)) (by decide) rfl ?_
  intro p e s m args below meth c s₁ B hml hv
  obtain ⟨rfl, rfl, hP, hK, hD0⟩ := hv
  have hx := B.exec
  have hb := B.bytes
  have hr := B.returns
  have hts := atoms_spec (ws := vs_X9_limit) B.pre
  have v_1 := hts (.fieldLink RX9 142 "ClockReachModel" "thrown" "I") (List.mem_of_getElem? (i := 1) rfl)
  have hown : s.vm.findClass RX9 = some m.cls := findClass_of_methodNamed B.named
  have hlocks := B.notSynchronized
  have hiX9 : ∀ w ∈ wsX90, w ∈ vs_X9_limit := fun _ h => List.mem_cons_of_mem _ (List.mem_append_right _ h)
  have hD := hD0.self (sz := s.heap.size)
  generalize hAe : va_A (wM b j) s.heap.size = A at hD ⊢
  have hA : ∀ q : Nat, s.heap.size ≤ q → A q := fun q h => by rw [← hAe]; exact Or.inr h
  have hS : va_S A s.heap s.heap [] := va_S.rf
  have hl := lv_entry ([.ref (b 0), .int p0, .int p1]) (n := 3) (Nat.le_of_ble_eq_true rfl)
  rw [lg_entry_eq]
  generalize (lg_sl ([.ref (b 0), .int p0, .int p1]) ++ List.replicate (3 - (lg_sl ([.ref (b 0), .int p0, .int p1])).length) Slot.unset).toArray = ls at hl ⊢
  have hl : lv_has ls 3 [(0, .ref (b 0)), (1, .int p0), (2, .int p1)] := hl
  refine lv_aload_n hx hb dX9_limit_0 rfl (lv_at hl 0 rfl) ?_
  refine lv_iconst (v := 0) hx hb dX9_limit_1 (by decide) ?_
  refine va_put (D := (dC, dI)) (ci := 9) (v := .int 0) (ty := .int) (C := RX9) (T := TX9) (N := 67) hx hb hts hiX9 tyX9 tyX9_ok nmX9 hown hK hP hD hS 0 rfl rfl 0 (by decide) v_1 (fun _ h9 => h9) rfl (by decide +kernel) rfl rfl (Nat.le_of_ble_eq_true rfl) dX9_limit_2 (fun H locs hP hD hS => ?_)
  have hP : va_P (dC, dI) vwCl (wM b j) H := hP
  have hD : va_D A (wM b j) := hD
  refine lv_aload_n hx hb dX9_limit_5 rfl (lv_at hl 0 rfl) ?_
  refine lv_iload_n hx hb dX9_limit_6 rfl (lv_at hl 1 rfl) ?_
  refine va_calli (va_runV (As := [.int p0]) (rest := []) ⟨hx, hb, hml, hown, hts⟩ (c_X9_isClock l dC dI _ b j p0) (cwV 1 hts g_X9_limit_X9_isClock rfl rfl rfl (by decide +kernel) ⟨Nat.le_of_ble_eq_true rfl, Nat.le_of_ble_eq_true rfl⟩) ⟨pu_bl, va_recv hK hP (ci := 9) (q0 := 0) rfl rfl, pu_in hP hK hD⟩ rfl rfl hl.1 rfl (lv_room (Nat.le_of_ble_eq_true rfl)) dX9_limit_7 ⟨Nat.le_of_ble_eq_true rfl, Nat.le_of_ble_eq_true rfl⟩) hS (fun q _ h => pu_fr hS hA q h) (pu_fr hS hA) (fun r_1 u t H1 locs ht hvm hw hB hz1 hk1 hS => ?_)
  have hP := pu_keep hP hk1
  clear hk1 hz1 hB ht hvm
  generalize H1 = H at hP hS ⊢
  obtain rfl : r_1 = 0 := hw
  refine lv_if_eq (tgt := 31) hx hb dX9_limit_10 (by decide) (fun _ => ?_) (fun z => absurd z (by decide))
  refine lv_iconst (v := (-1)) hx hb dX9_limit_31 (by decide) ?_
  exact W.iret (v := (-1)) hx hb hr (fun t ht hW => ⟨⟨(-1), (), rfl, by first | rfl | decide | simp_all, trivial⟩, hS.F ht⟩) hS.2.2 dX9_limit_32
theorem dX9_number_0 : decode cX9_number 0 = .ok (.aload_n 0, 1) := by decide +kernel
theorem dX9_number_1 : decode cX9_number 1 = .ok (.iconst 0, 1) := by decide +kernel
theorem dX9_number_2 : decode cX9_number 2 = .ok (.putfield 142, 3) := by decide +kernel
theorem dX9_number_5 : decode cX9_number 5 = .ok (.aload_n 0, 1) := by decide +kernel
theorem dX9_number_6 : decode cX9_number 6 = .ok (.iload_n 1, 1) := by decide +kernel
theorem dX9_number_7 : decode cX9_number 7 = .ok (.iload_n 2, 1) := by decide +kernel
theorem dX9_number_8 : decode cX9_number 8 = .ok (.invokevirtual 308, 3) := by decide +kernel
theorem dX9_number_11 : decode cX9_number 11 = .ok (.ifCond .eq 28, 3) := by decide +kernel
theorem dX9_number_39 : decode cX9_number 39 = .ok (.iconst (-1), 1) := by decide +kernel
theorem dX9_number_40 : decode cX9_number 40 = .ok (.ireturn, 1) := by decide +kernel
def vs_X9_number : List Cond := .code yX9_number cX9_number 5 (some .int) :: ([.fieldLink RX9 142 "ClockReachModel" "thrown" "I", .methodLink RX9 308 yX9_isCondition, .instanceMethod yX9_isCondition, .selects RX9 yX9_isCondition yX9_isCondition, .initialized RX9, .code yX9_isCondition cX9_isCondition 3 (some .boolean), .methodLink RX9 295 yX9_manyOf, .instanceMethod yX9_manyOf, .selects RX9 yX9_manyOf yX9_manyOf, .code yX9_manyOf cX9_manyOf 2 (some .int), .methodLink RX9 283 yX9_isEdge, .instanceMethod yX9_isEdge, .selects RX9 yX9_isEdge yX9_isEdge, .code yX9_isEdge cX9_isEdge 2 (some .boolean), .fieldLink RX9 49 "ClockReachModel" "edgeMany" "[I", .fieldLink RX9 258 "ClockReachModel" "bank" "I", .methodLink RX9 152 yX9_in, .static yX9_in, .code yX9_in cX9_in 3 (some .boolean), .methodLink RX9 286 yX9_isPlace, .instanceMethod yX9_isPlace, .selects RX9 yX9_isPlace yX9_isPlace, .code yX9_isPlace cX9_isPlace 2 (some .boolean), .fieldLink RX9 46 "ClockReachModel" "placeMany" "[I"] ++ wsX90)
theorem g_X9_number_X9_isCondition : GoodIn vs_X9_number (wsV RX9 308 RX9 yX9_isCondition vs_X9_isCondition) := goodIn_r _ [2, 3, 4, 5, 6, 7, 8, 9, 5, 10, 11, 12, 13, 14, 15, 16, 17, 18, 19, 20, 21, 22, 23, 24, 25, 26, 27, 28, 29, 30, 31, 32, 33, 34, 35, 36, 37, 38, 39, 40, 41, 42, 43, 44, 45, 46, 47, 48, 49, 50, 51, 52, 53, 54, 55, 56, 57, 58, 59, 60, 61, 62, 63, 64, 65, 66, 67, 68, 69, 70, 71, 72, 73, 74, 75, 76, 77, 78, 79, 80, 81, 82, 83, 84, 85, 86, 87, 88, 89, 90, 91] (by decide +kernel) (by decide +kernel)
set_option maxHeartbeats 4000000 in
set_option maxRecDepth 100000 in
theorem c_X9_number (l : Launch) (dC : Nat → ClassId) (dI : Nat → Nat → Nat) (sz : Nat) (b : Nat → Nat) (j : Nat → ClassId) (p0 : Int32) (p1 : Int32) (p2 : Int32) : Met l yX9_number vs_X9_number ({ frames := 4, cells := 0, slots := 0, locals := 86 }) (va_Pc [.ref (b 0), .int p0, .int p1, .int p2] (pu_B (dC, dI) (wM b j) (tM j) sz)) (va_Qi (fun (r : Int32) (_ : Unit) => r = -1) (fun _ _ => True) (va_A (wM b j) sz)) 0 0 (va_A (wM b j) sz) := by
  refine Met.ofW (cc := cX9_number) (maxL := 5) (ret := (some .int)) (by decide) rfl ?_
  intro p e s m args below meth c s₁ B hml hv
  obtain ⟨rfl, rfl, hP, hK, hD0⟩ := hv
  have hx := B.exec
  have hb := B.bytes
  have hr := B.returns
  have hts := atoms_spec (ws := vs_X9_number) B.pre
  have v_1 := hts (.fieldLink RX9 142 "ClockReachModel" "thrown" "I") (List.mem_of_getElem? (i := 1) rfl)
  have hown : s.vm.findClass RX9 = some m.cls := findClass_of_methodNamed B.named
  have hlocks := B.notSynchronized
  have hiX9 : ∀ w ∈ wsX90, w ∈ vs_X9_number := fun _ h => List.mem_cons_of_mem _ (List.mem_append_right _ h)
  have hD := hD0.self (sz := s.heap.size)
  generalize hAe : va_A (wM b j) s.heap.size = A at hD ⊢
  have hA : ∀ q : Nat, s.heap.size ≤ q → A q := fun q h => by rw [← hAe]; exact Or.inr h
  have hS : va_S A s.heap s.heap [] := va_S.rf
  have hl := lv_entry ([.ref (b 0), .int p0, .int p1, .int p2]) (n := 5) (Nat.le_of_ble_eq_true rfl)
  rw [lg_entry_eq]
  generalize (lg_sl ([.ref (b 0), .int p0, .int p1, .int p2]) ++ List.replicate (5 - (lg_sl ([.ref (b 0), .int p0, .int p1, .int p2])).length) Slot.unset).toArray = ls at hl ⊢
  have hl : lv_has ls 5 [(0, .ref (b 0)), (1, .int p0), (2, .int p1), (3, .int p2)] := hl
  refine lv_aload_n hx hb dX9_number_0 rfl (lv_at hl 0 rfl) ?_
  refine lv_iconst (v := 0) hx hb dX9_number_1 (by decide) ?_
  refine va_put (D := (dC, dI)) (ci := 9) (v := .int 0) (ty := .int) (C := RX9) (T := TX9) (N := 67) hx hb hts hiX9 tyX9 tyX9_ok nmX9 hown hK hP hD hS 0 rfl rfl 0 (by decide) v_1 (fun _ h9 => h9) rfl (by decide +kernel) rfl rfl (Nat.le_of_ble_eq_true rfl) dX9_number_2 (fun H locs hP hD hS => ?_)
  have hP : va_P (dC, dI) vwCl (wM b j) H := hP
  have hD : va_D A (wM b j) := hD
  refine lv_aload_n hx hb dX9_number_5 rfl (lv_at hl 0 rfl) ?_
  refine lv_iload_n hx hb dX9_number_6 rfl (lv_at hl 1 rfl) ?_
  refine lv_iload_n hx hb dX9_number_7 rfl (lv_at hl 2 rfl) ?_
  refine va_calli (va_runV (As := [.int p0, .int p1]) (rest := []) ⟨hx, hb, hml, hown, hts⟩ (c_X9_isCondition l dC dI _ b j p0 p1) (cwV 2 hts g_X9_number_X9_isCondition rfl rfl rfl (by decide +kernel) ⟨Nat.le_of_ble_eq_true rfl, Nat.le_of_ble_eq_true rfl⟩) ⟨pu_bl, va_recv hK hP (ci := 9) (q0 := 0) rfl rfl, pu_in hP hK hD⟩ rfl rfl hl.1 rfl (lv_room (Nat.le_of_ble_eq_true rfl)) dX9_number_8 ⟨Nat.le_of_ble_eq_true rfl, Nat.le_of_ble_eq_true rfl⟩) hS (fun q _ h => pu_fr hS hA q h) (pu_fr hS hA) (fun r_1 u t H1 locs ht hvm hw hB hz1 hk1 hS => ?_)
  have hP := pu_keep hP hk1
  clear hk1 hz1 hB ht hvm
  generalize H1 = H at hP hS ⊢
  obtain rfl : r_1 = 0 := hw
  refine lv_if_eq (tgt := 39) hx hb dX9_number_11 (by decide) (fun _ => ?_) (fun z => absurd z (by decide))
  refine lv_iconst (v := (-1)) hx hb dX9_number_39 (by decide) ?_
  exact W.iret (v := (-1)) hx hb hr (fun t ht hW => ⟨⟨(-1), (), rfl, by first | rfl | decide | simp_all, trivial⟩, hS.F ht⟩) hS.2.2 dX9_number_40
theorem dX9_graph_0 : decode cX9_graph 0 = .ok (.aload_n 0, 1) := by decide +kernel
theorem dX9_graph_1 : decode cX9_graph 1 = .ok (.iconst 0, 1) := by decide +kernel
theorem dX9_graph_2 : decode cX9_graph 2 = .ok (.putfield 142, 3) := by decide +kernel
theorem dX9_graph_5 : decode cX9_graph 5 = .ok (.iload_n 1, 1) := by decide +kernel
theorem dX9_graph_6 : decode cX9_graph 6 = .ok (.iconst 0, 1) := by decide +kernel
theorem dX9_graph_7 : decode cX9_graph 7 = .ok (.iconst 2, 1) := by decide +kernel
theorem dX9_graph_8 : decode cX9_graph 8 = .ok (.invokestatic 152, 3) := by decide +kernel
theorem dX9_graph_11 : decode cX9_graph 11 = .ok (.ifCond .eq 15, 3) := by decide +kernel
theorem dX9_graph_14 : decode cX9_graph 14 = .ok (.aload_n 0, 1) := by decide +kernel
theorem dX9_graph_15 : decode cX9_graph 15 = .ok (.getfield 46, 3) := by decide +kernel
theorem dX9_graph_18 : decode cX9_graph 18 = .ok (.aload_n 0, 1) := by decide +kernel
theorem dX9_graph_19 : decode cX9_graph 19 = .ok (.getfield 258, 3) := by decide +kernel
theorem dX9_graph_22 : decode cX9_graph 22 = .ok (.iaload, 1) := by decide +kernel
theorem dX9_graph_23 : decode cX9_graph 23 = .ok (.ifCond .ne 5, 3) := by decide +kernel
theorem dX9_graph_26 : decode cX9_graph 26 = .ok (.iconst (-1), 1) := by decide +kernel
theorem dX9_graph_27 : decode cX9_graph 27 = .ok (.ireturn, 1) := by decide +kernel
def vs_X9_graph : List Cond := .code yX9_graph cX9_graph 3 (some .int) :: ([.fieldLink RX9 142 "ClockReachModel" "thrown" "I", .methodLink RX9 152 yX9_in, .static yX9_in, .initialized RX9, .code yX9_in cX9_in 3 (some .boolean), .fieldLink RX9 46 "ClockReachModel" "placeMany" "[I", .fieldLink RX9 258 "ClockReachModel" "bank" "I"] ++ wsX90)
theorem g_X9_graph_X9_in_any : GoodIn vs_X9_graph (va_wsS RX9 152 yX9_in vs_X9_in_any) := goodIn_r _ [2, 3, 4, 5] (by decide +kernel) (by decide +kernel)
set_option maxHeartbeats 4000000 in
set_option maxRecDepth 100000 in
theorem c_X9_graph (l : Launch) (dC : Nat → ClassId) (dI : Nat → Nat → Nat) (sz : Nat) (b : Nat → Nat) (j : Nat → ClassId) (p0 : Int32) (p1 : Int32) : Met l yX9_graph vs_X9_graph ({ frames := 1, cells := 0, slots := 0, locals := 22 }) (va_Pc [.ref (b 0), .int p0, .int p1] (pu_B (dC, dI) (wM b j) (tM j) sz)) (va_Qi (fun (r : Int32) (_ : Unit) => r = -1) (fun _ _ => True) (va_A (wM b j) sz)) 0 0 (va_A (wM b j) sz) := by
  refine Met.ofW (cc := cX9_graph) (maxL := 3) (ret := (some .int)) (by decide) rfl ?_
  intro p e s m args below meth c s₁ B hml hv
  obtain ⟨rfl, rfl, hP, hK, hD0⟩ := hv
  have hx := B.exec
  have hb := B.bytes
  have hr := B.returns
  have hts := atoms_spec (ws := vs_X9_graph) B.pre
  have v_1 := hts (.fieldLink RX9 142 "ClockReachModel" "thrown" "I") (List.mem_of_getElem? (i := 1) rfl)
  have v_6 := hts (.fieldLink RX9 46 "ClockReachModel" "placeMany" "[I") (List.mem_of_getElem? (i := 6) rfl)
  have v_7 := hts (.fieldLink RX9 258 "ClockReachModel" "bank" "I") (List.mem_of_getElem? (i := 7) rfl)
  have hown : s.vm.findClass RX9 = some m.cls := findClass_of_methodNamed B.named
  have hlocks := B.notSynchronized
  have hiX9 : ∀ w ∈ wsX90, w ∈ vs_X9_graph := fun _ h => List.mem_cons_of_mem _ (List.mem_append_right _ h)
  have hD := hD0.self (sz := s.heap.size)
  generalize hAe : va_A (wM b j) s.heap.size = A at hD ⊢
  have hA : ∀ q : Nat, s.heap.size ≤ q → A q := fun q h => by rw [← hAe]; exact Or.inr h
  have hS : va_S A s.heap s.heap [] := va_S.rf
  have hl := lv_entry ([.ref (b 0), .int p0, .int p1]) (n := 3) (Nat.le_of_ble_eq_true rfl)
  rw [lg_entry_eq]
  generalize (lg_sl ([.ref (b 0), .int p0, .int p1]) ++ List.replicate (3 - (lg_sl ([.ref (b 0), .int p0, .int p1])).length) Slot.unset).toArray = ls at hl ⊢
  have hl : lv_has ls 3 [(0, .ref (b 0)), (1, .int p0), (2, .int p1)] := hl
  refine lv_aload_n hx hb dX9_graph_0 rfl (lv_at hl 0 rfl) ?_
  refine lv_iconst (v := 0) hx hb dX9_graph_1 (by decide) ?_
  refine va_put (D := (dC, dI)) (ci := 9) (v := .int 0) (ty := .int) (C := RX9) (T := TX9) (N := 67) hx hb hts hiX9 tyX9 tyX9_ok nmX9 hown hK hP hD hS 0 rfl rfl 0 (by decide) v_1 (fun _ h9 => h9) rfl (by decide +kernel) rfl rfl (Nat.le_of_ble_eq_true rfl) dX9_graph_2 (fun H locs hP hD hS => ?_)
  have hP : va_P (dC, dI) vwCl (wM b j) H := hP
  have hD : va_D A (wM b j) := hD
  refine lv_iload_n hx hb dX9_graph_5 rfl (lv_at hl 1 rfl) ?_
  refine lv_iconst (v := 0) hx hb dX9_graph_6 (by decide) ?_
  refine lv_iconst (v := 2) hx hb dX9_graph_7 (by decide) ?_
  refine va_calli (va_runS (As := [.int p0, .int 0, .int 2]) (rest := []) ⟨hx, hb, hml, hown, hts⟩ (c_X9_in_any l dC dI _ p0 0 2) (va_cwS 3 hts g_X9_graph_X9_in_any rfl rfl rfl (by decide +kernel) ⟨Nat.le_of_ble_eq_true rfl, Nat.le_of_ble_eq_true rfl⟩) ⟨pu_bl, pu_in (hP.sub [] rfl) (hK.sub [] rfl) (hD.sub [] (by decide) rfl)⟩ rfl rfl hl.1 rfl (lv_room (Nat.le_of_ble_eq_true rfl)) dX9_graph_8 ⟨Nat.le_of_ble_eq_true rfl, Nat.le_of_ble_eq_true rfl⟩) hS (fun q _ h => pu_fr hS hA q h) (pu_fr hS hA) (fun r_1 u t H1 locs ht hvm hw hB hz1 hk1 hS => ?_)
  have hP := pu_keep hP hk1
  clear hk1 hz1 hB ht hvm
  generalize H1 = H at hP hS ⊢
  rcases hw with rfl | rfl
  · refine lv_if_eq (tgt := 26) hx hb dX9_graph_11 (by decide) (fun _ => ?_) (fun z => absurd z (by decide))
    refine lv_iconst (v := (-1)) hx hb dX9_graph_26 (by decide) ?_
    exact W.iret (v := (-1)) hx hb hr (fun t ht hW => ⟨⟨(-1), (), rfl, by first | rfl | decide | simp_all, trivial⟩, hS.F ht⟩) hS.2.2 dX9_graph_27
  · refine lv_if_eq (tgt := 26) hx hb dX9_graph_11 (by decide) (fun z => absurd z (by decide)) (fun _ => ?_)
    refine lv_aload_n hx hb dX9_graph_14 rfl (lv_at hl 0 rfl) ?_
    refine va_get (D := (dC, dI)) (ci := 9) (v := .ref (b 2)) (C := RX9) (T := TX9) (N := 67) hx hb hts hiX9 hown hK hP 0 rfl rfl 13 (by decide) v_6 (fun _ h9 => h9) rfl dX9_graph_15 ?_
    refine lv_aload_n hx hb dX9_graph_18 rfl (lv_at hl 0 rfl) ?_
    refine va_get (D := (dC, dI)) (ci := 9) (v := .int 0) (C := RX9) (T := TX9) (N := 67) hx hb hts hiX9 hown hK hP 0 rfl rfl 16 (by decide) v_7 (fun _ h9 => h9) rfl dX9_graph_19 ?_
    refine va_iald hx hb hK hP 2 1 rfl rfl (show ¬ (_ ∨ _) by decide) dX9_graph_22 ?_
    refine lv_topi (fun y_2 ey_2 => ?_)
    obtain rfl : y_2 = 0 := ey_2.trans (by first | rfl | decide)
    refine lv_if_ne (tgt := 28) hx hb dX9_graph_23 (by decide) (fun z => absurd z (by decide)) (fun _ => ?_)
    refine lv_iconst (v := (-1)) hx hb dX9_graph_26 (by decide) ?_
    exact W.iret (v := (-1)) hx hb hr (fun t ht hW => ⟨⟨(-1), (), rfl, by first | rfl | decide | simp_all, trivial⟩, hS.F ht⟩) hS.2.2 dX9_graph_27
theorem dX9_state_0 : decode cX9_state 0 = .ok (.aload_n 0, 1) := by decide +kernel
theorem dX9_state_1 : decode cX9_state 1 = .ok (.iconst 0, 1) := by decide +kernel
theorem dX9_state_2 : decode cX9_state 2 = .ok (.putfield 142, 3) := by decide +kernel
theorem dX9_state_5 : decode cX9_state 5 = .ok (.aload_n 0, 1) := by decide +kernel
theorem dX9_state_6 : decode cX9_state 6 = .ok (.iload_n 1, 1) := by decide +kernel
theorem dX9_state_7 : decode cX9_state 7 = .ok (.invokevirtual 387, 3) := by decide +kernel
theorem dX9_state_10 : decode cX9_state 10 = .ok (.ifCond .eq 12, 3) := by decide +kernel
theorem dX9_state_22 : decode cX9_state 22 = .ok (.iconst (-1), 1) := by decide +kernel
theorem dX9_state_23 : decode cX9_state 23 = .ok (.ireturn, 1) := by decide +kernel
def vs_X9_state : List Cond := .code yX9_state cX9_state 5 (some .int) :: ([.fieldLink RX9 142 "ClockReachModel" "thrown" "I", .methodLink RX9 387 yX9_isState, .instanceMethod yX9_isState, .selects RX9 yX9_isState yX9_isState, .initialized RX9, .code yX9_isState cX9_isState 2 (some .boolean), .methodLink RX9 280 yX9_clocks, .instanceMethod yX9_clocks, .selects RX9 yX9_clocks yX9_clocks, .code yX9_clocks cX9_clocks 1 (some .int), .fieldLink RX9 43 "ClockReachModel" "clockMany" "[I", .fieldLink RX9 258 "ClockReachModel" "bank" "I", .fieldLink RX9 328 "ClockReachModel" "side" "I", .fieldLink RX9 273 "ClockReachModel" "hasGraph" "Z"] ++ wsX90)
theorem g_X9_state_X9_isState : GoodIn vs_X9_state (wsV RX9 387 RX9 yX9_isState vs_X9_isState) := goodIn_r _ [2, 3, 4, 5, 6, 7, 8, 9, 5, 10, 11, 12, 13, 14, 15, 16, 17, 18, 19, 20, 21, 22, 23, 24, 25, 26, 27, 28, 29, 30, 31, 32, 33, 34, 35, 36, 37, 38, 39, 40, 41, 42, 43, 44, 45, 46, 47, 48, 49, 50, 51, 52, 53, 54, 55, 56, 57, 58, 59, 60, 61, 62, 63, 64, 65, 66, 67, 68, 69, 70, 71, 72, 73, 74, 75, 76, 77, 78, 79, 80, 81] (by decide +kernel) (by decide +kernel)
set_option maxHeartbeats 4000000 in
set_option maxRecDepth 100000 in
theorem c_X9_state (l : Launch) (dC : Nat → ClassId) (dI : Nat → Nat → Nat) (sz : Nat) (b : Nat → Nat) (j : Nat → ClassId) (p0 : Int32) (p1 : Int32) : Met l yX9_state vs_X9_state ({ frames := 2, cells := 0, slots := 0, locals := 41 }) (va_Pc [.ref (b 0), .int p0, .int p1] (pu_B (dC, dI) (wM b j) (tM j) sz)) (va_Qi (fun (r : Int32) (_ : Unit) => r = -1) (fun _ _ => True) (va_A (wM b j) sz)) 0 0 (va_A (wM b j) sz) := by
  refine Met.ofW (cc := cX9_state) (maxL := 5) (ret := (some .int)) (by decide) rfl ?_
  intro p e s m args below meth c s₁ B hml hv
  obtain ⟨rfl, rfl, hP, hK, hD0⟩ := hv
  have hx := B.exec
  have hb := B.bytes
  have hr := B.returns
  have hts := atoms_spec (ws := vs_X9_state) B.pre
  have v_1 := hts (.fieldLink RX9 142 "ClockReachModel" "thrown" "I") (List.mem_of_getElem? (i := 1) rfl)
  have hown : s.vm.findClass RX9 = some m.cls := findClass_of_methodNamed B.named
  have hlocks := B.notSynchronized
  have hiX9 : ∀ w ∈ wsX90, w ∈ vs_X9_state := fun _ h => List.mem_cons_of_mem _ (List.mem_append_right _ h)
  have hD := hD0.self (sz := s.heap.size)
  generalize hAe : va_A (wM b j) s.heap.size = A at hD ⊢
  have hA : ∀ q : Nat, s.heap.size ≤ q → A q := fun q h => by rw [← hAe]; exact Or.inr h
  have hS : va_S A s.heap s.heap [] := va_S.rf
  have hl := lv_entry ([.ref (b 0), .int p0, .int p1]) (n := 5) (Nat.le_of_ble_eq_true rfl)
  rw [lg_entry_eq]
  generalize (lg_sl ([.ref (b 0), .int p0, .int p1]) ++ List.replicate (5 - (lg_sl ([.ref (b 0), .int p0, .int p1])).length) Slot.unset).toArray = ls at hl ⊢
  have hl : lv_has ls 5 [(0, .ref (b 0)), (1, .int p0), (2, .int p1)] := hl
  refine lv_aload_n hx hb dX9_state_0 rfl (lv_at hl 0 rfl) ?_
  refine lv_iconst (v := 0) hx hb dX9_state_1 (by decide) ?_
  refine va_put (D := (dC, dI)) (ci := 9) (v := .int 0) (ty := .int) (C := RX9) (T := TX9) (N := 67) hx hb hts hiX9 tyX9 tyX9_ok nmX9 hown hK hP hD hS 0 rfl rfl 0 (by decide) v_1 (fun _ h9 => h9) rfl (by decide +kernel) rfl rfl (Nat.le_of_ble_eq_true rfl) dX9_state_2 (fun H locs hP hD hS => ?_)
  have hP : va_P (dC, dI) vwCl (wM b j) H := hP
  have hD : va_D A (wM b j) := hD
  refine lv_aload_n hx hb dX9_state_5 rfl (lv_at hl 0 rfl) ?_
  refine lv_iload_n hx hb dX9_state_6 rfl (lv_at hl 1 rfl) ?_
  have hFc := va_free (wc := [((b 0), .inr (9, [.int 0, .ref (b 10), .ref (b 11), .ref (b 12), .ref (b 13), .ref (b 14), .ref (b 15), .ref (b 16), .ref (b 17), .ref (b 18), .ref (b 19), .ref (b 20), .ref (b 1), .ref (b 2), .ref (b 3), .ref (b 4), .int 0, .ref (b 5), .int 0, .int 0, .int 0, .int 0, .int 0, .int 0, .int 0, .int (-1), .int 0, .int 0, .int 0, .int 0, .int 0, .ref (b 21), .ref (b 22), .int 0, .ref (b 23), .ref (b 24), .ref (b 25), .ref (b 26), .ref (b 27), .ref (b 28), .ref (b 29), .ref (b 30), .ref (b 31), .ref (b 32), .ref (b 33), .int 0, .int 0, .ref (b 34), .ref (b 35), .ref (b 36), .ref (b 37), .ref (b 38), .int 0, .int 0, .ref (b 39), .ref (b 40), .ref (b 41), .ref (b 42), .ref (b 43), .ref (b 44), .ref (b 45), .int 0, .int 0, .int 0, .ref (b 46), .int 0, .int 0])), ((b 1), .inl ((j 1), 2, .inl (fun _ => 0))), ((b 2), .inl ((j 2), 2, .inl (fun _ => 0))), ((b 3), .inl ((j 3), 2, .inl (fun _ => 0))), ((b 4), .inl ((j 4), 2, .inl begF)), ((b 5), .inl ((j 5), 900, .inl (fun _ => 0)))]) hD hS hA [0, 1, 2, 3, 4, 5] rfl
  refine va_calli (va_runV (As := [.int p0]) (rest := []) ⟨hx, hb, hml, hown, hts⟩ (c_X9_isState l dC dI _ b j p0) (cwV 1 hts g_X9_state_X9_isState rfl rfl rfl (by decide +kernel) ⟨Nat.le_of_ble_eq_true rfl, Nat.le_of_ble_eq_true rfl⟩) ⟨pu_bl, va_recv hK hP (ci := 9) (q0 := 0) rfl rfl, pu_in hP hK hD⟩ rfl rfl hl.1 rfl (lv_room (Nat.le_of_ble_eq_true rfl)) dX9_state_7 ⟨Nat.le_of_ble_eq_true rfl, Nat.le_of_ble_eq_true rfl⟩) hS (fun q _ h => hFc q h) hFc (fun r_1 u t H1 locs ht hvm hw hB hz1 hk1 hS => ?_)
  obtain ⟨hP, hD⟩ := va_join (wr := []) (w1 := []) hP hD [0, 1, 2, 3, 4, 5] [] rfl rfl (by decide) (by decide) hk1 hFc pu_P0 pu_D0
  clear hk1 hz1 hB ht hvm
  generalize H1 = H at hP hS ⊢
  have hP : va_P (dC, dI) vwCl [] H := hP
  have hD : va_D A [] := hD
  obtain rfl : r_1 = 0 := hw
  refine lv_if_eq (tgt := 22) hx hb dX9_state_10 (by decide) (fun _ => ?_) (fun z => absurd z (by decide))
  refine lv_iconst (v := (-1)) hx hb dX9_state_22 (by decide) ?_
  exact W.iret (v := (-1)) hx hb hr (fun t ht hW => ⟨⟨(-1), (), rfl, by first | rfl | decide | simp_all, trivial⟩, hS.F ht⟩) hS.2.2 dX9_state_23
theorem dX9_within_0 : decode cX9_within 0 = .ok (.aload_n 0, 1) := by decide +kernel
theorem dX9_within_1 : decode cX9_within 1 = .ok (.iconst 0, 1) := by decide +kernel
theorem dX9_within_2 : decode cX9_within 2 = .ok (.putfield 142, 3) := by decide +kernel
theorem dX9_within_5 : decode cX9_within 5 = .ok (.aload_n 0, 1) := by decide +kernel
theorem dX9_within_6 : decode cX9_within 6 = .ok (.iload_n 1, 1) := by decide +kernel
theorem dX9_within_7 : decode cX9_within 7 = .ok (.invokevirtual 387, 3) := by decide +kernel
theorem dX9_within_10 : decode cX9_within 10 = .ok (.ifCond .eq 11, 3) := by decide +kernel
theorem dX9_within_21 : decode cX9_within 21 = .ok (.iconst (-1), 1) := by decide +kernel
theorem dX9_within_22 : decode cX9_within 22 = .ok (.ireturn, 1) := by decide +kernel
def vs_X9_within : List Cond := .code yX9_within cX9_within 3 (some .int) :: ([.fieldLink RX9 142 "ClockReachModel" "thrown" "I", .methodLink RX9 387 yX9_isState, .instanceMethod yX9_isState, .selects RX9 yX9_isState yX9_isState, .initialized RX9, .code yX9_isState cX9_isState 2 (some .boolean), .methodLink RX9 280 yX9_clocks, .instanceMethod yX9_clocks, .selects RX9 yX9_clocks yX9_clocks, .code yX9_clocks cX9_clocks 1 (some .int), .fieldLink RX9 43 "ClockReachModel" "clockMany" "[I", .fieldLink RX9 258 "ClockReachModel" "bank" "I", .fieldLink RX9 328 "ClockReachModel" "side" "I", .fieldLink RX9 273 "ClockReachModel" "hasGraph" "Z"] ++ wsX90)
theorem g_X9_within_X9_isState : GoodIn vs_X9_within (wsV RX9 387 RX9 yX9_isState vs_X9_isState) := goodIn_r _ [2, 3, 4, 5, 6, 7, 8, 9, 5, 10, 11, 12, 13, 14, 15, 16, 17, 18, 19, 20, 21, 22, 23, 24, 25, 26, 27, 28, 29, 30, 31, 32, 33, 34, 35, 36, 37, 38, 39, 40, 41, 42, 43, 44, 45, 46, 47, 48, 49, 50, 51, 52, 53, 54, 55, 56, 57, 58, 59, 60, 61, 62, 63, 64, 65, 66, 67, 68, 69, 70, 71, 72, 73, 74, 75, 76, 77, 78, 79, 80, 81] (by decide +kernel) (by decide +kernel)
set_option maxHeartbeats 4000000 in
set_option maxRecDepth 100000 in
theorem c_X9_within (l : Launch) (dC : Nat → ClassId) (dI : Nat → Nat → Nat) (sz : Nat) (b : Nat → Nat) (j : Nat → ClassId) (p0 : Int32) (p1 : Int32) : Met l yX9_within vs_X9_within ({ frames := 2, cells := 0, slots := 0, locals := 41 }) (va_Pc [.ref (b 0), .int p0, .int p1] (pu_B (dC, dI) (wM b j) (tM j) sz)) (va_Qi (fun (r : Int32) (_ : Unit) => r = -1) (fun _ _ => True) (va_A (wM b j) sz)) 0 0 (va_A (wM b j) sz) := by
  refine Met.ofW (cc := cX9_within) (maxL := 3) (ret := (some .int)) (by decide) rfl ?_
  intro p e s m args below meth c s₁ B hml hv
  obtain ⟨rfl, rfl, hP, hK, hD0⟩ := hv
  have hx := B.exec
  have hb := B.bytes
  have hr := B.returns
  have hts := atoms_spec (ws := vs_X9_within) B.pre
  have v_1 := hts (.fieldLink RX9 142 "ClockReachModel" "thrown" "I") (List.mem_of_getElem? (i := 1) rfl)
  have hown : s.vm.findClass RX9 = some m.cls := findClass_of_methodNamed B.named
  have hlocks := B.notSynchronized
  have hiX9 : ∀ w ∈ wsX90, w ∈ vs_X9_within := fun _ h => List.mem_cons_of_mem _ (List.mem_append_right _ h)
  have hD := hD0.self (sz := s.heap.size)
  generalize hAe : va_A (wM b j) s.heap.size = A at hD ⊢
  have hA : ∀ q : Nat, s.heap.size ≤ q → A q := fun q h => by rw [← hAe]; exact Or.inr h
  have hS : va_S A s.heap s.heap [] := va_S.rf
  have hl := lv_entry ([.ref (b 0), .int p0, .int p1]) (n := 3) (Nat.le_of_ble_eq_true rfl)
  rw [lg_entry_eq]
  generalize (lg_sl ([.ref (b 0), .int p0, .int p1]) ++ List.replicate (3 - (lg_sl ([.ref (b 0), .int p0, .int p1])).length) Slot.unset).toArray = ls at hl ⊢
  have hl : lv_has ls 3 [(0, .ref (b 0)), (1, .int p0), (2, .int p1)] := hl
  refine lv_aload_n hx hb dX9_within_0 rfl (lv_at hl 0 rfl) ?_
  refine lv_iconst (v := 0) hx hb dX9_within_1 (by decide) ?_
  refine va_put (D := (dC, dI)) (ci := 9) (v := .int 0) (ty := .int) (C := RX9) (T := TX9) (N := 67) hx hb hts hiX9 tyX9 tyX9_ok nmX9 hown hK hP hD hS 0 rfl rfl 0 (by decide) v_1 (fun _ h9 => h9) rfl (by decide +kernel) rfl rfl (Nat.le_of_ble_eq_true rfl) dX9_within_2 (fun H locs hP hD hS => ?_)
  have hP : va_P (dC, dI) vwCl (wM b j) H := hP
  have hD : va_D A (wM b j) := hD
  refine lv_aload_n hx hb dX9_within_5 rfl (lv_at hl 0 rfl) ?_
  refine lv_iload_n hx hb dX9_within_6 rfl (lv_at hl 1 rfl) ?_
  have hFc := va_free (wc := [((b 0), .inr (9, [.int 0, .ref (b 10), .ref (b 11), .ref (b 12), .ref (b 13), .ref (b 14), .ref (b 15), .ref (b 16), .ref (b 17), .ref (b 18), .ref (b 19), .ref (b 20), .ref (b 1), .ref (b 2), .ref (b 3), .ref (b 4), .int 0, .ref (b 5), .int 0, .int 0, .int 0, .int 0, .int 0, .int 0, .int 0, .int (-1), .int 0, .int 0, .int 0, .int 0, .int 0, .ref (b 21), .ref (b 22), .int 0, .ref (b 23), .ref (b 24), .ref (b 25), .ref (b 26), .ref (b 27), .ref (b 28), .ref (b 29), .ref (b 30), .ref (b 31), .ref (b 32), .ref (b 33), .int 0, .int 0, .ref (b 34), .ref (b 35), .ref (b 36), .ref (b 37), .ref (b 38), .int 0, .int 0, .ref (b 39), .ref (b 40), .ref (b 41), .ref (b 42), .ref (b 43), .ref (b 44), .ref (b 45), .int 0, .int 0, .int 0, .ref (b 46), .int 0, .int 0])), ((b 1), .inl ((j 1), 2, .inl (fun _ => 0))), ((b 2), .inl ((j 2), 2, .inl (fun _ => 0))), ((b 3), .inl ((j 3), 2, .inl (fun _ => 0))), ((b 4), .inl ((j 4), 2, .inl begF)), ((b 5), .inl ((j 5), 900, .inl (fun _ => 0)))]) hD hS hA [0, 1, 2, 3, 4, 5] rfl
  refine va_calli (va_runV (As := [.int p0]) (rest := []) ⟨hx, hb, hml, hown, hts⟩ (c_X9_isState l dC dI _ b j p0) (cwV 1 hts g_X9_within_X9_isState rfl rfl rfl (by decide +kernel) ⟨Nat.le_of_ble_eq_true rfl, Nat.le_of_ble_eq_true rfl⟩) ⟨pu_bl, va_recv hK hP (ci := 9) (q0 := 0) rfl rfl, pu_in hP hK hD⟩ rfl rfl hl.1 rfl (lv_room (Nat.le_of_ble_eq_true rfl)) dX9_within_7 ⟨Nat.le_of_ble_eq_true rfl, Nat.le_of_ble_eq_true rfl⟩) hS (fun q _ h => hFc q h) hFc (fun r_1 u t H1 locs ht hvm hw hB hz1 hk1 hS => ?_)
  obtain ⟨hP, hD⟩ := va_join (wr := []) (w1 := []) hP hD [0, 1, 2, 3, 4, 5] [] rfl rfl (by decide) (by decide) hk1 hFc pu_P0 pu_D0
  clear hk1 hz1 hB ht hvm
  generalize H1 = H at hP hS ⊢
  have hP : va_P (dC, dI) vwCl [] H := hP
  have hD : va_D A [] := hD
  obtain rfl : r_1 = 0 := hw
  refine lv_if_eq (tgt := 21) hx hb dX9_within_10 (by decide) (fun _ => ?_) (fun z => absurd z (by decide))
  refine lv_iconst (v := (-1)) hx hb dX9_within_21 (by decide) ?_
  exact W.iret (v := (-1)) hx hb hr (fun t ht hW => ⟨⟨(-1), (), rfl, by first | rfl | decide | simp_all, trivial⟩, hS.F ht⟩) hS.2.2 dX9_within_22
theorem dX9_has_0 : decode cX9_has 0 = .ok (.aload_n 0, 1) := by decide +kernel
theorem dX9_has_1 : decode cX9_has 1 = .ok (.iconst 0, 1) := by decide +kernel
theorem dX9_has_2 : decode cX9_has 2 = .ok (.putfield 142, 3) := by decide +kernel
theorem dX9_has_5 : decode cX9_has 5 = .ok (.aload_n 0, 1) := by decide +kernel
theorem dX9_has_6 : decode cX9_has 6 = .ok (.iload_n 1, 1) := by decide +kernel
theorem dX9_has_7 : decode cX9_has 7 = .ok (.invokevirtual 387, 3) := by decide +kernel
theorem dX9_has_10 : decode cX9_has 10 = .ok (.ifCond .ne 5, 3) := by decide +kernel
theorem dX9_has_13 : decode cX9_has 13 = .ok (.iconst (-1), 1) := by decide +kernel
theorem dX9_has_14 : decode cX9_has 14 = .ok (.ireturn, 1) := by decide +kernel
def vs_X9_has : List Cond := .code yX9_has cX9_has 5 (some .int) :: ([.fieldLink RX9 142 "ClockReachModel" "thrown" "I", .methodLink RX9 387 yX9_isState, .instanceMethod yX9_isState, .selects RX9 yX9_isState yX9_isState, .initialized RX9, .code yX9_isState cX9_isState 2 (some .boolean), .methodLink RX9 280 yX9_clocks, .instanceMethod yX9_clocks, .selects RX9 yX9_clocks yX9_clocks, .code yX9_clocks cX9_clocks 1 (some .int), .fieldLink RX9 43 "ClockReachModel" "clockMany" "[I", .fieldLink RX9 258 "ClockReachModel" "bank" "I", .fieldLink RX9 328 "ClockReachModel" "side" "I", .fieldLink RX9 273 "ClockReachModel" "hasGraph" "Z"] ++ wsX90)
theorem g_X9_has_X9_isState : GoodIn vs_X9_has (wsV RX9 387 RX9 yX9_isState vs_X9_isState) := goodIn_r _ [2, 3, 4, 5, 6, 7, 8, 9, 5, 10, 11, 12, 13, 14, 15, 16, 17, 18, 19, 20, 21, 22, 23, 24, 25, 26, 27, 28, 29, 30, 31, 32, 33, 34, 35, 36, 37, 38, 39, 40, 41, 42, 43, 44, 45, 46, 47, 48, 49, 50, 51, 52, 53, 54, 55, 56, 57, 58, 59, 60, 61, 62, 63, 64, 65, 66, 67, 68, 69, 70, 71, 72, 73, 74, 75, 76, 77, 78, 79, 80, 81] (by decide +kernel) (by decide +kernel)
set_option maxHeartbeats 4000000 in
set_option maxRecDepth 100000 in
theorem c_X9_has (l : Launch) (dC : Nat → ClassId) (dI : Nat → Nat → Nat) (sz : Nat) (b : Nat → Nat) (j : Nat → ClassId) (p0 : Int32) (p1 : Int32) (p2 : Int32) (p3 : Int32) : Met l yX9_has vs_X9_has ({ frames := 2, cells := 0, slots := 0, locals := 41 }) (va_Pc [.ref (b 0), .int p0, .int p1, .int p2, .int p3] (pu_B (dC, dI) (wM b j) (tM j) sz)) (va_Qi (fun (r : Int32) (_ : Unit) => r = -1) (fun _ _ => True) (va_A (wM b j) sz)) 0 0 (va_A (wM b j) sz) := by
  refine Met.ofW (cc := cX9_has) (maxL := 5) (ret := (some .int)) (by decide) rfl ?_
  intro p e s m args below meth c s₁ B hml hv
  obtain ⟨rfl, rfl, hP, hK, hD0⟩ := hv
  have hx := B.exec
  have hb := B.bytes
  have hr := B.returns
  have hts := atoms_spec (ws := vs_X9_has) B.pre
  have v_1 := hts (.fieldLink RX9 142 "ClockReachModel" "thrown" "I") (List.mem_of_getElem? (i := 1) rfl)
  have hown : s.vm.findClass RX9 = some m.cls := findClass_of_methodNamed B.named
  have hlocks := B.notSynchronized
  have hiX9 : ∀ w ∈ wsX90, w ∈ vs_X9_has := fun _ h => List.mem_cons_of_mem _ (List.mem_append_right _ h)
  have hD := hD0.self (sz := s.heap.size)
  generalize hAe : va_A (wM b j) s.heap.size = A at hD ⊢
  have hA : ∀ q : Nat, s.heap.size ≤ q → A q := fun q h => by rw [← hAe]; exact Or.inr h
  have hS : va_S A s.heap s.heap [] := va_S.rf
  have hl := lv_entry ([.ref (b 0), .int p0, .int p1, .int p2, .int p3]) (n := 5) (Nat.le_of_ble_eq_true rfl)
  rw [lg_entry_eq]
  generalize (lg_sl ([.ref (b 0), .int p0, .int p1, .int p2, .int p3]) ++ List.replicate (5 - (lg_sl ([.ref (b 0), .int p0, .int p1, .int p2, .int p3])).length) Slot.unset).toArray = ls at hl ⊢
  have hl : lv_has ls 5 [(0, .ref (b 0)), (1, .int p0), (2, .int p1), (3, .int p2), (4, .int p3)] := hl
  refine lv_aload_n hx hb dX9_has_0 rfl (lv_at hl 0 rfl) ?_
  refine lv_iconst (v := 0) hx hb dX9_has_1 (by decide) ?_
  refine va_put (D := (dC, dI)) (ci := 9) (v := .int 0) (ty := .int) (C := RX9) (T := TX9) (N := 67) hx hb hts hiX9 tyX9 tyX9_ok nmX9 hown hK hP hD hS 0 rfl rfl 0 (by decide) v_1 (fun _ h9 => h9) rfl (by decide +kernel) rfl rfl (Nat.le_of_ble_eq_true rfl) dX9_has_2 (fun H locs hP hD hS => ?_)
  have hP : va_P (dC, dI) vwCl (wM b j) H := hP
  have hD : va_D A (wM b j) := hD
  refine lv_aload_n hx hb dX9_has_5 rfl (lv_at hl 0 rfl) ?_
  refine lv_iload_n hx hb dX9_has_6 rfl (lv_at hl 1 rfl) ?_
  have hFc := va_free (wc := [((b 0), .inr (9, [.int 0, .ref (b 10), .ref (b 11), .ref (b 12), .ref (b 13), .ref (b 14), .ref (b 15), .ref (b 16), .ref (b 17), .ref (b 18), .ref (b 19), .ref (b 20), .ref (b 1), .ref (b 2), .ref (b 3), .ref (b 4), .int 0, .ref (b 5), .int 0, .int 0, .int 0, .int 0, .int 0, .int 0, .int 0, .int (-1), .int 0, .int 0, .int 0, .int 0, .int 0, .ref (b 21), .ref (b 22), .int 0, .ref (b 23), .ref (b 24), .ref (b 25), .ref (b 26), .ref (b 27), .ref (b 28), .ref (b 29), .ref (b 30), .ref (b 31), .ref (b 32), .ref (b 33), .int 0, .int 0, .ref (b 34), .ref (b 35), .ref (b 36), .ref (b 37), .ref (b 38), .int 0, .int 0, .ref (b 39), .ref (b 40), .ref (b 41), .ref (b 42), .ref (b 43), .ref (b 44), .ref (b 45), .int 0, .int 0, .int 0, .ref (b 46), .int 0, .int 0])), ((b 1), .inl ((j 1), 2, .inl (fun _ => 0))), ((b 2), .inl ((j 2), 2, .inl (fun _ => 0))), ((b 3), .inl ((j 3), 2, .inl (fun _ => 0))), ((b 4), .inl ((j 4), 2, .inl begF)), ((b 5), .inl ((j 5), 900, .inl (fun _ => 0)))]) hD hS hA [0, 1, 2, 3, 4, 5] rfl
  refine va_calli (va_runV (As := [.int p0]) (rest := []) ⟨hx, hb, hml, hown, hts⟩ (c_X9_isState l dC dI _ b j p0) (cwV 1 hts g_X9_has_X9_isState rfl rfl rfl (by decide +kernel) ⟨Nat.le_of_ble_eq_true rfl, Nat.le_of_ble_eq_true rfl⟩) ⟨pu_bl, va_recv hK hP (ci := 9) (q0 := 0) rfl rfl, pu_in hP hK hD⟩ rfl rfl hl.1 rfl (lv_room (Nat.le_of_ble_eq_true rfl)) dX9_has_7 ⟨Nat.le_of_ble_eq_true rfl, Nat.le_of_ble_eq_true rfl⟩) hS (fun q _ h => hFc q h) hFc (fun r_1 u t H1 locs ht hvm hw hB hz1 hk1 hS => ?_)
  obtain ⟨hP, hD⟩ := va_join (wr := []) (w1 := []) hP hD [0, 1, 2, 3, 4, 5] [] rfl rfl (by decide) (by decide) hk1 hFc pu_P0 pu_D0
  clear hk1 hz1 hB ht hvm
  generalize H1 = H at hP hS ⊢
  have hP : va_P (dC, dI) vwCl [] H := hP
  have hD : va_D A [] := hD
  obtain rfl : r_1 = 0 := hw
  refine lv_if_ne (tgt := 15) hx hb dX9_has_10 (by decide) (fun z => absurd z (by decide)) (fun _ => ?_)
  refine lv_iconst (v := (-1)) hx hb dX9_has_13 (by decide) ?_
  exact W.iret (v := (-1)) hx hb hr (fun t ht hW => ⟨⟨(-1), (), rfl, by first | rfl | decide | simp_all, trivial⟩, hS.F ht⟩) hS.2.2 dX9_has_14
theorem dX9_first_0 : decode cX9_first 0 = .ok (.aload_n 0, 1) := by decide +kernel
theorem dX9_first_1 : decode cX9_first 1 = .ok (.iconst 0, 1) := by decide +kernel
theorem dX9_first_2 : decode cX9_first 2 = .ok (.putfield 142, 3) := by decide +kernel
theorem dX9_first_5 : decode cX9_first 5 = .ok (.iconst 0, 1) := by decide +kernel
theorem dX9_first_6 : decode cX9_first 6 = .ok (.istore_n 2, 1) := by decide +kernel
theorem dX9_first_7 : decode cX9_first 7 = .ok (.aload_n 0, 1) := by decide +kernel
theorem dX9_first_8 : decode cX9_first 8 = .ok (.getfield 273, 3) := by decide +kernel
theorem dX9_first_11 : decode cX9_first 11 = .ok (.ifCond .eq 39, 3) := by decide +kernel
theorem dX9_first_50 : decode cX9_first 50 = .ok (.iconst (-1), 1) := by decide +kernel
theorem dX9_first_51 : decode cX9_first 51 = .ok (.ireturn, 1) := by decide +kernel
def vs_X9_first : List Cond := .code yX9_first cX9_first 3 (some .int) :: ([.fieldLink RX9 142 "ClockReachModel" "thrown" "I", .fieldLink RX9 273 "ClockReachModel" "hasGraph" "Z"] ++ wsX90)
set_option maxHeartbeats 4000000 in
set_option maxRecDepth 100000 in
theorem c_X9_first (l : Launch) (dC : Nat → ClassId) (dI : Nat → Nat → Nat) (sz : Nat) (b : Nat → Nat) (j : Nat → ClassId) (p0 : Int32) : Met l yX9_first vs_X9_first ({ frames := 0, cells := 0, slots := 0, locals := 0 }) (va_Pc [.ref (b 0), .int p0] (pu_B (dC, dI) (wM b j) (tM j) sz)) (va_Qi (fun (r : Int32) (_ : Unit) => r = -1) (fun _ _ => True) (va_A (wM b j) sz)) 0 0 (va_A (wM b j) sz) := by
  refine Met.ofW (cc := cX9_first) (maxL := 3) (ret := (some .int)) (by decide) rfl ?_
  intro p e s m args below meth c s₁ B hml hv
  obtain ⟨rfl, rfl, hP, hK, hD0⟩ := hv
  have hx := B.exec
  have hb := B.bytes
  have hr := B.returns
  have hts := atoms_spec (ws := vs_X9_first) B.pre
  have v_1 := hts (.fieldLink RX9 142 "ClockReachModel" "thrown" "I") (List.mem_of_getElem? (i := 1) rfl)
  have v_2 := hts (.fieldLink RX9 273 "ClockReachModel" "hasGraph" "Z") (List.mem_of_getElem? (i := 2) rfl)
  have hown : s.vm.findClass RX9 = some m.cls := findClass_of_methodNamed B.named
  have hlocks := B.notSynchronized
  have hiX9 : ∀ w ∈ wsX90, w ∈ vs_X9_first := fun _ h => List.mem_cons_of_mem _ (List.mem_append_right _ h)
  have hD := hD0.self (sz := s.heap.size)
  generalize hAe : va_A (wM b j) s.heap.size = A at hD ⊢
  have hA : ∀ q : Nat, s.heap.size ≤ q → A q := fun q h => by rw [← hAe]; exact Or.inr h
  have hS : va_S A s.heap s.heap [] := va_S.rf
  have hl := lv_entry ([.ref (b 0), .int p0]) (n := 3) (Nat.le_of_ble_eq_true rfl)
  rw [lg_entry_eq]
  generalize (lg_sl ([.ref (b 0), .int p0]) ++ List.replicate (3 - (lg_sl ([.ref (b 0), .int p0])).length) Slot.unset).toArray = ls at hl ⊢
  have hl : lv_has ls 3 [(0, .ref (b 0)), (1, .int p0)] := hl
  refine lv_aload_n hx hb dX9_first_0 rfl (lv_at hl 0 rfl) ?_
  refine lv_iconst (v := 0) hx hb dX9_first_1 (by decide) ?_
  refine va_put (D := (dC, dI)) (ci := 9) (v := .int 0) (ty := .int) (C := RX9) (T := TX9) (N := 67) hx hb hts hiX9 tyX9 tyX9_ok nmX9 hown hK hP hD hS 0 rfl rfl 0 (by decide) v_1 (fun _ h9 => h9) rfl (by decide +kernel) rfl rfl (Nat.le_of_ble_eq_true rfl) dX9_first_2 (fun H locs hP hD hS => ?_)
  have hP : va_P (dC, dI) vwCl (wM b j) H := hP
  have hD : va_D A (wM b j) := hD
  refine lv_iconst (v := 0) hx hb dX9_first_5 (by decide) ?_
  refine lv_istore_n (lv' := [(2, .int 0), (0, .ref (b 0)), (1, .int p0)]) hx hb dX9_first_6 rfl hl (by decide) rfl (fun ls hl => ?_)
  refine lv_aload_n hx hb dX9_first_7 rfl (lv_at hl 1 rfl) ?_
  refine va_get (D := (dC, dI)) (ci := 9) (v := .int 0) (C := RX9) (T := TX9) (N := 67) hx hb hts hiX9 hown hK hP 0 rfl rfl 29 (by decide) v_2 (fun _ h9 => h9) rfl dX9_first_8 ?_
  refine lv_if_eq (tgt := 50) hx hb dX9_first_11 (by decide) (fun _ => ?_) (fun z => absurd z (by decide))
  refine lv_iconst (v := (-1)) hx hb dX9_first_50 (by decide) ?_
  exact W.iret (v := (-1)) hx hb hr (fun t ht hW => ⟨⟨(-1), (), rfl, by first | rfl | decide | simp_all, trivial⟩, hS.F ht⟩) hS.2.2 dX9_first_51
theorem dX9_reached_0 : decode cX9_reached 0 = .ok (.aload_n 0, 1) := by decide +kernel
theorem dX9_reached_1 : decode cX9_reached 1 = .ok (.iconst 0, 1) := by decide +kernel
theorem dX9_reached_2 : decode cX9_reached 2 = .ok (.putfield 142, 3) := by decide +kernel
theorem dX9_reached_5 : decode cX9_reached 5 = .ok (.iconst 0, 1) := by decide +kernel
theorem dX9_reached_6 : decode cX9_reached 6 = .ok (.istore_n 1, 1) := by decide +kernel
theorem dX9_reached_7 : decode cX9_reached 7 = .ok (.iconst 0, 1) := by decide +kernel
theorem dX9_reached_8 : decode cX9_reached 8 = .ok (.istore_n 2, 1) := by decide +kernel
theorem dX9_reached_9 : decode cX9_reached 9 = .ok (.aload_n 0, 1) := by decide +kernel
theorem dX9_reached_10 : decode cX9_reached 10 = .ok (.getfield 273, 3) := by decide +kernel
theorem dX9_reached_13 : decode cX9_reached 13 = .ok (.ifCond .eq 30, 3) := by decide +kernel
theorem dX9_reached_43 : decode cX9_reached 43 = .ok (.aload_n 0, 1) := by decide +kernel
theorem dX9_reached_44 : decode cX9_reached 44 = .ok (.getfield 273, 3) := by decide +kernel
theorem dX9_reached_47 : decode cX9_reached 47 = .ok (.ifCond .eq 7, 3) := by decide +kernel
theorem dX9_reached_54 : decode cX9_reached 54 = .ok (.iconst (-1), 1) := by decide +kernel
theorem dX9_reached_55 : decode cX9_reached 55 = .ok (.ireturn, 1) := by decide +kernel
def vs_X9_reached : List Cond := .code yX9_reached cX9_reached 3 (some .int) :: ([.fieldLink RX9 142 "ClockReachModel" "thrown" "I", .fieldLink RX9 273 "ClockReachModel" "hasGraph" "Z"] ++ wsX90)
set_option maxHeartbeats 4000000 in
set_option maxRecDepth 100000 in
theorem c_X9_reached (l : Launch) (dC : Nat → ClassId) (dI : Nat → Nat → Nat) (sz : Nat) (b : Nat → Nat) (j : Nat → ClassId) : Met l yX9_reached vs_X9_reached ({ frames := 0, cells := 0, slots := 0, locals := 0 }) (va_Pc [.ref (b 0)] (pu_B (dC, dI) (wM b j) (tM j) sz)) (va_Qi (fun (r : Int32) (_ : Unit) => r = -1) (fun _ _ => True) (va_A (wM b j) sz)) 0 0 (va_A (wM b j) sz) := by
  refine Met.ofW (cc := cX9_reached) (maxL := 3) (ret := (some .int)) (by decide) rfl ?_
  intro p e s m args below meth c s₁ B hml hv
  obtain ⟨rfl, rfl, hP, hK, hD0⟩ := hv
  have hx := B.exec
  have hb := B.bytes
  have hr := B.returns
  have hts := atoms_spec (ws := vs_X9_reached) B.pre
  have v_1 := hts (.fieldLink RX9 142 "ClockReachModel" "thrown" "I") (List.mem_of_getElem? (i := 1) rfl)
  have v_2 := hts (.fieldLink RX9 273 "ClockReachModel" "hasGraph" "Z") (List.mem_of_getElem? (i := 2) rfl)
  have hown : s.vm.findClass RX9 = some m.cls := findClass_of_methodNamed B.named
  have hlocks := B.notSynchronized
  have hiX9 : ∀ w ∈ wsX90, w ∈ vs_X9_reached := fun _ h => List.mem_cons_of_mem _ (List.mem_append_right _ h)
  have hD := hD0.self (sz := s.heap.size)
  generalize hAe : va_A (wM b j) s.heap.size = A at hD ⊢
  have hA : ∀ q : Nat, s.heap.size ≤ q → A q := fun q h => by rw [← hAe]; exact Or.inr h
  have hS : va_S A s.heap s.heap [] := va_S.rf
  have hl := lv_entry ([.ref (b 0)]) (n := 3) (Nat.le_of_ble_eq_true rfl)
  rw [lg_entry_eq]
  generalize (lg_sl ([.ref (b 0)]) ++ List.replicate (3 - (lg_sl ([.ref (b 0)])).length) Slot.unset).toArray = ls at hl ⊢
  have hl : lv_has ls 3 [(0, .ref (b 0))] := hl
  refine lv_aload_n hx hb dX9_reached_0 rfl (lv_at hl 0 rfl) ?_
  refine lv_iconst (v := 0) hx hb dX9_reached_1 (by decide) ?_
  refine va_put (D := (dC, dI)) (ci := 9) (v := .int 0) (ty := .int) (C := RX9) (T := TX9) (N := 67) hx hb hts hiX9 tyX9 tyX9_ok nmX9 hown hK hP hD hS 0 rfl rfl 0 (by decide) v_1 (fun _ h9 => h9) rfl (by decide +kernel) rfl rfl (Nat.le_of_ble_eq_true rfl) dX9_reached_2 (fun H locs hP hD hS => ?_)
  have hP : va_P (dC, dI) vwCl (wM b j) H := hP
  have hD : va_D A (wM b j) := hD
  refine lv_iconst (v := 0) hx hb dX9_reached_5 (by decide) ?_
  refine lv_istore_n (lv' := [(1, .int 0), (0, .ref (b 0))]) hx hb dX9_reached_6 rfl hl (by decide) rfl (fun ls hl => ?_)
  refine lv_iconst (v := 0) hx hb dX9_reached_7 (by decide) ?_
  refine lv_istore_n (lv' := [(2, .int 0), (1, .int 0), (0, .ref (b 0))]) hx hb dX9_reached_8 rfl hl (by decide) rfl (fun ls hl => ?_)
  refine lv_aload_n hx hb dX9_reached_9 rfl (lv_at hl 2 rfl) ?_
  refine va_get (D := (dC, dI)) (ci := 9) (v := .int 0) (C := RX9) (T := TX9) (N := 67) hx hb hts hiX9 hown hK hP 0 rfl rfl 29 (by decide) v_2 (fun _ h9 => h9) rfl dX9_reached_10 ?_
  refine lv_if_eq (tgt := 43) hx hb dX9_reached_13 (by decide) (fun _ => ?_) (fun z => absurd z (by decide))
  refine lv_aload_n hx hb dX9_reached_43 rfl (lv_at hl 2 rfl) ?_
  refine va_get (D := (dC, dI)) (ci := 9) (v := .int 0) (C := RX9) (T := TX9) (N := 67) hx hb hts hiX9 hown hK hP 0 rfl rfl 29 (by decide) v_2 (fun _ h9 => h9) rfl dX9_reached_44 ?_
  refine lv_if_eq (tgt := 54) hx hb dX9_reached_47 (by decide) (fun _ => ?_) (fun z => absurd z (by decide))
  refine lv_iconst (v := (-1)) hx hb dX9_reached_54 (by decide) ?_
  exact W.iret (v := (-1)) hx hb hr (fun t ht hW => ⟨⟨(-1), (), rfl, by first | rfl | decide | simp_all, trivial⟩, hS.F ht⟩) hS.2.2 dX9_reached_55
theorem dX9_taken_0 : decode cX9_taken 0 = .ok (.aload_n 0, 1) := by decide +kernel
theorem dX9_taken_1 : decode cX9_taken 1 = .ok (.iconst 0, 1) := by decide +kernel
theorem dX9_taken_2 : decode cX9_taken 2 = .ok (.putfield 142, 3) := by decide +kernel
theorem dX9_taken_5 : decode cX9_taken 5 = .ok (.aload_n 0, 1) := by decide +kernel
theorem dX9_taken_6 : decode cX9_taken 6 = .ok (.getfield 273, 3) := by decide +kernel
theorem dX9_taken_9 : decode cX9_taken 9 = .ok (.ifCond .eq 12, 3) := by decide +kernel
theorem dX9_taken_21 : decode cX9_taken 21 = .ok (.iconst (-1), 1) := by decide +kernel
theorem dX9_taken_22 : decode cX9_taken 22 = .ok (.ireturn, 1) := by decide +kernel
def vs_X9_taken : List Cond := .code yX9_taken cX9_taken 1 (some .int) :: ([.fieldLink RX9 142 "ClockReachModel" "thrown" "I", .fieldLink RX9 273 "ClockReachModel" "hasGraph" "Z"] ++ wsX90)
set_option maxHeartbeats 4000000 in
set_option maxRecDepth 100000 in
theorem c_X9_taken (l : Launch) (dC : Nat → ClassId) (dI : Nat → Nat → Nat) (sz : Nat) (b : Nat → Nat) (j : Nat → ClassId) : Met l yX9_taken vs_X9_taken ({ frames := 0, cells := 0, slots := 0, locals := 0 }) (va_Pc [.ref (b 0)] (pu_B (dC, dI) (wM b j) (tM j) sz)) (va_Qi (fun (r : Int32) (_ : Unit) => r = -1) (fun _ _ => True) (va_A (wM b j) sz)) 0 0 (va_A (wM b j) sz) := by
  refine Met.ofW (cc := cX9_taken) (maxL := 1) (ret := (some .int)) (by decide) rfl ?_
  intro p e s m args below meth c s₁ B hml hv
  obtain ⟨rfl, rfl, hP, hK, hD0⟩ := hv
  have hx := B.exec
  have hb := B.bytes
  have hr := B.returns
  have hts := atoms_spec (ws := vs_X9_taken) B.pre
  have v_1 := hts (.fieldLink RX9 142 "ClockReachModel" "thrown" "I") (List.mem_of_getElem? (i := 1) rfl)
  have v_2 := hts (.fieldLink RX9 273 "ClockReachModel" "hasGraph" "Z") (List.mem_of_getElem? (i := 2) rfl)
  have hown : s.vm.findClass RX9 = some m.cls := findClass_of_methodNamed B.named
  have hlocks := B.notSynchronized
  have hiX9 : ∀ w ∈ wsX90, w ∈ vs_X9_taken := fun _ h => List.mem_cons_of_mem _ (List.mem_append_right _ h)
  have hD := hD0.self (sz := s.heap.size)
  generalize hAe : va_A (wM b j) s.heap.size = A at hD ⊢
  have hA : ∀ q : Nat, s.heap.size ≤ q → A q := fun q h => by rw [← hAe]; exact Or.inr h
  have hS : va_S A s.heap s.heap [] := va_S.rf
  have hl := lv_entry ([.ref (b 0)]) (n := 1) (Nat.le_of_ble_eq_true rfl)
  rw [lg_entry_eq]
  generalize (lg_sl ([.ref (b 0)]) ++ List.replicate (1 - (lg_sl ([.ref (b 0)])).length) Slot.unset).toArray = ls at hl ⊢
  have hl : lv_has ls 1 [(0, .ref (b 0))] := hl
  refine lv_aload_n hx hb dX9_taken_0 rfl (lv_at hl 0 rfl) ?_
  refine lv_iconst (v := 0) hx hb dX9_taken_1 (by decide) ?_
  refine va_put (D := (dC, dI)) (ci := 9) (v := .int 0) (ty := .int) (C := RX9) (T := TX9) (N := 67) hx hb hts hiX9 tyX9 tyX9_ok nmX9 hown hK hP hD hS 0 rfl rfl 0 (by decide) v_1 (fun _ h9 => h9) rfl (by decide +kernel) rfl rfl (Nat.le_of_ble_eq_true rfl) dX9_taken_2 (fun H locs hP hD hS => ?_)
  have hP : va_P (dC, dI) vwCl (wM b j) H := hP
  have hD : va_D A (wM b j) := hD
  refine lv_aload_n hx hb dX9_taken_5 rfl (lv_at hl 0 rfl) ?_
  refine va_get (D := (dC, dI)) (ci := 9) (v := .int 0) (C := RX9) (T := TX9) (N := 67) hx hb hts hiX9 hown hK hP 0 rfl rfl 29 (by decide) v_2 (fun _ h9 => h9) rfl dX9_taken_6 ?_
  refine lv_if_eq (tgt := 21) hx hb dX9_taken_9 (by decide) (fun _ => ?_) (fun z => absurd z (by decide))
  refine lv_iconst (v := (-1)) hx hb dX9_taken_21 (by decide) ?_
  exact W.iret (v := (-1)) hx hb hr (fun t ht hW => ⟨⟨(-1), (), rfl, by first | rfl | decide | simp_all, trivial⟩, hS.F ht⟩) hS.2.2 dX9_taken_22
theorem dX9_overlap_0 : decode cX9_overlap 0 = .ok (.aload_n 0, 1) := by decide +kernel
theorem dX9_overlap_1 : decode cX9_overlap 1 = .ok (.iconst 0, 1) := by decide +kernel
theorem dX9_overlap_2 : decode cX9_overlap 2 = .ok (.putfield 142, 3) := by decide +kernel
theorem dX9_overlap_5 : decode cX9_overlap 5 = .ok (.aload_n 0, 1) := by decide +kernel
theorem dX9_overlap_6 : decode cX9_overlap 6 = .ok (.iload_n 1, 1) := by decide +kernel
theorem dX9_overlap_7 : decode cX9_overlap 7 = .ok (.invokevirtual 387, 3) := by decide +kernel
theorem dX9_overlap_10 : decode cX9_overlap 10 = .ok (.ifCond .eq 11, 3) := by decide +kernel
theorem dX9_overlap_21 : decode cX9_overlap 21 = .ok (.iconst (-1), 1) := by decide +kernel
theorem dX9_overlap_22 : decode cX9_overlap 22 = .ok (.ireturn, 1) := by decide +kernel
def vs_X9_overlap : List Cond := .code yX9_overlap cX9_overlap 4 (some .int) :: ([.fieldLink RX9 142 "ClockReachModel" "thrown" "I", .methodLink RX9 387 yX9_isState, .instanceMethod yX9_isState, .selects RX9 yX9_isState yX9_isState, .initialized RX9, .code yX9_isState cX9_isState 2 (some .boolean), .methodLink RX9 280 yX9_clocks, .instanceMethod yX9_clocks, .selects RX9 yX9_clocks yX9_clocks, .code yX9_clocks cX9_clocks 1 (some .int), .fieldLink RX9 43 "ClockReachModel" "clockMany" "[I", .fieldLink RX9 258 "ClockReachModel" "bank" "I", .fieldLink RX9 328 "ClockReachModel" "side" "I", .fieldLink RX9 273 "ClockReachModel" "hasGraph" "Z"] ++ wsX90)
theorem g_X9_overlap_X9_isState : GoodIn vs_X9_overlap (wsV RX9 387 RX9 yX9_isState vs_X9_isState) := goodIn_r _ [2, 3, 4, 5, 6, 7, 8, 9, 5, 10, 11, 12, 13, 14, 15, 16, 17, 18, 19, 20, 21, 22, 23, 24, 25, 26, 27, 28, 29, 30, 31, 32, 33, 34, 35, 36, 37, 38, 39, 40, 41, 42, 43, 44, 45, 46, 47, 48, 49, 50, 51, 52, 53, 54, 55, 56, 57, 58, 59, 60, 61, 62, 63, 64, 65, 66, 67, 68, 69, 70, 71, 72, 73, 74, 75, 76, 77, 78, 79, 80, 81] (by decide +kernel) (by decide +kernel)
set_option maxHeartbeats 4000000 in
set_option maxRecDepth 100000 in
theorem c_X9_overlap (l : Launch) (dC : Nat → ClassId) (dI : Nat → Nat → Nat) (sz : Nat) (b : Nat → Nat) (j : Nat → ClassId) (p0 : Int32) (p1 : Int32) : Met l yX9_overlap vs_X9_overlap ({ frames := 2, cells := 0, slots := 0, locals := 41 }) (va_Pc [.ref (b 0), .int p0, .int p1] (pu_B (dC, dI) (wM b j) (tM j) sz)) (va_Qi (fun (r : Int32) (_ : Unit) => r = -1) (fun _ _ => True) (va_A (wM b j) sz)) 0 0 (va_A (wM b j) sz) := by
  refine Met.ofW (cc := cX9_overlap) (maxL := 4) (ret := (some .int)) (by decide) rfl ?_
  intro p e s m args below meth c s₁ B hml hv
  obtain ⟨rfl, rfl, hP, hK, hD0⟩ := hv
  have hx := B.exec
  have hb := B.bytes
  have hr := B.returns
  have hts := atoms_spec (ws := vs_X9_overlap) B.pre
  have v_1 := hts (.fieldLink RX9 142 "ClockReachModel" "thrown" "I") (List.mem_of_getElem? (i := 1) rfl)
  have hown : s.vm.findClass RX9 = some m.cls := findClass_of_methodNamed B.named
  have hlocks := B.notSynchronized
  have hiX9 : ∀ w ∈ wsX90, w ∈ vs_X9_overlap := fun _ h => List.mem_cons_of_mem _ (List.mem_append_right _ h)
  have hD := hD0.self (sz := s.heap.size)
  generalize hAe : va_A (wM b j) s.heap.size = A at hD ⊢
  have hA : ∀ q : Nat, s.heap.size ≤ q → A q := fun q h => by rw [← hAe]; exact Or.inr h
  have hS : va_S A s.heap s.heap [] := va_S.rf
  have hl := lv_entry ([.ref (b 0), .int p0, .int p1]) (n := 4) (Nat.le_of_ble_eq_true rfl)
  rw [lg_entry_eq]
  generalize (lg_sl ([.ref (b 0), .int p0, .int p1]) ++ List.replicate (4 - (lg_sl ([.ref (b 0), .int p0, .int p1])).length) Slot.unset).toArray = ls at hl ⊢
  have hl : lv_has ls 4 [(0, .ref (b 0)), (1, .int p0), (2, .int p1)] := hl
  refine lv_aload_n hx hb dX9_overlap_0 rfl (lv_at hl 0 rfl) ?_
  refine lv_iconst (v := 0) hx hb dX9_overlap_1 (by decide) ?_
  refine va_put (D := (dC, dI)) (ci := 9) (v := .int 0) (ty := .int) (C := RX9) (T := TX9) (N := 67) hx hb hts hiX9 tyX9 tyX9_ok nmX9 hown hK hP hD hS 0 rfl rfl 0 (by decide) v_1 (fun _ h9 => h9) rfl (by decide +kernel) rfl rfl (Nat.le_of_ble_eq_true rfl) dX9_overlap_2 (fun H locs hP hD hS => ?_)
  have hP : va_P (dC, dI) vwCl (wM b j) H := hP
  have hD : va_D A (wM b j) := hD
  refine lv_aload_n hx hb dX9_overlap_5 rfl (lv_at hl 0 rfl) ?_
  refine lv_iload_n hx hb dX9_overlap_6 rfl (lv_at hl 1 rfl) ?_
  have hFc := va_free (wc := [((b 0), .inr (9, [.int 0, .ref (b 10), .ref (b 11), .ref (b 12), .ref (b 13), .ref (b 14), .ref (b 15), .ref (b 16), .ref (b 17), .ref (b 18), .ref (b 19), .ref (b 20), .ref (b 1), .ref (b 2), .ref (b 3), .ref (b 4), .int 0, .ref (b 5), .int 0, .int 0, .int 0, .int 0, .int 0, .int 0, .int 0, .int (-1), .int 0, .int 0, .int 0, .int 0, .int 0, .ref (b 21), .ref (b 22), .int 0, .ref (b 23), .ref (b 24), .ref (b 25), .ref (b 26), .ref (b 27), .ref (b 28), .ref (b 29), .ref (b 30), .ref (b 31), .ref (b 32), .ref (b 33), .int 0, .int 0, .ref (b 34), .ref (b 35), .ref (b 36), .ref (b 37), .ref (b 38), .int 0, .int 0, .ref (b 39), .ref (b 40), .ref (b 41), .ref (b 42), .ref (b 43), .ref (b 44), .ref (b 45), .int 0, .int 0, .int 0, .ref (b 46), .int 0, .int 0])), ((b 1), .inl ((j 1), 2, .inl (fun _ => 0))), ((b 2), .inl ((j 2), 2, .inl (fun _ => 0))), ((b 3), .inl ((j 3), 2, .inl (fun _ => 0))), ((b 4), .inl ((j 4), 2, .inl begF)), ((b 5), .inl ((j 5), 900, .inl (fun _ => 0)))]) hD hS hA [0, 1, 2, 3, 4, 5] rfl
  refine va_calli (va_runV (As := [.int p0]) (rest := []) ⟨hx, hb, hml, hown, hts⟩ (c_X9_isState l dC dI _ b j p0) (cwV 1 hts g_X9_overlap_X9_isState rfl rfl rfl (by decide +kernel) ⟨Nat.le_of_ble_eq_true rfl, Nat.le_of_ble_eq_true rfl⟩) ⟨pu_bl, va_recv hK hP (ci := 9) (q0 := 0) rfl rfl, pu_in hP hK hD⟩ rfl rfl hl.1 rfl (lv_room (Nat.le_of_ble_eq_true rfl)) dX9_overlap_7 ⟨Nat.le_of_ble_eq_true rfl, Nat.le_of_ble_eq_true rfl⟩) hS (fun q _ h => hFc q h) hFc (fun r_1 u t H1 locs ht hvm hw hB hz1 hk1 hS => ?_)
  obtain ⟨hP, hD⟩ := va_join (wr := []) (w1 := []) hP hD [0, 1, 2, 3, 4, 5] [] rfl rfl (by decide) (by decide) hk1 hFc pu_P0 pu_D0
  clear hk1 hz1 hB ht hvm
  generalize H1 = H at hP hS ⊢
  have hP : va_P (dC, dI) vwCl [] H := hP
  have hD : va_D A [] := hD
  obtain rfl : r_1 = 0 := hw
  refine lv_if_eq (tgt := 21) hx hb dX9_overlap_10 (by decide) (fun _ => ?_) (fun z => absurd z (by decide))
  refine lv_iconst (v := (-1)) hx hb dX9_overlap_21 (by decide) ?_
  exact W.iret (v := (-1)) hx hb hr (fun t ht hW => ⟨⟨(-1), (), rfl, by first | rfl | decide | simp_all, trivial⟩, hS.F ht⟩) hS.2.2 dX9_overlap_22
theorem dX9_covered_0 : decode cX9_covered 0 = .ok (.aload_n 0, 1) := by decide +kernel
theorem dX9_covered_1 : decode cX9_covered 1 = .ok (.iconst 0, 1) := by decide +kernel
theorem dX9_covered_2 : decode cX9_covered 2 = .ok (.putfield 142, 3) := by decide +kernel
theorem dX9_covered_5 : decode cX9_covered 5 = .ok (.aload_n 0, 1) := by decide +kernel
theorem dX9_covered_6 : decode cX9_covered 6 = .ok (.iload_n 1, 1) := by decide +kernel
theorem dX9_covered_7 : decode cX9_covered 7 = .ok (.invokevirtual 387, 3) := by decide +kernel
theorem dX9_covered_10 : decode cX9_covered 10 = .ok (.ifCond .ne 5, 3) := by decide +kernel
theorem dX9_covered_13 : decode cX9_covered 13 = .ok (.iconst (-1), 1) := by decide +kernel
theorem dX9_covered_14 : decode cX9_covered 14 = .ok (.ireturn, 1) := by decide +kernel
def vs_X9_covered : List Cond := .code yX9_covered cX9_covered 3 (some .int) :: ([.fieldLink RX9 142 "ClockReachModel" "thrown" "I", .methodLink RX9 387 yX9_isState, .instanceMethod yX9_isState, .selects RX9 yX9_isState yX9_isState, .initialized RX9, .code yX9_isState cX9_isState 2 (some .boolean), .methodLink RX9 280 yX9_clocks, .instanceMethod yX9_clocks, .selects RX9 yX9_clocks yX9_clocks, .code yX9_clocks cX9_clocks 1 (some .int), .fieldLink RX9 43 "ClockReachModel" "clockMany" "[I", .fieldLink RX9 258 "ClockReachModel" "bank" "I", .fieldLink RX9 328 "ClockReachModel" "side" "I", .fieldLink RX9 273 "ClockReachModel" "hasGraph" "Z"] ++ wsX90)
theorem g_X9_covered_X9_isState : GoodIn vs_X9_covered (wsV RX9 387 RX9 yX9_isState vs_X9_isState) := goodIn_r _ [2, 3, 4, 5, 6, 7, 8, 9, 5, 10, 11, 12, 13, 14, 15, 16, 17, 18, 19, 20, 21, 22, 23, 24, 25, 26, 27, 28, 29, 30, 31, 32, 33, 34, 35, 36, 37, 38, 39, 40, 41, 42, 43, 44, 45, 46, 47, 48, 49, 50, 51, 52, 53, 54, 55, 56, 57, 58, 59, 60, 61, 62, 63, 64, 65, 66, 67, 68, 69, 70, 71, 72, 73, 74, 75, 76, 77, 78, 79, 80, 81] (by decide +kernel) (by decide +kernel)
set_option maxHeartbeats 4000000 in
set_option maxRecDepth 100000 in
theorem c_X9_covered (l : Launch) (dC : Nat → ClassId) (dI : Nat → Nat → Nat) (sz : Nat) (b : Nat → Nat) (j : Nat → ClassId) (p0 : Int32) : Met l yX9_covered vs_X9_covered ({ frames := 2, cells := 0, slots := 0, locals := 41 }) (va_Pc [.ref (b 0), .int p0] (pu_B (dC, dI) (wM b j) (tM j) sz)) (va_Qi (fun (r : Int32) (_ : Unit) => r = -1) (fun _ _ => True) (va_A (wM b j) sz)) 0 0 (va_A (wM b j) sz) := by
  refine Met.ofW (cc := cX9_covered) (maxL := 3) (ret := (some .int)) (by decide) rfl ?_
  intro p e s m args below meth c s₁ B hml hv
  obtain ⟨rfl, rfl, hP, hK, hD0⟩ := hv
  have hx := B.exec
  have hb := B.bytes
  have hr := B.returns
  have hts := atoms_spec (ws := vs_X9_covered) B.pre
  have v_1 := hts (.fieldLink RX9 142 "ClockReachModel" "thrown" "I") (List.mem_of_getElem? (i := 1) rfl)
  have hown : s.vm.findClass RX9 = some m.cls := findClass_of_methodNamed B.named
  have hlocks := B.notSynchronized
  have hiX9 : ∀ w ∈ wsX90, w ∈ vs_X9_covered := fun _ h => List.mem_cons_of_mem _ (List.mem_append_right _ h)
  have hD := hD0.self (sz := s.heap.size)
  generalize hAe : va_A (wM b j) s.heap.size = A at hD ⊢
  have hA : ∀ q : Nat, s.heap.size ≤ q → A q := fun q h => by rw [← hAe]; exact Or.inr h
  have hS : va_S A s.heap s.heap [] := va_S.rf
  have hl := lv_entry ([.ref (b 0), .int p0]) (n := 3) (Nat.le_of_ble_eq_true rfl)
  rw [lg_entry_eq]
  generalize (lg_sl ([.ref (b 0), .int p0]) ++ List.replicate (3 - (lg_sl ([.ref (b 0), .int p0])).length) Slot.unset).toArray = ls at hl ⊢
  have hl : lv_has ls 3 [(0, .ref (b 0)), (1, .int p0)] := hl
  refine lv_aload_n hx hb dX9_covered_0 rfl (lv_at hl 0 rfl) ?_
  refine lv_iconst (v := 0) hx hb dX9_covered_1 (by decide) ?_
  refine va_put (D := (dC, dI)) (ci := 9) (v := .int 0) (ty := .int) (C := RX9) (T := TX9) (N := 67) hx hb hts hiX9 tyX9 tyX9_ok nmX9 hown hK hP hD hS 0 rfl rfl 0 (by decide) v_1 (fun _ h9 => h9) rfl (by decide +kernel) rfl rfl (Nat.le_of_ble_eq_true rfl) dX9_covered_2 (fun H locs hP hD hS => ?_)
  have hP : va_P (dC, dI) vwCl (wM b j) H := hP
  have hD : va_D A (wM b j) := hD
  refine lv_aload_n hx hb dX9_covered_5 rfl (lv_at hl 0 rfl) ?_
  refine lv_iload_n hx hb dX9_covered_6 rfl (lv_at hl 1 rfl) ?_
  have hFc := va_free (wc := [((b 0), .inr (9, [.int 0, .ref (b 10), .ref (b 11), .ref (b 12), .ref (b 13), .ref (b 14), .ref (b 15), .ref (b 16), .ref (b 17), .ref (b 18), .ref (b 19), .ref (b 20), .ref (b 1), .ref (b 2), .ref (b 3), .ref (b 4), .int 0, .ref (b 5), .int 0, .int 0, .int 0, .int 0, .int 0, .int 0, .int 0, .int (-1), .int 0, .int 0, .int 0, .int 0, .int 0, .ref (b 21), .ref (b 22), .int 0, .ref (b 23), .ref (b 24), .ref (b 25), .ref (b 26), .ref (b 27), .ref (b 28), .ref (b 29), .ref (b 30), .ref (b 31), .ref (b 32), .ref (b 33), .int 0, .int 0, .ref (b 34), .ref (b 35), .ref (b 36), .ref (b 37), .ref (b 38), .int 0, .int 0, .ref (b 39), .ref (b 40), .ref (b 41), .ref (b 42), .ref (b 43), .ref (b 44), .ref (b 45), .int 0, .int 0, .int 0, .ref (b 46), .int 0, .int 0])), ((b 1), .inl ((j 1), 2, .inl (fun _ => 0))), ((b 2), .inl ((j 2), 2, .inl (fun _ => 0))), ((b 3), .inl ((j 3), 2, .inl (fun _ => 0))), ((b 4), .inl ((j 4), 2, .inl begF)), ((b 5), .inl ((j 5), 900, .inl (fun _ => 0)))]) hD hS hA [0, 1, 2, 3, 4, 5] rfl
  refine va_calli (va_runV (As := [.int p0]) (rest := []) ⟨hx, hb, hml, hown, hts⟩ (c_X9_isState l dC dI _ b j p0) (cwV 1 hts g_X9_covered_X9_isState rfl rfl rfl (by decide +kernel) ⟨Nat.le_of_ble_eq_true rfl, Nat.le_of_ble_eq_true rfl⟩) ⟨pu_bl, va_recv hK hP (ci := 9) (q0 := 0) rfl rfl, pu_in hP hK hD⟩ rfl rfl hl.1 rfl (lv_room (Nat.le_of_ble_eq_true rfl)) dX9_covered_7 ⟨Nat.le_of_ble_eq_true rfl, Nat.le_of_ble_eq_true rfl⟩) hS (fun q _ h => hFc q h) hFc (fun r_1 u t H1 locs ht hvm hw hB hz1 hk1 hS => ?_)
  obtain ⟨hP, hD⟩ := va_join (wr := []) (w1 := []) hP hD [0, 1, 2, 3, 4, 5] [] rfl rfl (by decide) (by decide) hk1 hFc pu_P0 pu_D0
  clear hk1 hz1 hB ht hvm
  generalize H1 = H at hP hS ⊢
  have hP : va_P (dC, dI) vwCl [] H := hP
  have hD : va_D A [] := hD
  obtain rfl : r_1 = 0 := hw
  refine lv_if_ne (tgt := 15) hx hb dX9_covered_10 (by decide) (fun z => absurd z (by decide)) (fun _ => ?_)
  refine lv_iconst (v := (-1)) hx hb dX9_covered_13 (by decide) ?_
  exact W.iret (v := (-1)) hx hb hr (fun t ht hW => ⟨⟨(-1), (), rfl, by first | rfl | decide | simp_all, trivial⟩, hS.F ht⟩) hS.2.2 dX9_covered_14
theorem dX9_points_0 : decode cX9_points 0 = .ok (.aload_n 0, 1) := by decide +kernel
theorem dX9_points_1 : decode cX9_points 1 = .ok (.iconst 0, 1) := by decide +kernel
theorem dX9_points_2 : decode cX9_points 2 = .ok (.putfield 142, 3) := by decide +kernel
theorem dX9_points_5 : decode cX9_points 5 = .ok (.aload_n 0, 1) := by decide +kernel
theorem dX9_points_6 : decode cX9_points 6 = .ok (.iload_n 1, 1) := by decide +kernel
theorem dX9_points_7 : decode cX9_points 7 = .ok (.invokevirtual 387, 3) := by decide +kernel
theorem dX9_points_10 : decode cX9_points 10 = .ok (.ifCond .ne 5, 3) := by decide +kernel
theorem dX9_points_13 : decode cX9_points 13 = .ok (.iconst (-1), 1) := by decide +kernel
theorem dX9_points_14 : decode cX9_points 14 = .ok (.ireturn, 1) := by decide +kernel
def vs_X9_points : List Cond := .code yX9_points cX9_points 6 (some .int) :: ([.fieldLink RX9 142 "ClockReachModel" "thrown" "I", .methodLink RX9 387 yX9_isState, .instanceMethod yX9_isState, .selects RX9 yX9_isState yX9_isState, .initialized RX9, .code yX9_isState cX9_isState 2 (some .boolean), .methodLink RX9 280 yX9_clocks, .instanceMethod yX9_clocks, .selects RX9 yX9_clocks yX9_clocks, .code yX9_clocks cX9_clocks 1 (some .int), .fieldLink RX9 43 "ClockReachModel" "clockMany" "[I", .fieldLink RX9 258 "ClockReachModel" "bank" "I", .fieldLink RX9 328 "ClockReachModel" "side" "I", .fieldLink RX9 273 "ClockReachModel" "hasGraph" "Z"] ++ wsX90)
theorem g_X9_points_X9_isState : GoodIn vs_X9_points (wsV RX9 387 RX9 yX9_isState vs_X9_isState) := goodIn_r _ [2, 3, 4, 5, 6, 7, 8, 9, 5, 10, 11, 12, 13, 14, 15, 16, 17, 18, 19, 20, 21, 22, 23, 24, 25, 26, 27, 28, 29, 30, 31, 32, 33, 34, 35, 36, 37, 38, 39, 40, 41, 42, 43, 44, 45, 46, 47, 48, 49, 50, 51, 52, 53, 54, 55, 56, 57, 58, 59, 60, 61, 62, 63, 64, 65, 66, 67, 68, 69, 70, 71, 72, 73, 74, 75, 76, 77, 78, 79, 80, 81] (by decide +kernel) (by decide +kernel)
set_option maxHeartbeats 4000000 in
set_option maxRecDepth 100000 in
theorem c_X9_points (l : Launch) (dC : Nat → ClassId) (dI : Nat → Nat → Nat) (sz : Nat) (b : Nat → Nat) (j : Nat → ClassId) (p0 : Int32) : Met l yX9_points vs_X9_points ({ frames := 2, cells := 0, slots := 0, locals := 41 }) (va_Pc [.ref (b 0), .int p0] (pu_B (dC, dI) (wM b j) (tM j) sz)) (va_Qi (fun (r : Int32) (_ : Unit) => r = -1) (fun _ _ => True) (va_A (wM b j) sz)) 0 0 (va_A (wM b j) sz) := by
  refine Met.ofW (cc := cX9_points) (maxL := 6) (ret := (some .int)) (by decide) rfl ?_
  intro p e s m args below meth c s₁ B hml hv
  obtain ⟨rfl, rfl, hP, hK, hD0⟩ := hv
  have hx := B.exec
  have hb := B.bytes
  have hr := B.returns
  have hts := atoms_spec (ws := vs_X9_points) B.pre
  have v_1 := hts (.fieldLink RX9 142 "ClockReachModel" "thrown" "I") (List.mem_of_getElem? (i := 1) rfl)
  have hown : s.vm.findClass RX9 = some m.cls := findClass_of_methodNamed B.named
  have hlocks := B.notSynchronized
  have hiX9 : ∀ w ∈ wsX90, w ∈ vs_X9_points := fun _ h => List.mem_cons_of_mem _ (List.mem_append_right _ h)
  have hD := hD0.self (sz := s.heap.size)
  generalize hAe : va_A (wM b j) s.heap.size = A at hD ⊢
  have hA : ∀ q : Nat, s.heap.size ≤ q → A q := fun q h => by rw [← hAe]; exact Or.inr h
  have hS : va_S A s.heap s.heap [] := va_S.rf
  have hl := lv_entry ([.ref (b 0), .int p0]) (n := 6) (Nat.le_of_ble_eq_true rfl)
  rw [lg_entry_eq]
  generalize (lg_sl ([.ref (b 0), .int p0]) ++ List.replicate (6 - (lg_sl ([.ref (b 0), .int p0])).length) Slot.unset).toArray = ls at hl ⊢
  have hl : lv_has ls 6 [(0, .ref (b 0)), (1, .int p0)] := hl
  refine lv_aload_n hx hb dX9_points_0 rfl (lv_at hl 0 rfl) ?_
  refine lv_iconst (v := 0) hx hb dX9_points_1 (by decide) ?_
  refine va_put (D := (dC, dI)) (ci := 9) (v := .int 0) (ty := .int) (C := RX9) (T := TX9) (N := 67) hx hb hts hiX9 tyX9 tyX9_ok nmX9 hown hK hP hD hS 0 rfl rfl 0 (by decide) v_1 (fun _ h9 => h9) rfl (by decide +kernel) rfl rfl (Nat.le_of_ble_eq_true rfl) dX9_points_2 (fun H locs hP hD hS => ?_)
  have hP : va_P (dC, dI) vwCl (wM b j) H := hP
  have hD : va_D A (wM b j) := hD
  refine lv_aload_n hx hb dX9_points_5 rfl (lv_at hl 0 rfl) ?_
  refine lv_iload_n hx hb dX9_points_6 rfl (lv_at hl 1 rfl) ?_
  have hFc := va_free (wc := [((b 0), .inr (9, [.int 0, .ref (b 10), .ref (b 11), .ref (b 12), .ref (b 13), .ref (b 14), .ref (b 15), .ref (b 16), .ref (b 17), .ref (b 18), .ref (b 19), .ref (b 20), .ref (b 1), .ref (b 2), .ref (b 3), .ref (b 4), .int 0, .ref (b 5), .int 0, .int 0, .int 0, .int 0, .int 0, .int 0, .int 0, .int (-1), .int 0, .int 0, .int 0, .int 0, .int 0, .ref (b 21), .ref (b 22), .int 0, .ref (b 23), .ref (b 24), .ref (b 25), .ref (b 26), .ref (b 27), .ref (b 28), .ref (b 29), .ref (b 30), .ref (b 31), .ref (b 32), .ref (b 33), .int 0, .int 0, .ref (b 34), .ref (b 35), .ref (b 36), .ref (b 37), .ref (b 38), .int 0, .int 0, .ref (b 39), .ref (b 40), .ref (b 41), .ref (b 42), .ref (b 43), .ref (b 44), .ref (b 45), .int 0, .int 0, .int 0, .ref (b 46), .int 0, .int 0])), ((b 1), .inl ((j 1), 2, .inl (fun _ => 0))), ((b 2), .inl ((j 2), 2, .inl (fun _ => 0))), ((b 3), .inl ((j 3), 2, .inl (fun _ => 0))), ((b 4), .inl ((j 4), 2, .inl begF)), ((b 5), .inl ((j 5), 900, .inl (fun _ => 0)))]) hD hS hA [0, 1, 2, 3, 4, 5] rfl
  refine va_calli (va_runV (As := [.int p0]) (rest := []) ⟨hx, hb, hml, hown, hts⟩ (c_X9_isState l dC dI _ b j p0) (cwV 1 hts g_X9_points_X9_isState rfl rfl rfl (by decide +kernel) ⟨Nat.le_of_ble_eq_true rfl, Nat.le_of_ble_eq_true rfl⟩) ⟨pu_bl, va_recv hK hP (ci := 9) (q0 := 0) rfl rfl, pu_in hP hK hD⟩ rfl rfl hl.1 rfl (lv_room (Nat.le_of_ble_eq_true rfl)) dX9_points_7 ⟨Nat.le_of_ble_eq_true rfl, Nat.le_of_ble_eq_true rfl⟩) hS (fun q _ h => hFc q h) hFc (fun r_1 u t H1 locs ht hvm hw hB hz1 hk1 hS => ?_)
  obtain ⟨hP, hD⟩ := va_join (wr := []) (w1 := []) hP hD [0, 1, 2, 3, 4, 5] [] rfl rfl (by decide) (by decide) hk1 hFc pu_P0 pu_D0
  clear hk1 hz1 hB ht hvm
  generalize H1 = H at hP hS ⊢
  have hP : va_P (dC, dI) vwCl [] H := hP
  have hD : va_D A [] := hD
  obtain rfl : r_1 = 0 := hw
  refine lv_if_ne (tgt := 15) hx hb dX9_points_10 (by decide) (fun z => absurd z (by decide)) (fun _ => ?_)
  refine lv_iconst (v := (-1)) hx hb dX9_points_13 (by decide) ?_
  exact W.iret (v := (-1)) hx hb hr (fun t ht hW => ⟨⟨(-1), (), rfl, by first | rfl | decide | simp_all, trivial⟩, hS.F ht⟩) hS.2.2 dX9_points_14
theorem dX9_from_0 : decode cX9_from 0 = .ok (.aload_n 0, 1) := by decide +kernel
theorem dX9_from_1 : decode cX9_from 1 = .ok (.iconst 0, 1) := by decide +kernel
theorem dX9_from_2 : decode cX9_from 2 = .ok (.putfield 142, 3) := by decide +kernel
theorem dX9_from_5 : decode cX9_from 5 = .ok (.aload_n 0, 1) := by decide +kernel
theorem dX9_from_6 : decode cX9_from 6 = .ok (.iload_n 1, 1) := by decide +kernel
theorem dX9_from_7 : decode cX9_from 7 = .ok (.invokevirtual 286, 3) := by decide +kernel
theorem dX9_from_10 : decode cX9_from 10 = .ok (.ifCond .eq 16, 3) := by decide +kernel
theorem dX9_from_26 : decode cX9_from 26 = .ok (.iconst 0, 1) := by decide +kernel
theorem dX9_from_27 : decode cX9_from 27 = .ok (.istore 6, 2) := by decide +kernel
theorem dX9_from_29 : decode cX9_from 29 = .ok (.iload 6, 2) := by decide +kernel
theorem dX9_from_31 : decode cX9_from 31 = .ok (.ifCond .eq 62, 3) := by decide +kernel
theorem dX9_from_93 : decode cX9_from 93 = .ok (.iconst 0, 1) := by decide +kernel
theorem dX9_from_94 : decode cX9_from 94 = .ok (.istore 6, 2) := by decide +kernel
theorem dX9_from_96 : decode cX9_from 96 = .ok (.iload 6, 2) := by decide +kernel
theorem dX9_from_98 : decode cX9_from 98 = .ok (.ifCond .ne 5, 3) := by decide +kernel
theorem dX9_from_101 : decode cX9_from 101 = .ok (.iconst (-1), 1) := by decide +kernel
theorem dX9_from_102 : decode cX9_from 102 = .ok (.ireturn, 1) := by decide +kernel
def vs_X9_from : List Cond := .code yX9_from cX9_from 7 (some .int) :: ([.fieldLink RX9 142 "ClockReachModel" "thrown" "I", .methodLink RX9 286 yX9_isPlace, .instanceMethod yX9_isPlace, .selects RX9 yX9_isPlace yX9_isPlace, .initialized RX9, .code yX9_isPlace cX9_isPlace 2 (some .boolean), .fieldLink RX9 46 "ClockReachModel" "placeMany" "[I", .fieldLink RX9 258 "ClockReachModel" "bank" "I", .methodLink RX9 152 yX9_in, .static yX9_in, .code yX9_in cX9_in 3 (some .boolean)] ++ wsX90)
theorem g_X9_from_X9_isPlace : GoodIn vs_X9_from (wsV RX9 286 RX9 yX9_isPlace vs_X9_isPlace) := goodIn_r _ [2, 3, 4, 5, 6, 7, 8, 9, 10, 5, 11, 12, 13, 14, 15, 16, 17, 18, 19, 20, 21, 22, 23, 24, 25, 26, 27, 28, 29, 30, 31, 32, 33, 34, 35, 36, 37, 38, 39, 40, 41, 42, 43, 44, 45, 46, 47, 48, 49, 50, 51, 52, 53, 54, 55, 56, 57, 58, 59, 60, 61, 62, 63, 64, 65, 66, 67, 68, 69, 70, 71, 72, 73, 74, 75, 76, 77, 78] (by decide +kernel) (by decide +kernel)
set_option maxHeartbeats 4000000 in
set_option maxRecDepth 100000 in
theorem c_X9_from (l : Launch) (dC : Nat → ClassId) (dI : Nat → Nat → Nat) (sz : Nat) (b : Nat → Nat) (j : Nat → ClassId) (p0 : Int32) (p1 : Int32) (p2 : Int32) (p3 : Int32) (p4 : Int32) : Met l yX9_from vs_X9_from ({ frames := 2, cells := 0, slots := 0, locals := 43 }) (va_Pc [.ref (b 0), .int p0, .int p1, .int p2, .int p3, .int p4] (pu_B (dC, dI) (wM b j) (tM j) sz)) (va_Qi (fun (r : Int32) (_ : Unit) => r = -1) (fun _ _ => True) (va_A (wM b j) sz)) 0 0 (va_A (wM b j) sz) := by
  refine Met.ofW (cc := cX9_from) (maxL := 7) (ret := (some .int)) (by decide) rfl ?_
  intro p e s m args below meth c s₁ B hml hv
  obtain ⟨rfl, rfl, hP, hK, hD0⟩ := hv
  have hx := B.exec
  have hb := B.bytes
  have hr := B.returns
  have hts := atoms_spec (ws := vs_X9_from) B.pre
  have v_1 := hts (.fieldLink RX9 142 "ClockReachModel" "thrown" "I") (List.mem_of_getElem? (i := 1) rfl)
  have hown : s.vm.findClass RX9 = some m.cls := findClass_of_methodNamed B.named
  have hlocks := B.notSynchronized
  have hiX9 : ∀ w ∈ wsX90, w ∈ vs_X9_from := fun _ h => List.mem_cons_of_mem _ (List.mem_append_right _ h)
  have hD := hD0.self (sz := s.heap.size)
  generalize hAe : va_A (wM b j) s.heap.size = A at hD ⊢
  have hA : ∀ q : Nat, s.heap.size ≤ q → A q := fun q h => by rw [← hAe]; exact Or.inr h
  have hS : va_S A s.heap s.heap [] := va_S.rf
  have hl := lv_entry ([.ref (b 0), .int p0, .int p1, .int p2, .int p3, .int p4]) (n := 7) (Nat.le_of_ble_eq_true rfl)
  rw [lg_entry_eq]
  generalize (lg_sl ([.ref (b 0), .int p0, .int p1, .int p2, .int p3, .int p4]) ++ List.replicate (7 - (lg_sl ([.ref (b 0), .int p0, .int p1, .int p2, .int p3, .int p4])).length) Slot.unset).toArray = ls at hl ⊢
  have hl : lv_has ls 7 [(0, .ref (b 0)), (1, .int p0), (2, .int p1), (3, .int p2), (4, .int p3), (5, .int p4)] := hl
  refine lv_aload_n hx hb dX9_from_0 rfl (lv_at hl 0 rfl) ?_
  refine lv_iconst (v := 0) hx hb dX9_from_1 (by decide) ?_
  refine va_put (D := (dC, dI)) (ci := 9) (v := .int 0) (ty := .int) (C := RX9) (T := TX9) (N := 67) hx hb hts hiX9 tyX9 tyX9_ok nmX9 hown hK hP hD hS 0 rfl rfl 0 (by decide) v_1 (fun _ h9 => h9) rfl (by decide +kernel) rfl rfl (Nat.le_of_ble_eq_true rfl) dX9_from_2 (fun H locs hP hD hS => ?_)
  have hP : va_P (dC, dI) vwCl (wM b j) H := hP
  have hD : va_D A (wM b j) := hD
  refine lv_aload_n hx hb dX9_from_5 rfl (lv_at hl 0 rfl) ?_
  refine lv_iload_n hx hb dX9_from_6 rfl (lv_at hl 1 rfl) ?_
  refine va_calli (va_runV (As := [.int p0]) (rest := []) ⟨hx, hb, hml, hown, hts⟩ (c_X9_isPlace l dC dI _ b j p0) (cwV 1 hts g_X9_from_X9_isPlace rfl rfl rfl (by decide +kernel) ⟨Nat.le_of_ble_eq_true rfl, Nat.le_of_ble_eq_true rfl⟩) ⟨pu_bl, va_recv hK hP (ci := 9) (q0 := 0) rfl rfl, pu_in hP hK hD⟩ rfl rfl hl.1 rfl (lv_room (Nat.le_of_ble_eq_true rfl)) dX9_from_7 ⟨Nat.le_of_ble_eq_true rfl, Nat.le_of_ble_eq_true rfl⟩) hS (fun q _ h => pu_fr hS hA q h) (pu_fr hS hA) (fun r_1 u t H1 locs ht hvm hw hB hz1 hk1 hS => ?_)
  have hP := pu_keep hP hk1
  clear hk1 hz1 hB ht hvm
  generalize H1 = H at hP hS ⊢
  obtain rfl : r_1 = 0 := hw
  refine lv_if_eq (tgt := 26) hx hb dX9_from_10 (by decide) (fun _ => ?_) (fun z => absurd z (by decide))
  refine lv_iconst (v := 0) hx hb dX9_from_26 (by decide) ?_
  refine lv_istore (lv' := [(6, .int 0), (0, .ref (b 0)), (1, .int p0), (2, .int p1), (3, .int p2), (4, .int p3), (5, .int p4)]) hx hb dX9_from_27 hl (by decide) rfl (fun ls hl => ?_)
  refine lv_iload hx hb dX9_from_29 (lv_at hl 0 rfl) ?_
  refine lv_if_eq (tgt := 93) hx hb dX9_from_31 (by decide) (fun _ => ?_) (fun z => absurd z (by decide))
  refine lv_iconst (v := 0) hx hb dX9_from_93 (by decide) ?_
  refine lv_istore (lv' := [(6, .int 0), (0, .ref (b 0)), (1, .int p0), (2, .int p1), (3, .int p2), (4, .int p3), (5, .int p4)]) hx hb dX9_from_94 hl (by decide) rfl (fun ls hl => ?_)
  refine lv_iload hx hb dX9_from_96 (lv_at hl 0 rfl) ?_
  refine lv_if_ne (tgt := 103) hx hb dX9_from_98 (by decide) (fun z => absurd z (by decide)) (fun _ => ?_)
  refine lv_iconst (v := (-1)) hx hb dX9_from_101 (by decide) ?_
  exact W.iret (v := (-1)) hx hb hr (fun t ht hW => ⟨⟨(-1), (), rfl, by first | rfl | decide | simp_all, trivial⟩, hS.F ht⟩) hS.2.2 dX9_from_102
theorem dX9_avoids_0 : decode cX9_avoids 0 = .ok (.aload_n 0, 1) := by decide +kernel
theorem dX9_avoids_1 : decode cX9_avoids 1 = .ok (.iconst 0, 1) := by decide +kernel
theorem dX9_avoids_2 : decode cX9_avoids 2 = .ok (.putfield 142, 3) := by decide +kernel
theorem dX9_avoids_5 : decode cX9_avoids 5 = .ok (.aload_n 0, 1) := by decide +kernel
theorem dX9_avoids_6 : decode cX9_avoids 6 = .ok (.iload_n 1, 1) := by decide +kernel
theorem dX9_avoids_7 : decode cX9_avoids 7 = .ok (.invokevirtual 286, 3) := by decide +kernel
theorem dX9_avoids_10 : decode cX9_avoids 10 = .ok (.ifCond .eq 11, 3) := by decide +kernel
theorem dX9_avoids_21 : decode cX9_avoids 21 = .ok (.iconst (-1), 1) := by decide +kernel
theorem dX9_avoids_22 : decode cX9_avoids 22 = .ok (.ireturn, 1) := by decide +kernel
def vs_X9_avoids : List Cond := .code yX9_avoids cX9_avoids 3 (some .int) :: ([.fieldLink RX9 142 "ClockReachModel" "thrown" "I", .methodLink RX9 286 yX9_isPlace, .instanceMethod yX9_isPlace, .selects RX9 yX9_isPlace yX9_isPlace, .initialized RX9, .code yX9_isPlace cX9_isPlace 2 (some .boolean), .fieldLink RX9 46 "ClockReachModel" "placeMany" "[I", .fieldLink RX9 258 "ClockReachModel" "bank" "I", .methodLink RX9 152 yX9_in, .static yX9_in, .code yX9_in cX9_in 3 (some .boolean)] ++ wsX90)
theorem g_X9_avoids_X9_isPlace : GoodIn vs_X9_avoids (wsV RX9 286 RX9 yX9_isPlace vs_X9_isPlace) := goodIn_r _ [2, 3, 4, 5, 6, 7, 8, 9, 10, 5, 11, 12, 13, 14, 15, 16, 17, 18, 19, 20, 21, 22, 23, 24, 25, 26, 27, 28, 29, 30, 31, 32, 33, 34, 35, 36, 37, 38, 39, 40, 41, 42, 43, 44, 45, 46, 47, 48, 49, 50, 51, 52, 53, 54, 55, 56, 57, 58, 59, 60, 61, 62, 63, 64, 65, 66, 67, 68, 69, 70, 71, 72, 73, 74, 75, 76, 77, 78] (by decide +kernel) (by decide +kernel)
set_option maxHeartbeats 4000000 in
set_option maxRecDepth 100000 in
theorem c_X9_avoids (l : Launch) (dC : Nat → ClassId) (dI : Nat → Nat → Nat) (sz : Nat) (b : Nat → Nat) (j : Nat → ClassId) (p0 : Int32) (p1 : Int32) : Met l yX9_avoids vs_X9_avoids ({ frames := 2, cells := 0, slots := 0, locals := 43 }) (va_Pc [.ref (b 0), .int p0, .int p1] (pu_B (dC, dI) (wM b j) (tM j) sz)) (va_Qi (fun (r : Int32) (_ : Unit) => r = -1) (fun _ _ => True) (va_A (wM b j) sz)) 0 0 (va_A (wM b j) sz) := by
  refine Met.ofW (cc := cX9_avoids) (maxL := 3) (ret := (some .int)) (by decide) rfl ?_
  intro p e s m args below meth c s₁ B hml hv
  obtain ⟨rfl, rfl, hP, hK, hD0⟩ := hv
  have hx := B.exec
  have hb := B.bytes
  have hr := B.returns
  have hts := atoms_spec (ws := vs_X9_avoids) B.pre
  have v_1 := hts (.fieldLink RX9 142 "ClockReachModel" "thrown" "I") (List.mem_of_getElem? (i := 1) rfl)
  have hown : s.vm.findClass RX9 = some m.cls := findClass_of_methodNamed B.named
  have hlocks := B.notSynchronized
  have hiX9 : ∀ w ∈ wsX90, w ∈ vs_X9_avoids := fun _ h => List.mem_cons_of_mem _ (List.mem_append_right _ h)
  have hD := hD0.self (sz := s.heap.size)
  generalize hAe : va_A (wM b j) s.heap.size = A at hD ⊢
  have hA : ∀ q : Nat, s.heap.size ≤ q → A q := fun q h => by rw [← hAe]; exact Or.inr h
  have hS : va_S A s.heap s.heap [] := va_S.rf
  have hl := lv_entry ([.ref (b 0), .int p0, .int p1]) (n := 3) (Nat.le_of_ble_eq_true rfl)
  rw [lg_entry_eq]
  generalize (lg_sl ([.ref (b 0), .int p0, .int p1]) ++ List.replicate (3 - (lg_sl ([.ref (b 0), .int p0, .int p1])).length) Slot.unset).toArray = ls at hl ⊢
  have hl : lv_has ls 3 [(0, .ref (b 0)), (1, .int p0), (2, .int p1)] := hl
  refine lv_aload_n hx hb dX9_avoids_0 rfl (lv_at hl 0 rfl) ?_
  refine lv_iconst (v := 0) hx hb dX9_avoids_1 (by decide) ?_
  refine va_put (D := (dC, dI)) (ci := 9) (v := .int 0) (ty := .int) (C := RX9) (T := TX9) (N := 67) hx hb hts hiX9 tyX9 tyX9_ok nmX9 hown hK hP hD hS 0 rfl rfl 0 (by decide) v_1 (fun _ h9 => h9) rfl (by decide +kernel) rfl rfl (Nat.le_of_ble_eq_true rfl) dX9_avoids_2 (fun H locs hP hD hS => ?_)
  have hP : va_P (dC, dI) vwCl (wM b j) H := hP
  have hD : va_D A (wM b j) := hD
  refine lv_aload_n hx hb dX9_avoids_5 rfl (lv_at hl 0 rfl) ?_
  refine lv_iload_n hx hb dX9_avoids_6 rfl (lv_at hl 1 rfl) ?_
  refine va_calli (va_runV (As := [.int p0]) (rest := []) ⟨hx, hb, hml, hown, hts⟩ (c_X9_isPlace l dC dI _ b j p0) (cwV 1 hts g_X9_avoids_X9_isPlace rfl rfl rfl (by decide +kernel) ⟨Nat.le_of_ble_eq_true rfl, Nat.le_of_ble_eq_true rfl⟩) ⟨pu_bl, va_recv hK hP (ci := 9) (q0 := 0) rfl rfl, pu_in hP hK hD⟩ rfl rfl hl.1 rfl (lv_room (Nat.le_of_ble_eq_true rfl)) dX9_avoids_7 ⟨Nat.le_of_ble_eq_true rfl, Nat.le_of_ble_eq_true rfl⟩) hS (fun q _ h => pu_fr hS hA q h) (pu_fr hS hA) (fun r_1 u t H1 locs ht hvm hw hB hz1 hk1 hS => ?_)
  have hP := pu_keep hP hk1
  clear hk1 hz1 hB ht hvm
  generalize H1 = H at hP hS ⊢
  obtain rfl : r_1 = 0 := hw
  refine lv_if_eq (tgt := 21) hx hb dX9_avoids_10 (by decide) (fun _ => ?_) (fun z => absurd z (by decide))
  refine lv_iconst (v := (-1)) hx hb dX9_avoids_21 (by decide) ?_
  exact W.iret (v := (-1)) hx hb hr (fun t ht hW => ⟨⟨(-1), (), rfl, by first | rfl | decide | simp_all, trivial⟩, hS.F ht⟩) hS.2.2 dX9_avoids_22
theorem dX9_run_0 : decode cX9_run 0 = .ok (.aload_n 0, 1) := by decide +kernel
theorem dX9_run_1 : decode cX9_run 1 = .ok (.iconst 0, 1) := by decide +kernel
theorem dX9_run_2 : decode cX9_run 2 = .ok (.putfield 142, 3) := by decide +kernel
theorem dX9_run_5 : decode cX9_run 5 = .ok (.aload_n 0, 1) := by decide +kernel
theorem dX9_run_6 : decode cX9_run 6 = .ok (.iload_n 1, 1) := by decide +kernel
theorem dX9_run_7 : decode cX9_run 7 = .ok (.iload_n 2, 1) := by decide +kernel
theorem dX9_run_8 : decode cX9_run 8 = .ok (.invokevirtual 454, 3) := by decide +kernel
theorem dX9_run_11 : decode cX9_run 11 = .ok (.ifCond .eq 12, 3) := by decide +kernel
theorem dX9_run_23 : decode cX9_run 23 = .ok (.iconst (-1), 1) := by decide +kernel
theorem dX9_run_24 : decode cX9_run 24 = .ok (.ireturn, 1) := by decide +kernel
def vs_X9_run : List Cond := .code yX9_run cX9_run 3 (some .int) :: ([.fieldLink RX9 142 "ClockReachModel" "thrown" "I", .methodLink RX9 454 yX9_isStep, .instanceMethod yX9_isStep, .selects RX9 yX9_isStep yX9_isStep, .initialized RX9, .code yX9_isStep cX9_isStep 3 (some .boolean), .methodLink RX9 387 yX9_isState, .instanceMethod yX9_isState, .selects RX9 yX9_isState yX9_isState, .code yX9_isState cX9_isState 2 (some .boolean), .methodLink RX9 280 yX9_clocks, .instanceMethod yX9_clocks, .selects RX9 yX9_clocks yX9_clocks, .code yX9_clocks cX9_clocks 1 (some .int), .fieldLink RX9 43 "ClockReachModel" "clockMany" "[I", .fieldLink RX9 258 "ClockReachModel" "bank" "I", .fieldLink RX9 328 "ClockReachModel" "side" "I", .fieldLink RX9 273 "ClockReachModel" "hasGraph" "Z"] ++ wsX90)
theorem g_X9_run_X9_isStep : GoodIn vs_X9_run (wsV RX9 454 RX9 yX9_isStep vs_X9_isStep) := goodIn_r _ [2, 3, 4, 5, 6, 7, 8, 9, 5, 10, 11, 12, 13, 14, 15, 16, 17, 18, 19, 20, 21, 22, 23, 24, 25, 26, 27, 28, 29, 30, 31, 32, 33, 34, 35, 36, 37, 38, 39, 40, 41, 42, 43, 44, 45, 46, 47, 48, 49, 50, 51, 52, 53, 54, 55, 56, 57, 58, 59, 60, 61, 62, 63, 64, 65, 66, 67, 68, 69, 70, 71, 72, 73, 74, 75, 76, 77, 78, 79, 80, 81, 82, 83, 84, 85] (by decide +kernel) (by decide +kernel)
set_option maxHeartbeats 4000000 in
set_option maxRecDepth 100000 in
theorem c_X9_run (l : Launch) (dC : Nat → ClassId) (dI : Nat → Nat → Nat) (sz : Nat) (b : Nat → Nat) (j : Nat → ClassId) (p0 : Int32) (p1 : Int32) : Met l yX9_run vs_X9_run ({ frames := 3, cells := 0, slots := 0, locals := 63 }) (va_Pc [.ref (b 0), .int p0, .int p1] (pu_B (dC, dI) (wM b j) (tM j) sz)) (va_Qi (fun (r : Int32) (_ : Unit) => r = -1) (fun _ _ => True) (va_A (wM b j) sz)) 0 0 (va_A (wM b j) sz) := by
  refine Met.ofW (cc := cX9_run) (maxL := 3) (ret := (some .int)) (by decide) rfl ?_
  intro p e s m args below meth c s₁ B hml hv
  obtain ⟨rfl, rfl, hP, hK, hD0⟩ := hv
  have hx := B.exec
  have hb := B.bytes
  have hr := B.returns
  have hts := atoms_spec (ws := vs_X9_run) B.pre
  have v_1 := hts (.fieldLink RX9 142 "ClockReachModel" "thrown" "I") (List.mem_of_getElem? (i := 1) rfl)
  have hown : s.vm.findClass RX9 = some m.cls := findClass_of_methodNamed B.named
  have hlocks := B.notSynchronized
  have hiX9 : ∀ w ∈ wsX90, w ∈ vs_X9_run := fun _ h => List.mem_cons_of_mem _ (List.mem_append_right _ h)
  have hD := hD0.self (sz := s.heap.size)
  generalize hAe : va_A (wM b j) s.heap.size = A at hD ⊢
  have hA : ∀ q : Nat, s.heap.size ≤ q → A q := fun q h => by rw [← hAe]; exact Or.inr h
  have hS : va_S A s.heap s.heap [] := va_S.rf
  have hl := lv_entry ([.ref (b 0), .int p0, .int p1]) (n := 3) (Nat.le_of_ble_eq_true rfl)
  rw [lg_entry_eq]
  generalize (lg_sl ([.ref (b 0), .int p0, .int p1]) ++ List.replicate (3 - (lg_sl ([.ref (b 0), .int p0, .int p1])).length) Slot.unset).toArray = ls at hl ⊢
  have hl : lv_has ls 3 [(0, .ref (b 0)), (1, .int p0), (2, .int p1)] := hl
  refine lv_aload_n hx hb dX9_run_0 rfl (lv_at hl 0 rfl) ?_
  refine lv_iconst (v := 0) hx hb dX9_run_1 (by decide) ?_
  refine va_put (D := (dC, dI)) (ci := 9) (v := .int 0) (ty := .int) (C := RX9) (T := TX9) (N := 67) hx hb hts hiX9 tyX9 tyX9_ok nmX9 hown hK hP hD hS 0 rfl rfl 0 (by decide) v_1 (fun _ h9 => h9) rfl (by decide +kernel) rfl rfl (Nat.le_of_ble_eq_true rfl) dX9_run_2 (fun H locs hP hD hS => ?_)
  have hP : va_P (dC, dI) vwCl (wM b j) H := hP
  have hD : va_D A (wM b j) := hD
  refine lv_aload_n hx hb dX9_run_5 rfl (lv_at hl 0 rfl) ?_
  refine lv_iload_n hx hb dX9_run_6 rfl (lv_at hl 1 rfl) ?_
  refine lv_iload_n hx hb dX9_run_7 rfl (lv_at hl 2 rfl) ?_
  have hFc := va_free (wc := [((b 0), .inr (9, [.int 0, .ref (b 10), .ref (b 11), .ref (b 12), .ref (b 13), .ref (b 14), .ref (b 15), .ref (b 16), .ref (b 17), .ref (b 18), .ref (b 19), .ref (b 20), .ref (b 1), .ref (b 2), .ref (b 3), .ref (b 4), .int 0, .ref (b 5), .int 0, .int 0, .int 0, .int 0, .int 0, .int 0, .int 0, .int (-1), .int 0, .int 0, .int 0, .int 0, .int 0, .ref (b 21), .ref (b 22), .int 0, .ref (b 23), .ref (b 24), .ref (b 25), .ref (b 26), .ref (b 27), .ref (b 28), .ref (b 29), .ref (b 30), .ref (b 31), .ref (b 32), .ref (b 33), .int 0, .int 0, .ref (b 34), .ref (b 35), .ref (b 36), .ref (b 37), .ref (b 38), .int 0, .int 0, .ref (b 39), .ref (b 40), .ref (b 41), .ref (b 42), .ref (b 43), .ref (b 44), .ref (b 45), .int 0, .int 0, .int 0, .ref (b 46), .int 0, .int 0])), ((b 1), .inl ((j 1), 2, .inl (fun _ => 0))), ((b 2), .inl ((j 2), 2, .inl (fun _ => 0))), ((b 3), .inl ((j 3), 2, .inl (fun _ => 0))), ((b 4), .inl ((j 4), 2, .inl begF)), ((b 5), .inl ((j 5), 900, .inl (fun _ => 0)))]) hD hS hA [0, 1, 2, 3, 4, 5] rfl
  refine va_calli (va_runV (As := [.int p0, .int p1]) (rest := []) ⟨hx, hb, hml, hown, hts⟩ (c_X9_isStep l dC dI _ b j p0 p1) (cwV 2 hts g_X9_run_X9_isStep rfl rfl rfl (by decide +kernel) ⟨Nat.le_of_ble_eq_true rfl, Nat.le_of_ble_eq_true rfl⟩) ⟨pu_bl, va_recv hK hP (ci := 9) (q0 := 0) rfl rfl, pu_in hP hK hD⟩ rfl rfl hl.1 rfl (lv_room (Nat.le_of_ble_eq_true rfl)) dX9_run_8 ⟨Nat.le_of_ble_eq_true rfl, Nat.le_of_ble_eq_true rfl⟩) hS (fun q _ h => hFc q h) hFc (fun r_1 u t H1 locs ht hvm hw hB hz1 hk1 hS => ?_)
  obtain ⟨hP, hD⟩ := va_join (wr := []) (w1 := []) hP hD [0, 1, 2, 3, 4, 5] [] rfl rfl (by decide) (by decide) hk1 hFc pu_P0 pu_D0
  clear hk1 hz1 hB ht hvm
  generalize H1 = H at hP hS ⊢
  have hP : va_P (dC, dI) vwCl [] H := hP
  have hD : va_D A [] := hD
  obtain rfl : r_1 = 0 := hw
  refine lv_if_eq (tgt := 23) hx hb dX9_run_11 (by decide) (fun _ => ?_) (fun z => absurd z (by decide))
  refine lv_iconst (v := (-1)) hx hb dX9_run_23 (by decide) ?_
  exact W.iret (v := (-1)) hx hb hr (fun t ht hW => ⟨⟨(-1), (), rfl, by first | rfl | decide | simp_all, trivial⟩, hS.F ht⟩) hS.2.2 dX9_run_24
theorem dX9_when_0 : decode cX9_when 0 = .ok (.aload_n 0, 1) := by decide +kernel
theorem dX9_when_1 : decode cX9_when 1 = .ok (.iconst 0, 1) := by decide +kernel
theorem dX9_when_2 : decode cX9_when 2 = .ok (.putfield 142, 3) := by decide +kernel
theorem dX9_when_5 : decode cX9_when 5 = .ok (.aload_n 0, 1) := by decide +kernel
theorem dX9_when_6 : decode cX9_when 6 = .ok (.iload_n 1, 1) := by decide +kernel
theorem dX9_when_7 : decode cX9_when 7 = .ok (.iload_n 2, 1) := by decide +kernel
theorem dX9_when_8 : decode cX9_when 8 = .ok (.invokevirtual 454, 3) := by decide +kernel
theorem dX9_when_11 : decode cX9_when 11 = .ok (.ifCond .eq 21, 3) := by decide +kernel
theorem dX9_when_32 : decode cX9_when 32 = .ok (.iconst (-1), 1) := by decide +kernel
theorem dX9_when_33 : decode cX9_when 33 = .ok (.ireturn, 1) := by decide +kernel
def vs_X9_when : List Cond := .code yX9_when cX9_when 3 (some .int) :: ([.fieldLink RX9 142 "ClockReachModel" "thrown" "I", .methodLink RX9 454 yX9_isStep, .instanceMethod yX9_isStep, .selects RX9 yX9_isStep yX9_isStep, .initialized RX9, .code yX9_isStep cX9_isStep 3 (some .boolean), .methodLink RX9 387 yX9_isState, .instanceMethod yX9_isState, .selects RX9 yX9_isState yX9_isState, .code yX9_isState cX9_isState 2 (some .boolean), .methodLink RX9 280 yX9_clocks, .instanceMethod yX9_clocks, .selects RX9 yX9_clocks yX9_clocks, .code yX9_clocks cX9_clocks 1 (some .int), .fieldLink RX9 43 "ClockReachModel" "clockMany" "[I", .fieldLink RX9 258 "ClockReachModel" "bank" "I", .fieldLink RX9 328 "ClockReachModel" "side" "I", .fieldLink RX9 273 "ClockReachModel" "hasGraph" "Z"] ++ wsX90)
theorem g_X9_when_X9_isStep : GoodIn vs_X9_when (wsV RX9 454 RX9 yX9_isStep vs_X9_isStep) := goodIn_r _ [2, 3, 4, 5, 6, 7, 8, 9, 5, 10, 11, 12, 13, 14, 15, 16, 17, 18, 19, 20, 21, 22, 23, 24, 25, 26, 27, 28, 29, 30, 31, 32, 33, 34, 35, 36, 37, 38, 39, 40, 41, 42, 43, 44, 45, 46, 47, 48, 49, 50, 51, 52, 53, 54, 55, 56, 57, 58, 59, 60, 61, 62, 63, 64, 65, 66, 67, 68, 69, 70, 71, 72, 73, 74, 75, 76, 77, 78, 79, 80, 81, 82, 83, 84, 85] (by decide +kernel) (by decide +kernel)
set_option maxHeartbeats 4000000 in
set_option maxRecDepth 100000 in
theorem c_X9_when (l : Launch) (dC : Nat → ClassId) (dI : Nat → Nat → Nat) (sz : Nat) (b : Nat → Nat) (j : Nat → ClassId) (p0 : Int32) (p1 : Int32) : Met l yX9_when vs_X9_when ({ frames := 3, cells := 0, slots := 0, locals := 63 }) (va_Pc [.ref (b 0), .int p0, .int p1] (pu_B (dC, dI) (wM b j) (tM j) sz)) (va_Qi (fun (r : Int32) (_ : Unit) => r = -1) (fun _ _ => True) (va_A (wM b j) sz)) 0 0 (va_A (wM b j) sz) := by
  refine Met.ofW (cc := cX9_when) (maxL := 3) (ret := (some .int)) (by decide) rfl ?_
  intro p e s m args below meth c s₁ B hml hv
  obtain ⟨rfl, rfl, hP, hK, hD0⟩ := hv
  have hx := B.exec
  have hb := B.bytes
  have hr := B.returns
  have hts := atoms_spec (ws := vs_X9_when) B.pre
  have v_1 := hts (.fieldLink RX9 142 "ClockReachModel" "thrown" "I") (List.mem_of_getElem? (i := 1) rfl)
  have hown : s.vm.findClass RX9 = some m.cls := findClass_of_methodNamed B.named
  have hlocks := B.notSynchronized
  have hiX9 : ∀ w ∈ wsX90, w ∈ vs_X9_when := fun _ h => List.mem_cons_of_mem _ (List.mem_append_right _ h)
  have hD := hD0.self (sz := s.heap.size)
  generalize hAe : va_A (wM b j) s.heap.size = A at hD ⊢
  have hA : ∀ q : Nat, s.heap.size ≤ q → A q := fun q h => by rw [← hAe]; exact Or.inr h
  have hS : va_S A s.heap s.heap [] := va_S.rf
  have hl := lv_entry ([.ref (b 0), .int p0, .int p1]) (n := 3) (Nat.le_of_ble_eq_true rfl)
  rw [lg_entry_eq]
  generalize (lg_sl ([.ref (b 0), .int p0, .int p1]) ++ List.replicate (3 - (lg_sl ([.ref (b 0), .int p0, .int p1])).length) Slot.unset).toArray = ls at hl ⊢
  have hl : lv_has ls 3 [(0, .ref (b 0)), (1, .int p0), (2, .int p1)] := hl
  refine lv_aload_n hx hb dX9_when_0 rfl (lv_at hl 0 rfl) ?_
  refine lv_iconst (v := 0) hx hb dX9_when_1 (by decide) ?_
  refine va_put (D := (dC, dI)) (ci := 9) (v := .int 0) (ty := .int) (C := RX9) (T := TX9) (N := 67) hx hb hts hiX9 tyX9 tyX9_ok nmX9 hown hK hP hD hS 0 rfl rfl 0 (by decide) v_1 (fun _ h9 => h9) rfl (by decide +kernel) rfl rfl (Nat.le_of_ble_eq_true rfl) dX9_when_2 (fun H locs hP hD hS => ?_)
  have hP : va_P (dC, dI) vwCl (wM b j) H := hP
  have hD : va_D A (wM b j) := hD
  refine lv_aload_n hx hb dX9_when_5 rfl (lv_at hl 0 rfl) ?_
  refine lv_iload_n hx hb dX9_when_6 rfl (lv_at hl 1 rfl) ?_
  refine lv_iload_n hx hb dX9_when_7 rfl (lv_at hl 2 rfl) ?_
  have hFc := va_free (wc := [((b 0), .inr (9, [.int 0, .ref (b 10), .ref (b 11), .ref (b 12), .ref (b 13), .ref (b 14), .ref (b 15), .ref (b 16), .ref (b 17), .ref (b 18), .ref (b 19), .ref (b 20), .ref (b 1), .ref (b 2), .ref (b 3), .ref (b 4), .int 0, .ref (b 5), .int 0, .int 0, .int 0, .int 0, .int 0, .int 0, .int 0, .int (-1), .int 0, .int 0, .int 0, .int 0, .int 0, .ref (b 21), .ref (b 22), .int 0, .ref (b 23), .ref (b 24), .ref (b 25), .ref (b 26), .ref (b 27), .ref (b 28), .ref (b 29), .ref (b 30), .ref (b 31), .ref (b 32), .ref (b 33), .int 0, .int 0, .ref (b 34), .ref (b 35), .ref (b 36), .ref (b 37), .ref (b 38), .int 0, .int 0, .ref (b 39), .ref (b 40), .ref (b 41), .ref (b 42), .ref (b 43), .ref (b 44), .ref (b 45), .int 0, .int 0, .int 0, .ref (b 46), .int 0, .int 0])), ((b 1), .inl ((j 1), 2, .inl (fun _ => 0))), ((b 2), .inl ((j 2), 2, .inl (fun _ => 0))), ((b 3), .inl ((j 3), 2, .inl (fun _ => 0))), ((b 4), .inl ((j 4), 2, .inl begF)), ((b 5), .inl ((j 5), 900, .inl (fun _ => 0)))]) hD hS hA [0, 1, 2, 3, 4, 5] rfl
  refine va_calli (va_runV (As := [.int p0, .int p1]) (rest := []) ⟨hx, hb, hml, hown, hts⟩ (c_X9_isStep l dC dI _ b j p0 p1) (cwV 2 hts g_X9_when_X9_isStep rfl rfl rfl (by decide +kernel) ⟨Nat.le_of_ble_eq_true rfl, Nat.le_of_ble_eq_true rfl⟩) ⟨pu_bl, va_recv hK hP (ci := 9) (q0 := 0) rfl rfl, pu_in hP hK hD⟩ rfl rfl hl.1 rfl (lv_room (Nat.le_of_ble_eq_true rfl)) dX9_when_8 ⟨Nat.le_of_ble_eq_true rfl, Nat.le_of_ble_eq_true rfl⟩) hS (fun q _ h => hFc q h) hFc (fun r_1 u t H1 locs ht hvm hw hB hz1 hk1 hS => ?_)
  obtain ⟨hP, hD⟩ := va_join (wr := []) (w1 := []) hP hD [0, 1, 2, 3, 4, 5] [] rfl rfl (by decide) (by decide) hk1 hFc pu_P0 pu_D0
  clear hk1 hz1 hB ht hvm
  generalize H1 = H at hP hS ⊢
  have hP : va_P (dC, dI) vwCl [] H := hP
  have hD : va_D A [] := hD
  obtain rfl : r_1 = 0 := hw
  refine lv_if_eq (tgt := 32) hx hb dX9_when_11 (by decide) (fun _ => ?_) (fun z => absurd z (by decide))
  refine lv_iconst (v := (-1)) hx hb dX9_when_32 (by decide) ?_
  exact W.iret (v := (-1)) hx hb hr (fun t ht hW => ⟨⟨(-1), (), rfl, by first | rfl | decide | simp_all, trivial⟩, hS.F ht⟩) hS.2.2 dX9_when_33
theorem dX9_then_0 : decode cX9_then 0 = .ok (.aload_n 0, 1) := by decide +kernel
theorem dX9_then_1 : decode cX9_then 1 = .ok (.iconst 0, 1) := by decide +kernel
theorem dX9_then_2 : decode cX9_then 2 = .ok (.putfield 142, 3) := by decide +kernel
theorem dX9_then_5 : decode cX9_then 5 = .ok (.aload_n 0, 1) := by decide +kernel
theorem dX9_then_6 : decode cX9_then 6 = .ok (.iload_n 1, 1) := by decide +kernel
theorem dX9_then_7 : decode cX9_then 7 = .ok (.iload_n 2, 1) := by decide +kernel
theorem dX9_then_8 : decode cX9_then 8 = .ok (.invokevirtual 454, 3) := by decide +kernel
theorem dX9_then_11 : decode cX9_then 11 = .ok (.ifCond .eq 18, 3) := by decide +kernel
theorem dX9_then_29 : decode cX9_then 29 = .ok (.iconst (-1), 1) := by decide +kernel
theorem dX9_then_30 : decode cX9_then 30 = .ok (.ireturn, 1) := by decide +kernel
def vs_X9_then : List Cond := .code yX9_then cX9_then 6 (some .int) :: ([.fieldLink RX9 142 "ClockReachModel" "thrown" "I", .methodLink RX9 454 yX9_isStep, .instanceMethod yX9_isStep, .selects RX9 yX9_isStep yX9_isStep, .initialized RX9, .code yX9_isStep cX9_isStep 3 (some .boolean), .methodLink RX9 387 yX9_isState, .instanceMethod yX9_isState, .selects RX9 yX9_isState yX9_isState, .code yX9_isState cX9_isState 2 (some .boolean), .methodLink RX9 280 yX9_clocks, .instanceMethod yX9_clocks, .selects RX9 yX9_clocks yX9_clocks, .code yX9_clocks cX9_clocks 1 (some .int), .fieldLink RX9 43 "ClockReachModel" "clockMany" "[I", .fieldLink RX9 258 "ClockReachModel" "bank" "I", .fieldLink RX9 328 "ClockReachModel" "side" "I", .fieldLink RX9 273 "ClockReachModel" "hasGraph" "Z"] ++ wsX90)
theorem g_X9_then_X9_isStep : GoodIn vs_X9_then (wsV RX9 454 RX9 yX9_isStep vs_X9_isStep) := goodIn_r _ [2, 3, 4, 5, 6, 7, 8, 9, 5, 10, 11, 12, 13, 14, 15, 16, 17, 18, 19, 20, 21, 22, 23, 24, 25, 26, 27, 28, 29, 30, 31, 32, 33, 34, 35, 36, 37, 38, 39, 40, 41, 42, 43, 44, 45, 46, 47, 48, 49, 50, 51, 52, 53, 54, 55, 56, 57, 58, 59, 60, 61, 62, 63, 64, 65, 66, 67, 68, 69, 70, 71, 72, 73, 74, 75, 76, 77, 78, 79, 80, 81, 82, 83, 84, 85] (by decide +kernel) (by decide +kernel)
set_option maxHeartbeats 4000000 in
set_option maxRecDepth 100000 in
theorem c_X9_then (l : Launch) (dC : Nat → ClassId) (dI : Nat → Nat → Nat) (sz : Nat) (b : Nat → Nat) (j : Nat → ClassId) (p0 : Int32) (p1 : Int32) (p2 : Int32) : Met l yX9_then vs_X9_then ({ frames := 3, cells := 0, slots := 0, locals := 63 }) (va_Pc [.ref (b 0), .int p0, .int p1, .int p2] (pu_B (dC, dI) (wM b j) (tM j) sz)) (va_Qi (fun (r : Int32) (_ : Unit) => r = -1) (fun _ _ => True) (va_A (wM b j) sz)) 0 0 (va_A (wM b j) sz) := by
  refine Met.ofW (cc := cX9_then) (maxL := 6) (ret := (some .int)) (by decide) rfl ?_
  intro p e s m args below meth c s₁ B hml hv
  obtain ⟨rfl, rfl, hP, hK, hD0⟩ := hv
  have hx := B.exec
  have hb := B.bytes
  have hr := B.returns
  have hts := atoms_spec (ws := vs_X9_then) B.pre
  have v_1 := hts (.fieldLink RX9 142 "ClockReachModel" "thrown" "I") (List.mem_of_getElem? (i := 1) rfl)
  have hown : s.vm.findClass RX9 = some m.cls := findClass_of_methodNamed B.named
  have hlocks := B.notSynchronized
  have hiX9 : ∀ w ∈ wsX90, w ∈ vs_X9_then := fun _ h => List.mem_cons_of_mem _ (List.mem_append_right _ h)
  have hD := hD0.self (sz := s.heap.size)
  generalize hAe : va_A (wM b j) s.heap.size = A at hD ⊢
  have hA : ∀ q : Nat, s.heap.size ≤ q → A q := fun q h => by rw [← hAe]; exact Or.inr h
  have hS : va_S A s.heap s.heap [] := va_S.rf
  have hl := lv_entry ([.ref (b 0), .int p0, .int p1, .int p2]) (n := 6) (Nat.le_of_ble_eq_true rfl)
  rw [lg_entry_eq]
  generalize (lg_sl ([.ref (b 0), .int p0, .int p1, .int p2]) ++ List.replicate (6 - (lg_sl ([.ref (b 0), .int p0, .int p1, .int p2])).length) Slot.unset).toArray = ls at hl ⊢
  have hl : lv_has ls 6 [(0, .ref (b 0)), (1, .int p0), (2, .int p1), (3, .int p2)] := hl
  refine lv_aload_n hx hb dX9_then_0 rfl (lv_at hl 0 rfl) ?_
  refine lv_iconst (v := 0) hx hb dX9_then_1 (by decide) ?_
  refine va_put (D := (dC, dI)) (ci := 9) (v := .int 0) (ty := .int) (C := RX9) (T := TX9) (N := 67) hx hb hts hiX9 tyX9 tyX9_ok nmX9 hown hK hP hD hS 0 rfl rfl 0 (by decide) v_1 (fun _ h9 => h9) rfl (by decide +kernel) rfl rfl (Nat.le_of_ble_eq_true rfl) dX9_then_2 (fun H locs hP hD hS => ?_)
  have hP : va_P (dC, dI) vwCl (wM b j) H := hP
  have hD : va_D A (wM b j) := hD
  refine lv_aload_n hx hb dX9_then_5 rfl (lv_at hl 0 rfl) ?_
  refine lv_iload_n hx hb dX9_then_6 rfl (lv_at hl 1 rfl) ?_
  refine lv_iload_n hx hb dX9_then_7 rfl (lv_at hl 2 rfl) ?_
  have hFc := va_free (wc := [((b 0), .inr (9, [.int 0, .ref (b 10), .ref (b 11), .ref (b 12), .ref (b 13), .ref (b 14), .ref (b 15), .ref (b 16), .ref (b 17), .ref (b 18), .ref (b 19), .ref (b 20), .ref (b 1), .ref (b 2), .ref (b 3), .ref (b 4), .int 0, .ref (b 5), .int 0, .int 0, .int 0, .int 0, .int 0, .int 0, .int 0, .int (-1), .int 0, .int 0, .int 0, .int 0, .int 0, .ref (b 21), .ref (b 22), .int 0, .ref (b 23), .ref (b 24), .ref (b 25), .ref (b 26), .ref (b 27), .ref (b 28), .ref (b 29), .ref (b 30), .ref (b 31), .ref (b 32), .ref (b 33), .int 0, .int 0, .ref (b 34), .ref (b 35), .ref (b 36), .ref (b 37), .ref (b 38), .int 0, .int 0, .ref (b 39), .ref (b 40), .ref (b 41), .ref (b 42), .ref (b 43), .ref (b 44), .ref (b 45), .int 0, .int 0, .int 0, .ref (b 46), .int 0, .int 0])), ((b 1), .inl ((j 1), 2, .inl (fun _ => 0))), ((b 2), .inl ((j 2), 2, .inl (fun _ => 0))), ((b 3), .inl ((j 3), 2, .inl (fun _ => 0))), ((b 4), .inl ((j 4), 2, .inl begF)), ((b 5), .inl ((j 5), 900, .inl (fun _ => 0)))]) hD hS hA [0, 1, 2, 3, 4, 5] rfl
  refine va_calli (va_runV (As := [.int p0, .int p1]) (rest := []) ⟨hx, hb, hml, hown, hts⟩ (c_X9_isStep l dC dI _ b j p0 p1) (cwV 2 hts g_X9_then_X9_isStep rfl rfl rfl (by decide +kernel) ⟨Nat.le_of_ble_eq_true rfl, Nat.le_of_ble_eq_true rfl⟩) ⟨pu_bl, va_recv hK hP (ci := 9) (q0 := 0) rfl rfl, pu_in hP hK hD⟩ rfl rfl hl.1 rfl (lv_room (Nat.le_of_ble_eq_true rfl)) dX9_then_8 ⟨Nat.le_of_ble_eq_true rfl, Nat.le_of_ble_eq_true rfl⟩) hS (fun q _ h => hFc q h) hFc (fun r_1 u t H1 locs ht hvm hw hB hz1 hk1 hS => ?_)
  obtain ⟨hP, hD⟩ := va_join (wr := []) (w1 := []) hP hD [0, 1, 2, 3, 4, 5] [] rfl rfl (by decide) (by decide) hk1 hFc pu_P0 pu_D0
  clear hk1 hz1 hB ht hvm
  generalize H1 = H at hP hS ⊢
  have hP : va_P (dC, dI) vwCl [] H := hP
  have hD : va_D A [] := hD
  obtain rfl : r_1 = 0 := hw
  refine lv_if_eq (tgt := 29) hx hb dX9_then_11 (by decide) (fun _ => ?_) (fun z => absurd z (by decide))
  refine lv_iconst (v := (-1)) hx hb dX9_then_29 (by decide) ?_
  exact W.iret (v := (-1)) hx hb hr (fun t ht hW => ⟨⟨(-1), (), rfl, by first | rfl | decide | simp_all, trivial⟩, hS.F ht⟩) hS.2.2 dX9_then_30
theorem dX9_spans_0 : decode cX9_spans 0 = .ok (.aload_n 0, 1) := by decide +kernel
theorem dX9_spans_1 : decode cX9_spans 1 = .ok (.iconst 0, 1) := by decide +kernel
theorem dX9_spans_2 : decode cX9_spans 2 = .ok (.putfield 142, 3) := by decide +kernel
theorem dX9_spans_5 : decode cX9_spans 5 = .ok (.aload_n 0, 1) := by decide +kernel
theorem dX9_spans_6 : decode cX9_spans 6 = .ok (.iload_n 1, 1) := by decide +kernel
theorem dX9_spans_7 : decode cX9_spans 7 = .ok (.invokevirtual 387, 3) := by decide +kernel
theorem dX9_spans_10 : decode cX9_spans 10 = .ok (.ifCond .eq 12, 3) := by decide +kernel
theorem dX9_spans_22 : decode cX9_spans 22 = .ok (.iconst (-1), 1) := by decide +kernel
theorem dX9_spans_23 : decode cX9_spans 23 = .ok (.ireturn, 1) := by decide +kernel
def vs_X9_spans : List Cond := .code yX9_spans cX9_spans 3 (some .int) :: ([.fieldLink RX9 142 "ClockReachModel" "thrown" "I", .methodLink RX9 387 yX9_isState, .instanceMethod yX9_isState, .selects RX9 yX9_isState yX9_isState, .initialized RX9, .code yX9_isState cX9_isState 2 (some .boolean), .methodLink RX9 280 yX9_clocks, .instanceMethod yX9_clocks, .selects RX9 yX9_clocks yX9_clocks, .code yX9_clocks cX9_clocks 1 (some .int), .fieldLink RX9 43 "ClockReachModel" "clockMany" "[I", .fieldLink RX9 258 "ClockReachModel" "bank" "I", .fieldLink RX9 328 "ClockReachModel" "side" "I", .fieldLink RX9 273 "ClockReachModel" "hasGraph" "Z"] ++ wsX90)
theorem g_X9_spans_X9_isState : GoodIn vs_X9_spans (wsV RX9 387 RX9 yX9_isState vs_X9_isState) := goodIn_r _ [2, 3, 4, 5, 6, 7, 8, 9, 5, 10, 11, 12, 13, 14, 15, 16, 17, 18, 19, 20, 21, 22, 23, 24, 25, 26, 27, 28, 29, 30, 31, 32, 33, 34, 35, 36, 37, 38, 39, 40, 41, 42, 43, 44, 45, 46, 47, 48, 49, 50, 51, 52, 53, 54, 55, 56, 57, 58, 59, 60, 61, 62, 63, 64, 65, 66, 67, 68, 69, 70, 71, 72, 73, 74, 75, 76, 77, 78, 79, 80, 81] (by decide +kernel) (by decide +kernel)
set_option maxHeartbeats 4000000 in
set_option maxRecDepth 100000 in
theorem c_X9_spans (l : Launch) (dC : Nat → ClassId) (dI : Nat → Nat → Nat) (sz : Nat) (b : Nat → Nat) (j : Nat → ClassId) (p0 : Int32) (p1 : Int32) : Met l yX9_spans vs_X9_spans ({ frames := 2, cells := 0, slots := 0, locals := 41 }) (va_Pc [.ref (b 0), .int p0, .int p1] (pu_B (dC, dI) (wM b j) (tM j) sz)) (va_Qi (fun (r : Int32) (_ : Unit) => r = -1) (fun _ _ => True) (va_A (wM b j) sz)) 0 0 (va_A (wM b j) sz) := by
  refine Met.ofW (cc := cX9_spans) (maxL := 3) (ret := (some .int)) (by decide) rfl ?_
  intro p e s m args below meth c s₁ B hml hv
  obtain ⟨rfl, rfl, hP, hK, hD0⟩ := hv
  have hx := B.exec
  have hb := B.bytes
  have hr := B.returns
  have hts := atoms_spec (ws := vs_X9_spans) B.pre
  have v_1 := hts (.fieldLink RX9 142 "ClockReachModel" "thrown" "I") (List.mem_of_getElem? (i := 1) rfl)
  have hown : s.vm.findClass RX9 = some m.cls := findClass_of_methodNamed B.named
  have hlocks := B.notSynchronized
  have hiX9 : ∀ w ∈ wsX90, w ∈ vs_X9_spans := fun _ h => List.mem_cons_of_mem _ (List.mem_append_right _ h)
  have hD := hD0.self (sz := s.heap.size)
  generalize hAe : va_A (wM b j) s.heap.size = A at hD ⊢
  have hA : ∀ q : Nat, s.heap.size ≤ q → A q := fun q h => by rw [← hAe]; exact Or.inr h
  have hS : va_S A s.heap s.heap [] := va_S.rf
  have hl := lv_entry ([.ref (b 0), .int p0, .int p1]) (n := 3) (Nat.le_of_ble_eq_true rfl)
  rw [lg_entry_eq]
  generalize (lg_sl ([.ref (b 0), .int p0, .int p1]) ++ List.replicate (3 - (lg_sl ([.ref (b 0), .int p0, .int p1])).length) Slot.unset).toArray = ls at hl ⊢
  have hl : lv_has ls 3 [(0, .ref (b 0)), (1, .int p0), (2, .int p1)] := hl
  refine lv_aload_n hx hb dX9_spans_0 rfl (lv_at hl 0 rfl) ?_
  refine lv_iconst (v := 0) hx hb dX9_spans_1 (by decide) ?_
  refine va_put (D := (dC, dI)) (ci := 9) (v := .int 0) (ty := .int) (C := RX9) (T := TX9) (N := 67) hx hb hts hiX9 tyX9 tyX9_ok nmX9 hown hK hP hD hS 0 rfl rfl 0 (by decide) v_1 (fun _ h9 => h9) rfl (by decide +kernel) rfl rfl (Nat.le_of_ble_eq_true rfl) dX9_spans_2 (fun H locs hP hD hS => ?_)
  have hP : va_P (dC, dI) vwCl (wM b j) H := hP
  have hD : va_D A (wM b j) := hD
  refine lv_aload_n hx hb dX9_spans_5 rfl (lv_at hl 0 rfl) ?_
  refine lv_iload_n hx hb dX9_spans_6 rfl (lv_at hl 1 rfl) ?_
  have hFc := va_free (wc := [((b 0), .inr (9, [.int 0, .ref (b 10), .ref (b 11), .ref (b 12), .ref (b 13), .ref (b 14), .ref (b 15), .ref (b 16), .ref (b 17), .ref (b 18), .ref (b 19), .ref (b 20), .ref (b 1), .ref (b 2), .ref (b 3), .ref (b 4), .int 0, .ref (b 5), .int 0, .int 0, .int 0, .int 0, .int 0, .int 0, .int 0, .int (-1), .int 0, .int 0, .int 0, .int 0, .int 0, .ref (b 21), .ref (b 22), .int 0, .ref (b 23), .ref (b 24), .ref (b 25), .ref (b 26), .ref (b 27), .ref (b 28), .ref (b 29), .ref (b 30), .ref (b 31), .ref (b 32), .ref (b 33), .int 0, .int 0, .ref (b 34), .ref (b 35), .ref (b 36), .ref (b 37), .ref (b 38), .int 0, .int 0, .ref (b 39), .ref (b 40), .ref (b 41), .ref (b 42), .ref (b 43), .ref (b 44), .ref (b 45), .int 0, .int 0, .int 0, .ref (b 46), .int 0, .int 0])), ((b 1), .inl ((j 1), 2, .inl (fun _ => 0))), ((b 2), .inl ((j 2), 2, .inl (fun _ => 0))), ((b 3), .inl ((j 3), 2, .inl (fun _ => 0))), ((b 4), .inl ((j 4), 2, .inl begF)), ((b 5), .inl ((j 5), 900, .inl (fun _ => 0)))]) hD hS hA [0, 1, 2, 3, 4, 5] rfl
  refine va_calli (va_runV (As := [.int p0]) (rest := []) ⟨hx, hb, hml, hown, hts⟩ (c_X9_isState l dC dI _ b j p0) (cwV 1 hts g_X9_spans_X9_isState rfl rfl rfl (by decide +kernel) ⟨Nat.le_of_ble_eq_true rfl, Nat.le_of_ble_eq_true rfl⟩) ⟨pu_bl, va_recv hK hP (ci := 9) (q0 := 0) rfl rfl, pu_in hP hK hD⟩ rfl rfl hl.1 rfl (lv_room (Nat.le_of_ble_eq_true rfl)) dX9_spans_7 ⟨Nat.le_of_ble_eq_true rfl, Nat.le_of_ble_eq_true rfl⟩) hS (fun q _ h => hFc q h) hFc (fun r_1 u t H1 locs ht hvm hw hB hz1 hk1 hS => ?_)
  obtain ⟨hP, hD⟩ := va_join (wr := []) (w1 := []) hP hD [0, 1, 2, 3, 4, 5] [] rfl rfl (by decide) (by decide) hk1 hFc pu_P0 pu_D0
  clear hk1 hz1 hB ht hvm
  generalize H1 = H at hP hS ⊢
  have hP : va_P (dC, dI) vwCl [] H := hP
  have hD : va_D A [] := hD
  obtain rfl : r_1 = 0 := hw
  refine lv_if_eq (tgt := 22) hx hb dX9_spans_10 (by decide) (fun _ => ?_) (fun z => absurd z (by decide))
  refine lv_iconst (v := (-1)) hx hb dX9_spans_22 (by decide) ?_
  exact W.iret (v := (-1)) hx hb hr (fun t ht hW => ⟨⟨(-1), (), rfl, by first | rfl | decide | simp_all, trivial⟩, hS.F ht⟩) hS.2.2 dX9_spans_23
theorem dX9_tells_0 : decode cX9_tells 0 = .ok (.aload_n 0, 1) := by decide +kernel
theorem dX9_tells_1 : decode cX9_tells 1 = .ok (.iconst 0, 1) := by decide +kernel
theorem dX9_tells_2 : decode cX9_tells 2 = .ok (.putfield 142, 3) := by decide +kernel
theorem dX9_tells_5 : decode cX9_tells 5 = .ok (.aload_n 0, 1) := by decide +kernel
theorem dX9_tells_6 : decode cX9_tells 6 = .ok (.getfield 46, 3) := by decide +kernel
theorem dX9_tells_9 : decode cX9_tells 9 = .ok (.aload_n 0, 1) := by decide +kernel
theorem dX9_tells_10 : decode cX9_tells 10 = .ok (.getfield 258, 3) := by decide +kernel
theorem dX9_tells_13 : decode cX9_tells 13 = .ok (.iaload, 1) := by decide +kernel
theorem dX9_tells_14 : decode cX9_tells 14 = .ok (.ifCond .eq 13, 3) := by decide +kernel
theorem dX9_tells_27 : decode cX9_tells 27 = .ok (.iconst (-1), 1) := by decide +kernel
theorem dX9_tells_28 : decode cX9_tells 28 = .ok (.ireturn, 1) := by decide +kernel
def vs_X9_tells : List Cond := .code yX9_tells cX9_tells 10 (some .int) :: ([.fieldLink RX9 142 "ClockReachModel" "thrown" "I", .fieldLink RX9 46 "ClockReachModel" "placeMany" "[I", .fieldLink RX9 258 "ClockReachModel" "bank" "I"] ++ wsX90)
set_option maxHeartbeats 4000000 in
set_option maxRecDepth 100000 in
theorem c_X9_tells (l : Launch) (dC : Nat → ClassId) (dI : Nat → Nat → Nat) (sz : Nat) (b : Nat → Nat) (j : Nat → ClassId) (p0 : Int32) (p1 : Int32) (p2 : Int32) (p3 : Int32) (p4 : Int32) (p5 : Int32) : Met l yX9_tells vs_X9_tells ({ frames := 0, cells := 0, slots := 0, locals := 0 }) (va_Pc [.ref (b 0), .int p0, .int p1, .int p2, .int p3, .int p4, .int p5] (pu_B (dC, dI) (wM b j) (tM j) sz)) (va_Qi (fun (r : Int32) (_ : Unit) => r = -1) (fun _ _ => True) (va_A (wM b j) sz)) 0 0 (va_A (wM b j) sz) := by
  refine Met.ofW (cc := cX9_tells) (maxL := 10) (ret := (some .int)) (by decide) rfl ?_
  intro p e s m args below meth c s₁ B hml hv
  obtain ⟨rfl, rfl, hP, hK, hD0⟩ := hv
  have hx := B.exec
  have hb := B.bytes
  have hr := B.returns
  have hts := atoms_spec (ws := vs_X9_tells) B.pre
  have v_1 := hts (.fieldLink RX9 142 "ClockReachModel" "thrown" "I") (List.mem_of_getElem? (i := 1) rfl)
  have v_2 := hts (.fieldLink RX9 46 "ClockReachModel" "placeMany" "[I") (List.mem_of_getElem? (i := 2) rfl)
  have v_3 := hts (.fieldLink RX9 258 "ClockReachModel" "bank" "I") (List.mem_of_getElem? (i := 3) rfl)
  have hown : s.vm.findClass RX9 = some m.cls := findClass_of_methodNamed B.named
  have hlocks := B.notSynchronized
  have hiX9 : ∀ w ∈ wsX90, w ∈ vs_X9_tells := fun _ h => List.mem_cons_of_mem _ (List.mem_append_right _ h)
  have hD := hD0.self (sz := s.heap.size)
  generalize hAe : va_A (wM b j) s.heap.size = A at hD ⊢
  have hA : ∀ q : Nat, s.heap.size ≤ q → A q := fun q h => by rw [← hAe]; exact Or.inr h
  have hS : va_S A s.heap s.heap [] := va_S.rf
  have hl := lv_entry ([.ref (b 0), .int p0, .int p1, .int p2, .int p3, .int p4, .int p5]) (n := 10) (Nat.le_of_ble_eq_true rfl)
  rw [lg_entry_eq]
  generalize (lg_sl ([.ref (b 0), .int p0, .int p1, .int p2, .int p3, .int p4, .int p5]) ++ List.replicate (10 - (lg_sl ([.ref (b 0), .int p0, .int p1, .int p2, .int p3, .int p4, .int p5])).length) Slot.unset).toArray = ls at hl ⊢
  have hl : lv_has ls 10 [(0, .ref (b 0)), (1, .int p0), (2, .int p1), (3, .int p2), (4, .int p3), (5, .int p4), (6, .int p5)] := hl
  refine lv_aload_n hx hb dX9_tells_0 rfl (lv_at hl 0 rfl) ?_
  refine lv_iconst (v := 0) hx hb dX9_tells_1 (by decide) ?_
  refine va_put (D := (dC, dI)) (ci := 9) (v := .int 0) (ty := .int) (C := RX9) (T := TX9) (N := 67) hx hb hts hiX9 tyX9 tyX9_ok nmX9 hown hK hP hD hS 0 rfl rfl 0 (by decide) v_1 (fun _ h9 => h9) rfl (by decide +kernel) rfl rfl (Nat.le_of_ble_eq_true rfl) dX9_tells_2 (fun H locs hP hD hS => ?_)
  have hP : va_P (dC, dI) vwCl (wM b j) H := hP
  have hD : va_D A (wM b j) := hD
  refine lv_aload_n hx hb dX9_tells_5 rfl (lv_at hl 0 rfl) ?_
  refine va_get (D := (dC, dI)) (ci := 9) (v := .ref (b 2)) (C := RX9) (T := TX9) (N := 67) hx hb hts hiX9 hown hK hP 0 rfl rfl 13 (by decide) v_2 (fun _ h9 => h9) rfl dX9_tells_6 ?_
  refine lv_aload_n hx hb dX9_tells_9 rfl (lv_at hl 0 rfl) ?_
  refine va_get (D := (dC, dI)) (ci := 9) (v := .int 0) (C := RX9) (T := TX9) (N := 67) hx hb hts hiX9 hown hK hP 0 rfl rfl 16 (by decide) v_3 (fun _ h9 => h9) rfl dX9_tells_10 ?_
  refine va_iald hx hb hK hP 2 1 rfl rfl (show ¬ (_ ∨ _) by decide) dX9_tells_13 ?_
  refine lv_topi (fun y_1 ey_1 => ?_)
  obtain rfl : y_1 = 0 := ey_1.trans (by first | rfl | decide)
  refine lv_if_eq (tgt := 27) hx hb dX9_tells_14 (by decide) (fun _ => ?_) (fun z => absurd z (by decide))
  refine lv_iconst (v := (-1)) hx hb dX9_tells_27 (by decide) ?_
  exact W.iret (v := (-1)) hx hb hr (fun t ht hW => ⟨⟨(-1), (), rfl, by first | rfl | decide | simp_all, trivial⟩, hS.F ht⟩) hS.2.2 dX9_tells_28
theorem dX9_latest_0 : decode cX9_latest 0 = .ok (.aload_n 0, 1) := by decide +kernel
theorem dX9_latest_1 : decode cX9_latest 1 = .ok (.iconst 0, 1) := by decide +kernel
theorem dX9_latest_2 : decode cX9_latest 2 = .ok (.putfield 142, 3) := by decide +kernel
theorem dX9_latest_5 : decode cX9_latest 5 = .ok (.iload_n 3, 1) := by decide +kernel
theorem dX9_latest_6 : decode cX9_latest 6 = .ok (.iconst 0, 1) := by decide +kernel
theorem dX9_latest_7 : decode cX9_latest 7 = .ok (.sipush 1000, 3) := by decide +kernel
theorem dX9_latest_10 : decode cX9_latest 10 = .ok (.invokestatic 152, 3) := by decide +kernel
theorem dX9_latest_13 : decode cX9_latest 13 = .ok (.ifCond .eq 35, 3) := by decide +kernel
theorem dX9_latest_16 : decode cX9_latest 16 = .ok (.aload_n 0, 1) := by decide +kernel
theorem dX9_latest_17 : decode cX9_latest 17 = .ok (.iload_n 1, 1) := by decide +kernel
theorem dX9_latest_18 : decode cX9_latest 18 = .ok (.iload_n 2, 1) := by decide +kernel
theorem dX9_latest_19 : decode cX9_latest 19 = .ok (.invokevirtual 454, 3) := by decide +kernel
theorem dX9_latest_22 : decode cX9_latest 22 = .ok (.ifCond .eq 26, 3) := by decide +kernel
theorem dX9_latest_48 : decode cX9_latest 48 = .ok (.iconst (-1), 1) := by decide +kernel
theorem dX9_latest_49 : decode cX9_latest 49 = .ok (.ireturn, 1) := by decide +kernel
def vs_X9_latest : List Cond := .code yX9_latest cX9_latest 4 (some .int) :: ([.fieldLink RX9 142 "ClockReachModel" "thrown" "I", .methodLink RX9 152 yX9_in, .static yX9_in, .initialized RX9, .code yX9_in cX9_in 3 (some .boolean), .methodLink RX9 454 yX9_isStep, .instanceMethod yX9_isStep, .selects RX9 yX9_isStep yX9_isStep, .code yX9_isStep cX9_isStep 3 (some .boolean), .methodLink RX9 387 yX9_isState, .instanceMethod yX9_isState, .selects RX9 yX9_isState yX9_isState, .code yX9_isState cX9_isState 2 (some .boolean), .methodLink RX9 280 yX9_clocks, .instanceMethod yX9_clocks, .selects RX9 yX9_clocks yX9_clocks, .code yX9_clocks cX9_clocks 1 (some .int), .fieldLink RX9 43 "ClockReachModel" "clockMany" "[I", .fieldLink RX9 258 "ClockReachModel" "bank" "I", .fieldLink RX9 328 "ClockReachModel" "side" "I", .fieldLink RX9 273 "ClockReachModel" "hasGraph" "Z"] ++ wsX90)
theorem g_X9_latest_X9_in_any : GoodIn vs_X9_latest (va_wsS RX9 152 yX9_in vs_X9_in_any) := goodIn_r _ [2, 3, 4, 5] (by decide +kernel) (by decide +kernel)
theorem g_X9_latest_X9_isStep : GoodIn vs_X9_latest (wsV RX9 454 RX9 yX9_isStep vs_X9_isStep) := goodIn_r _ [6, 7, 8, 4, 9, 10, 11, 12, 4, 13, 14, 15, 16, 17, 18, 19, 20, 21, 22, 23, 24, 25, 26, 27, 28, 29, 30, 31, 32, 33, 34, 35, 36, 37, 38, 39, 40, 41, 42, 43, 44, 45, 46, 47, 48, 49, 50, 51, 52, 53, 54, 55, 56, 57, 58, 59, 60, 61, 62, 63, 64, 65, 66, 67, 68, 69, 70, 71, 72, 73, 74, 75, 76, 77, 78, 79, 80, 81, 82, 83, 84, 85, 86, 87, 88] (by decide +kernel) (by decide +kernel)
set_option maxHeartbeats 4000000 in
set_option maxRecDepth 100000 in
theorem c_X9_latest (l : Launch) (dC : Nat → ClassId) (dI : Nat → Nat → Nat) (sz : Nat) (b : Nat → Nat) (j : Nat → ClassId) (p0 : Int32) (p1 : Int32) (p2 : Int32) : Met l yX9_latest vs_X9_latest ({ frames := 3, cells := 0, slots := 0, locals := 63 }) (va_Pc [.ref (b 0), .int p0, .int p1, .int p2] (pu_B (dC, dI) (wM b j) (tM j) sz)) (va_Qi (fun (r : Int32) (_ : Unit) => r = -1) (fun _ _ => True) (va_A (wM b j) sz)) 0 0 (va_A (wM b j) sz) := by
  refine Met.ofW (cc := cX9_latest) (maxL := 4) (ret := (some .int)) (by decide) rfl ?_
  intro p e s m args below meth c s₁ B hml hv
  obtain ⟨rfl, rfl, hP, hK, hD0⟩ := hv
  have hx := B.exec
  have hb := B.bytes
  have hr := B.returns
  have hts := atoms_spec (ws := vs_X9_latest) B.pre
  have v_1 := hts (.fieldLink RX9 142 "ClockReachModel" "thrown" "I") (List.mem_of_getElem? (i := 1) rfl)
  have hown : s.vm.findClass RX9 = some m.cls := findClass_of_methodNamed B.named
  have hlocks := B.notSynchronized
  have hiX9 : ∀ w ∈ wsX90, w ∈ vs_X9_latest := fun _ h => List.mem_cons_of_mem _ (List.mem_append_right _ h)
  have hD := hD0.self (sz := s.heap.size)
  generalize hAe : va_A (wM b j) s.heap.size = A at hD ⊢
  have hA : ∀ q : Nat, s.heap.size ≤ q → A q := fun q h => by rw [← hAe]; exact Or.inr h
  have hS : va_S A s.heap s.heap [] := va_S.rf
  have hl := lv_entry ([.ref (b 0), .int p0, .int p1, .int p2]) (n := 4) (Nat.le_of_ble_eq_true rfl)
  rw [lg_entry_eq]
  generalize (lg_sl ([.ref (b 0), .int p0, .int p1, .int p2]) ++ List.replicate (4 - (lg_sl ([.ref (b 0), .int p0, .int p1, .int p2])).length) Slot.unset).toArray = ls at hl ⊢
  have hl : lv_has ls 4 [(0, .ref (b 0)), (1, .int p0), (2, .int p1), (3, .int p2)] := hl
  refine lv_aload_n hx hb dX9_latest_0 rfl (lv_at hl 0 rfl) ?_
  refine lv_iconst (v := 0) hx hb dX9_latest_1 (by decide) ?_
  refine va_put (D := (dC, dI)) (ci := 9) (v := .int 0) (ty := .int) (C := RX9) (T := TX9) (N := 67) hx hb hts hiX9 tyX9 tyX9_ok nmX9 hown hK hP hD hS 0 rfl rfl 0 (by decide) v_1 (fun _ h9 => h9) rfl (by decide +kernel) rfl rfl (Nat.le_of_ble_eq_true rfl) dX9_latest_2 (fun H locs hP hD hS => ?_)
  have hP : va_P (dC, dI) vwCl (wM b j) H := hP
  have hD : va_D A (wM b j) := hD
  refine lv_iload_n hx hb dX9_latest_5 rfl (lv_at hl 3 rfl) ?_
  refine lv_iconst (v := 0) hx hb dX9_latest_6 (by decide) ?_
  refine lv_sipush (v := 1000) hx hb dX9_latest_7 (by decide) ?_
  refine va_calli (va_runS (As := [.int p2, .int 0, .int 1000]) (rest := []) ⟨hx, hb, hml, hown, hts⟩ (c_X9_in_any l dC dI _ p2 0 1000) (va_cwS 3 hts g_X9_latest_X9_in_any rfl rfl rfl (by decide +kernel) ⟨Nat.le_of_ble_eq_true rfl, Nat.le_of_ble_eq_true rfl⟩) ⟨pu_bl, pu_in (hP.sub [] rfl) (hK.sub [] rfl) (hD.sub [] (by decide) rfl)⟩ rfl rfl hl.1 rfl (lv_room (Nat.le_of_ble_eq_true rfl)) dX9_latest_10 ⟨Nat.le_of_ble_eq_true rfl, Nat.le_of_ble_eq_true rfl⟩) hS (fun q _ h => pu_fr hS hA q h) (pu_fr hS hA) (fun r_1 u t H1 locs ht hvm hw hB hz1 hk1 hS => ?_)
  have hP := pu_keep hP hk1
  clear hk1 hz1 hB ht hvm
  generalize H1 = H at hP hS ⊢
  rcases hw with rfl | rfl
  · refine lv_if_eq (tgt := 48) hx hb dX9_latest_13 (by decide) (fun _ => ?_) (fun z => absurd z (by decide))
    refine lv_iconst (v := (-1)) hx hb dX9_latest_48 (by decide) ?_
    exact W.iret (v := (-1)) hx hb hr (fun t ht hW => ⟨⟨(-1), (), rfl, by first | rfl | decide | simp_all, trivial⟩, hS.F ht⟩) hS.2.2 dX9_latest_49
  · refine lv_if_eq (tgt := 48) hx hb dX9_latest_13 (by decide) (fun z => absurd z (by decide)) (fun _ => ?_)
    refine lv_aload_n hx hb dX9_latest_16 rfl (lv_at hl 0 rfl) ?_
    refine lv_iload_n hx hb dX9_latest_17 rfl (lv_at hl 1 rfl) ?_
    refine lv_iload_n hx hb dX9_latest_18 rfl (lv_at hl 2 rfl) ?_
    have hFc := va_free (wc := [((b 0), .inr (9, [.int 0, .ref (b 10), .ref (b 11), .ref (b 12), .ref (b 13), .ref (b 14), .ref (b 15), .ref (b 16), .ref (b 17), .ref (b 18), .ref (b 19), .ref (b 20), .ref (b 1), .ref (b 2), .ref (b 3), .ref (b 4), .int 0, .ref (b 5), .int 0, .int 0, .int 0, .int 0, .int 0, .int 0, .int 0, .int (-1), .int 0, .int 0, .int 0, .int 0, .int 0, .ref (b 21), .ref (b 22), .int 0, .ref (b 23), .ref (b 24), .ref (b 25), .ref (b 26), .ref (b 27), .ref (b 28), .ref (b 29), .ref (b 30), .ref (b 31), .ref (b 32), .ref (b 33), .int 0, .int 0, .ref (b 34), .ref (b 35), .ref (b 36), .ref (b 37), .ref (b 38), .int 0, .int 0, .ref (b 39), .ref (b 40), .ref (b 41), .ref (b 42), .ref (b 43), .ref (b 44), .ref (b 45), .int 0, .int 0, .int 0, .ref (b 46), .int 0, .int 0])), ((b 1), .inl ((j 1), 2, .inl (fun _ => 0))), ((b 2), .inl ((j 2), 2, .inl (fun _ => 0))), ((b 3), .inl ((j 3), 2, .inl (fun _ => 0))), ((b 4), .inl ((j 4), 2, .inl begF)), ((b 5), .inl ((j 5), 900, .inl (fun _ => 0)))]) hD hS hA [0, 1, 2, 3, 4, 5] rfl
    refine va_calli (va_runV (As := [.int p0, .int p1]) (rest := []) ⟨hx, hb, hml, hown, hts⟩ (c_X9_isStep l dC dI _ b j p0 p1) (cwV 2 hts g_X9_latest_X9_isStep rfl rfl rfl (by decide +kernel) ⟨Nat.le_of_ble_eq_true rfl, Nat.le_of_ble_eq_true rfl⟩) ⟨pu_bl, va_recv hK hP (ci := 9) (q0 := 0) rfl rfl, pu_in hP hK hD⟩ rfl rfl hl.1 rfl (lv_room (Nat.le_of_ble_eq_true rfl)) dX9_latest_19 ⟨Nat.le_of_ble_eq_true rfl, Nat.le_of_ble_eq_true rfl⟩) hS (fun q _ h => hFc q h) hFc (fun r_2 u t H1 locs ht hvm hw hB hz1 hk1 hS => ?_)
    obtain ⟨hP, hD⟩ := va_join (wr := []) (w1 := []) hP hD [0, 1, 2, 3, 4, 5] [] rfl rfl (by decide) (by decide) hk1 hFc pu_P0 pu_D0
    clear hk1 hz1 hB ht hvm
    generalize H1 = H at hP hS ⊢
    have hP : va_P (dC, dI) vwCl [] H := hP
    have hD : va_D A [] := hD
    obtain rfl : r_2 = 0 := hw
    refine lv_if_eq (tgt := 48) hx hb dX9_latest_22 (by decide) (fun _ => ?_) (fun z => absurd z (by decide))
    refine lv_iconst (v := (-1)) hx hb dX9_latest_48 (by decide) ?_
    exact W.iret (v := (-1)) hx hb hr (fun t ht hW => ⟨⟨(-1), (), rfl, by first | rfl | decide | simp_all, trivial⟩, hS.F ht⟩) hS.2.2 dX9_latest_49
theorem dX9_soonest_0 : decode cX9_soonest 0 = .ok (.aload_n 0, 1) := by decide +kernel
theorem dX9_soonest_1 : decode cX9_soonest 1 = .ok (.iconst 0, 1) := by decide +kernel
theorem dX9_soonest_2 : decode cX9_soonest 2 = .ok (.putfield 142, 3) := by decide +kernel
theorem dX9_soonest_5 : decode cX9_soonest 5 = .ok (.aload_n 0, 1) := by decide +kernel
theorem dX9_soonest_6 : decode cX9_soonest 6 = .ok (.iload_n 1, 1) := by decide +kernel
theorem dX9_soonest_7 : decode cX9_soonest 7 = .ok (.invokevirtual 286, 3) := by decide +kernel
theorem dX9_soonest_10 : decode cX9_soonest 10 = .ok (.ifCond .eq 12, 3) := by decide +kernel
theorem dX9_soonest_22 : decode cX9_soonest 22 = .ok (.iconst (-1), 1) := by decide +kernel
theorem dX9_soonest_23 : decode cX9_soonest 23 = .ok (.ireturn, 1) := by decide +kernel
def vs_X9_soonest : List Cond := .code yX9_soonest cX9_soonest 6 (some .int) :: ([.fieldLink RX9 142 "ClockReachModel" "thrown" "I", .methodLink RX9 286 yX9_isPlace, .instanceMethod yX9_isPlace, .selects RX9 yX9_isPlace yX9_isPlace, .initialized RX9, .code yX9_isPlace cX9_isPlace 2 (some .boolean), .fieldLink RX9 46 "ClockReachModel" "placeMany" "[I", .fieldLink RX9 258 "ClockReachModel" "bank" "I", .methodLink RX9 152 yX9_in, .static yX9_in, .code yX9_in cX9_in 3 (some .boolean)] ++ wsX90)
theorem g_X9_soonest_X9_isPlace : GoodIn vs_X9_soonest (wsV RX9 286 RX9 yX9_isPlace vs_X9_isPlace) := goodIn_r _ [2, 3, 4, 5, 6, 7, 8, 9, 10, 5, 11, 12, 13, 14, 15, 16, 17, 18, 19, 20, 21, 22, 23, 24, 25, 26, 27, 28, 29, 30, 31, 32, 33, 34, 35, 36, 37, 38, 39, 40, 41, 42, 43, 44, 45, 46, 47, 48, 49, 50, 51, 52, 53, 54, 55, 56, 57, 58, 59, 60, 61, 62, 63, 64, 65, 66, 67, 68, 69, 70, 71, 72, 73, 74, 75, 76, 77, 78] (by decide +kernel) (by decide +kernel)
set_option maxHeartbeats 4000000 in
set_option maxRecDepth 100000 in
theorem c_X9_soonest (l : Launch) (dC : Nat → ClassId) (dI : Nat → Nat → Nat) (sz : Nat) (b : Nat → Nat) (j : Nat → ClassId) (p0 : Int32) (p1 : Int32) : Met l yX9_soonest vs_X9_soonest ({ frames := 2, cells := 0, slots := 0, locals := 43 }) (va_Pc [.ref (b 0), .int p0, .int p1] (pu_B (dC, dI) (wM b j) (tM j) sz)) (va_Qi (fun (r : Int32) (_ : Unit) => r = -1) (fun _ _ => True) (va_A (wM b j) sz)) 0 0 (va_A (wM b j) sz) := by
  refine Met.ofW (cc := cX9_soonest) (maxL := 6) (ret := (some .int)) (by decide) rfl ?_
  intro p e s m args below meth c s₁ B hml hv
  obtain ⟨rfl, rfl, hP, hK, hD0⟩ := hv
  have hx := B.exec
  have hb := B.bytes
  have hr := B.returns
  have hts := atoms_spec (ws := vs_X9_soonest) B.pre
  have v_1 := hts (.fieldLink RX9 142 "ClockReachModel" "thrown" "I") (List.mem_of_getElem? (i := 1) rfl)
  have hown : s.vm.findClass RX9 = some m.cls := findClass_of_methodNamed B.named
  have hlocks := B.notSynchronized
  have hiX9 : ∀ w ∈ wsX90, w ∈ vs_X9_soonest := fun _ h => List.mem_cons_of_mem _ (List.mem_append_right _ h)
  have hD := hD0.self (sz := s.heap.size)
  generalize hAe : va_A (wM b j) s.heap.size = A at hD ⊢
  have hA : ∀ q : Nat, s.heap.size ≤ q → A q := fun q h => by rw [← hAe]; exact Or.inr h
  have hS : va_S A s.heap s.heap [] := va_S.rf
  have hl := lv_entry ([.ref (b 0), .int p0, .int p1]) (n := 6) (Nat.le_of_ble_eq_true rfl)
  rw [lg_entry_eq]
  generalize (lg_sl ([.ref (b 0), .int p0, .int p1]) ++ List.replicate (6 - (lg_sl ([.ref (b 0), .int p0, .int p1])).length) Slot.unset).toArray = ls at hl ⊢
  have hl : lv_has ls 6 [(0, .ref (b 0)), (1, .int p0), (2, .int p1)] := hl
  refine lv_aload_n hx hb dX9_soonest_0 rfl (lv_at hl 0 rfl) ?_
  refine lv_iconst (v := 0) hx hb dX9_soonest_1 (by decide) ?_
  refine va_put (D := (dC, dI)) (ci := 9) (v := .int 0) (ty := .int) (C := RX9) (T := TX9) (N := 67) hx hb hts hiX9 tyX9 tyX9_ok nmX9 hown hK hP hD hS 0 rfl rfl 0 (by decide) v_1 (fun _ h9 => h9) rfl (by decide +kernel) rfl rfl (Nat.le_of_ble_eq_true rfl) dX9_soonest_2 (fun H locs hP hD hS => ?_)
  have hP : va_P (dC, dI) vwCl (wM b j) H := hP
  have hD : va_D A (wM b j) := hD
  refine lv_aload_n hx hb dX9_soonest_5 rfl (lv_at hl 0 rfl) ?_
  refine lv_iload_n hx hb dX9_soonest_6 rfl (lv_at hl 1 rfl) ?_
  refine va_calli (va_runV (As := [.int p0]) (rest := []) ⟨hx, hb, hml, hown, hts⟩ (c_X9_isPlace l dC dI _ b j p0) (cwV 1 hts g_X9_soonest_X9_isPlace rfl rfl rfl (by decide +kernel) ⟨Nat.le_of_ble_eq_true rfl, Nat.le_of_ble_eq_true rfl⟩) ⟨pu_bl, va_recv hK hP (ci := 9) (q0 := 0) rfl rfl, pu_in hP hK hD⟩ rfl rfl hl.1 rfl (lv_room (Nat.le_of_ble_eq_true rfl)) dX9_soonest_7 ⟨Nat.le_of_ble_eq_true rfl, Nat.le_of_ble_eq_true rfl⟩) hS (fun q _ h => pu_fr hS hA q h) (pu_fr hS hA) (fun r_1 u t H1 locs ht hvm hw hB hz1 hk1 hS => ?_)
  have hP := pu_keep hP hk1
  clear hk1 hz1 hB ht hvm
  generalize H1 = H at hP hS ⊢
  obtain rfl : r_1 = 0 := hw
  refine lv_if_eq (tgt := 22) hx hb dX9_soonest_10 (by decide) (fun _ => ?_) (fun z => absurd z (by decide))
  refine lv_iconst (v := (-1)) hx hb dX9_soonest_22 (by decide) ?_
  exact W.iret (v := (-1)) hx hb hr (fun t ht hW => ⟨⟨(-1), (), rfl, by first | rfl | decide | simp_all, trivial⟩, hS.F ht⟩) hS.2.2 dX9_soonest_23
theorem dX9_lets_0 : decode cX9_lets 0 = .ok (.aload_n 0, 1) := by decide +kernel
theorem dX9_lets_1 : decode cX9_lets 1 = .ok (.iconst 0, 1) := by decide +kernel
theorem dX9_lets_2 : decode cX9_lets 2 = .ok (.putfield 142, 3) := by decide +kernel
theorem dX9_lets_5 : decode cX9_lets 5 = .ok (.aload_n 0, 1) := by decide +kernel
theorem dX9_lets_6 : decode cX9_lets 6 = .ok (.iload_n 1, 1) := by decide +kernel
theorem dX9_lets_7 : decode cX9_lets 7 = .ok (.iload_n 2, 1) := by decide +kernel
theorem dX9_lets_8 : decode cX9_lets 8 = .ok (.invokevirtual 308, 3) := by decide +kernel
theorem dX9_lets_11 : decode cX9_lets 11 = .ok (.ifCond .eq 21, 3) := by decide +kernel
theorem dX9_lets_32 : decode cX9_lets 32 = .ok (.iconst (-1), 1) := by decide +kernel
theorem dX9_lets_33 : decode cX9_lets 33 = .ok (.ireturn, 1) := by decide +kernel
def vs_X9_lets : List Cond := .code yX9_lets cX9_lets 9 (some .int) :: ([.fieldLink RX9 142 "ClockReachModel" "thrown" "I", .methodLink RX9 308 yX9_isCondition, .instanceMethod yX9_isCondition, .selects RX9 yX9_isCondition yX9_isCondition, .initialized RX9, .code yX9_isCondition cX9_isCondition 3 (some .boolean), .methodLink RX9 295 yX9_manyOf, .instanceMethod yX9_manyOf, .selects RX9 yX9_manyOf yX9_manyOf, .code yX9_manyOf cX9_manyOf 2 (some .int), .methodLink RX9 283 yX9_isEdge, .instanceMethod yX9_isEdge, .selects RX9 yX9_isEdge yX9_isEdge, .code yX9_isEdge cX9_isEdge 2 (some .boolean), .fieldLink RX9 49 "ClockReachModel" "edgeMany" "[I", .fieldLink RX9 258 "ClockReachModel" "bank" "I", .methodLink RX9 152 yX9_in, .static yX9_in, .code yX9_in cX9_in 3 (some .boolean), .methodLink RX9 286 yX9_isPlace, .instanceMethod yX9_isPlace, .selects RX9 yX9_isPlace yX9_isPlace, .code yX9_isPlace cX9_isPlace 2 (some .boolean), .fieldLink RX9 46 "ClockReachModel" "placeMany" "[I"] ++ wsX90)
theorem g_X9_lets_X9_isCondition : GoodIn vs_X9_lets (wsV RX9 308 RX9 yX9_isCondition vs_X9_isCondition) := goodIn_r _ [2, 3, 4, 5, 6, 7, 8, 9, 5, 10, 11, 12, 13, 14, 15, 16, 17, 18, 19, 20, 21, 22, 23, 24, 25, 26, 27, 28, 29, 30, 31, 32, 33, 34, 35, 36, 37, 38, 39, 40, 41, 42, 43, 44, 45, 46, 47, 48, 49, 50, 51, 52, 53, 54, 55, 56, 57, 58, 59, 60, 61, 62, 63, 64, 65, 66, 67, 68, 69, 70, 71, 72, 73, 74, 75, 76, 77, 78, 79, 80, 81, 82, 83, 84, 85, 86, 87, 88, 89, 90, 91] (by decide +kernel) (by decide +kernel)
set_option maxHeartbeats 4000000 in
set_option maxRecDepth 100000 in
theorem c_X9_lets (l : Launch) (dC : Nat → ClassId) (dI : Nat → Nat → Nat) (sz : Nat) (b : Nat → Nat) (j : Nat → ClassId) (p0 : Int32) (p1 : Int32) (p2 : Int32) (p3 : Int32) : Met l yX9_lets vs_X9_lets ({ frames := 4, cells := 0, slots := 0, locals := 86 }) (va_Pc [.ref (b 0), .int p0, .int p1, .int p2, .int p3] (pu_B (dC, dI) (wM b j) (tM j) sz)) (va_Qi (fun (r : Int32) (_ : Unit) => r = -1) (fun _ _ => True) (va_A (wM b j) sz)) 0 0 (va_A (wM b j) sz) := by
  refine Met.ofW (cc := cX9_lets) (maxL := 9) (ret := (some .int)) (by decide) rfl ?_
  intro p e s m args below meth c s₁ B hml hv
  obtain ⟨rfl, rfl, hP, hK, hD0⟩ := hv
  have hx := B.exec
  have hb := B.bytes
  have hr := B.returns
  have hts := atoms_spec (ws := vs_X9_lets) B.pre
  have v_1 := hts (.fieldLink RX9 142 "ClockReachModel" "thrown" "I") (List.mem_of_getElem? (i := 1) rfl)
  have hown : s.vm.findClass RX9 = some m.cls := findClass_of_methodNamed B.named
  have hlocks := B.notSynchronized
  have hiX9 : ∀ w ∈ wsX90, w ∈ vs_X9_lets := fun _ h => List.mem_cons_of_mem _ (List.mem_append_right _ h)
  have hD := hD0.self (sz := s.heap.size)
  generalize hAe : va_A (wM b j) s.heap.size = A at hD ⊢
  have hA : ∀ q : Nat, s.heap.size ≤ q → A q := fun q h => by rw [← hAe]; exact Or.inr h
  have hS : va_S A s.heap s.heap [] := va_S.rf
  have hl := lv_entry ([.ref (b 0), .int p0, .int p1, .int p2, .int p3]) (n := 9) (Nat.le_of_ble_eq_true rfl)
  rw [lg_entry_eq]
  generalize (lg_sl ([.ref (b 0), .int p0, .int p1, .int p2, .int p3]) ++ List.replicate (9 - (lg_sl ([.ref (b 0), .int p0, .int p1, .int p2, .int p3])).length) Slot.unset).toArray = ls at hl ⊢
  have hl : lv_has ls 9 [(0, .ref (b 0)), (1, .int p0), (2, .int p1), (3, .int p2), (4, .int p3)] := hl
  refine lv_aload_n hx hb dX9_lets_0 rfl (lv_at hl 0 rfl) ?_
  refine lv_iconst (v := 0) hx hb dX9_lets_1 (by decide) ?_
  refine va_put (D := (dC, dI)) (ci := 9) (v := .int 0) (ty := .int) (C := RX9) (T := TX9) (N := 67) hx hb hts hiX9 tyX9 tyX9_ok nmX9 hown hK hP hD hS 0 rfl rfl 0 (by decide) v_1 (fun _ h9 => h9) rfl (by decide +kernel) rfl rfl (Nat.le_of_ble_eq_true rfl) dX9_lets_2 (fun H locs hP hD hS => ?_)
  have hP : va_P (dC, dI) vwCl (wM b j) H := hP
  have hD : va_D A (wM b j) := hD
  refine lv_aload_n hx hb dX9_lets_5 rfl (lv_at hl 0 rfl) ?_
  refine lv_iload_n hx hb dX9_lets_6 rfl (lv_at hl 1 rfl) ?_
  refine lv_iload_n hx hb dX9_lets_7 rfl (lv_at hl 2 rfl) ?_
  refine va_calli (va_runV (As := [.int p0, .int p1]) (rest := []) ⟨hx, hb, hml, hown, hts⟩ (c_X9_isCondition l dC dI _ b j p0 p1) (cwV 2 hts g_X9_lets_X9_isCondition rfl rfl rfl (by decide +kernel) ⟨Nat.le_of_ble_eq_true rfl, Nat.le_of_ble_eq_true rfl⟩) ⟨pu_bl, va_recv hK hP (ci := 9) (q0 := 0) rfl rfl, pu_in hP hK hD⟩ rfl rfl hl.1 rfl (lv_room (Nat.le_of_ble_eq_true rfl)) dX9_lets_8 ⟨Nat.le_of_ble_eq_true rfl, Nat.le_of_ble_eq_true rfl⟩) hS (fun q _ h => pu_fr hS hA q h) (pu_fr hS hA) (fun r_1 u t H1 locs ht hvm hw hB hz1 hk1 hS => ?_)
  have hP := pu_keep hP hk1
  clear hk1 hz1 hB ht hvm
  generalize H1 = H at hP hS ⊢
  obtain rfl : r_1 = 0 := hw
  refine lv_if_eq (tgt := 32) hx hb dX9_lets_11 (by decide) (fun _ => ?_) (fun z => absurd z (by decide))
  refine lv_iconst (v := (-1)) hx hb dX9_lets_32 (by decide) ?_
  exact W.iret (v := (-1)) hx hb hr (fun t ht hW => ⟨⟨(-1), (), rfl, by first | rfl | decide | simp_all, trivial⟩, hS.F ht⟩) hS.2.2 dX9_lets_33
theorem dX9_takes_0 : decode cX9_takes 0 = .ok (.aload_n 0, 1) := by decide +kernel
theorem dX9_takes_1 : decode cX9_takes 1 = .ok (.iconst 0, 1) := by decide +kernel
theorem dX9_takes_2 : decode cX9_takes 2 = .ok (.putfield 142, 3) := by decide +kernel
theorem dX9_takes_5 : decode cX9_takes 5 = .ok (.aload_n 0, 1) := by decide +kernel
theorem dX9_takes_6 : decode cX9_takes 6 = .ok (.getfield 277, 3) := by decide +kernel
theorem dX9_takes_9 : decode cX9_takes 9 = .ok (.ifCond .eq 19, 3) := by decide +kernel
theorem dX9_takes_28 : decode cX9_takes 28 = .ok (.iconst (-1), 1) := by decide +kernel
theorem dX9_takes_29 : decode cX9_takes 29 = .ok (.ireturn, 1) := by decide +kernel
def vs_X9_takes : List Cond := .code yX9_takes cX9_takes 2 (some .int) :: ([.fieldLink RX9 142 "ClockReachModel" "thrown" "I", .fieldLink RX9 277 "ClockReachModel" "isPlayed" "Z"] ++ wsX90)
set_option maxHeartbeats 4000000 in
set_option maxRecDepth 100000 in
theorem c_X9_takes (l : Launch) (dC : Nat → ClassId) (dI : Nat → Nat → Nat) (sz : Nat) (b : Nat → Nat) (j : Nat → ClassId) (p0 : Int32) : Met l yX9_takes vs_X9_takes ({ frames := 0, cells := 0, slots := 0, locals := 0 }) (va_Pc [.ref (b 0), .int p0] (pu_B (dC, dI) (wM b j) (tM j) sz)) (va_Qi (fun (r : Int32) (_ : Unit) => r = -1) (fun _ _ => True) (va_A (wM b j) sz)) 0 0 (va_A (wM b j) sz) := by
  refine Met.ofW (cc := cX9_takes) (maxL := 2) (ret := (some .int)) (by decide) rfl ?_
  intro p e s m args below meth c s₁ B hml hv
  obtain ⟨rfl, rfl, hP, hK, hD0⟩ := hv
  have hx := B.exec
  have hb := B.bytes
  have hr := B.returns
  have hts := atoms_spec (ws := vs_X9_takes) B.pre
  have v_1 := hts (.fieldLink RX9 142 "ClockReachModel" "thrown" "I") (List.mem_of_getElem? (i := 1) rfl)
  have v_2 := hts (.fieldLink RX9 277 "ClockReachModel" "isPlayed" "Z") (List.mem_of_getElem? (i := 2) rfl)
  have hown : s.vm.findClass RX9 = some m.cls := findClass_of_methodNamed B.named
  have hlocks := B.notSynchronized
  have hiX9 : ∀ w ∈ wsX90, w ∈ vs_X9_takes := fun _ h => List.mem_cons_of_mem _ (List.mem_append_right _ h)
  have hD := hD0.self (sz := s.heap.size)
  generalize hAe : va_A (wM b j) s.heap.size = A at hD ⊢
  have hA : ∀ q : Nat, s.heap.size ≤ q → A q := fun q h => by rw [← hAe]; exact Or.inr h
  have hS : va_S A s.heap s.heap [] := va_S.rf
  have hl := lv_entry ([.ref (b 0), .int p0]) (n := 2) (Nat.le_of_ble_eq_true rfl)
  rw [lg_entry_eq]
  generalize (lg_sl ([.ref (b 0), .int p0]) ++ List.replicate (2 - (lg_sl ([.ref (b 0), .int p0])).length) Slot.unset).toArray = ls at hl ⊢
  have hl : lv_has ls 2 [(0, .ref (b 0)), (1, .int p0)] := hl
  refine lv_aload_n hx hb dX9_takes_0 rfl (lv_at hl 0 rfl) ?_
  refine lv_iconst (v := 0) hx hb dX9_takes_1 (by decide) ?_
  refine va_put (D := (dC, dI)) (ci := 9) (v := .int 0) (ty := .int) (C := RX9) (T := TX9) (N := 67) hx hb hts hiX9 tyX9 tyX9_ok nmX9 hown hK hP hD hS 0 rfl rfl 0 (by decide) v_1 (fun _ h9 => h9) rfl (by decide +kernel) rfl rfl (Nat.le_of_ble_eq_true rfl) dX9_takes_2 (fun H locs hP hD hS => ?_)
  have hP : va_P (dC, dI) vwCl (wM b j) H := hP
  have hD : va_D A (wM b j) := hD
  refine lv_aload_n hx hb dX9_takes_5 rfl (lv_at hl 0 rfl) ?_
  refine va_get (D := (dC, dI)) (ci := 9) (v := .int 0) (C := RX9) (T := TX9) (N := 67) hx hb hts hiX9 hown hK hP 0 rfl rfl 30 (by decide) v_2 (fun _ h9 => h9) rfl dX9_takes_6 ?_
  refine lv_if_eq (tgt := 28) hx hb dX9_takes_9 (by decide) (fun _ => ?_) (fun z => absurd z (by decide))
  refine lv_iconst (v := (-1)) hx hb dX9_takes_28 (by decide) ?_
  exact W.iret (v := (-1)) hx hb hr (fun t ht hW => ⟨⟨(-1), (), rfl, by first | rfl | decide | simp_all, trivial⟩, hS.F ht⟩) hS.2.2 dX9_takes_29
theorem dX9_now_0 : decode cX9_now 0 = .ok (.aload_n 0, 1) := by decide +kernel
theorem dX9_now_1 : decode cX9_now 1 = .ok (.iconst 0, 1) := by decide +kernel
theorem dX9_now_2 : decode cX9_now 2 = .ok (.putfield 142, 3) := by decide +kernel
theorem dX9_now_5 : decode cX9_now 5 = .ok (.aload_n 0, 1) := by decide +kernel
theorem dX9_now_6 : decode cX9_now 6 = .ok (.getfield 277, 3) := by decide +kernel
theorem dX9_now_9 : decode cX9_now 9 = .ok (.ifCond .eq 12, 3) := by decide +kernel
theorem dX9_now_21 : decode cX9_now 21 = .ok (.iconst (-1), 1) := by decide +kernel
theorem dX9_now_22 : decode cX9_now 22 = .ok (.ireturn, 1) := by decide +kernel
def vs_X9_now : List Cond := .code yX9_now cX9_now 4 (some .int) :: ([.fieldLink RX9 142 "ClockReachModel" "thrown" "I", .fieldLink RX9 277 "ClockReachModel" "isPlayed" "Z"] ++ wsX90)
set_option maxHeartbeats 4000000 in
set_option maxRecDepth 100000 in
theorem c_X9_now (l : Launch) (dC : Nat → ClassId) (dI : Nat → Nat → Nat) (sz : Nat) (b : Nat → Nat) (j : Nat → ClassId) (p0 : Int32) : Met l yX9_now vs_X9_now ({ frames := 0, cells := 0, slots := 0, locals := 0 }) (va_Pc [.ref (b 0), .int p0] (pu_B (dC, dI) (wM b j) (tM j) sz)) (va_Qi (fun (r : Int32) (_ : Unit) => r = -1) (fun _ _ => True) (va_A (wM b j) sz)) 0 0 (va_A (wM b j) sz) := by
  refine Met.ofW (cc := cX9_now) (maxL := 4) (ret := (some .int)) (by decide) rfl ?_
  intro p e s m args below meth c s₁ B hml hv
  obtain ⟨rfl, rfl, hP, hK, hD0⟩ := hv
  have hx := B.exec
  have hb := B.bytes
  have hr := B.returns
  have hts := atoms_spec (ws := vs_X9_now) B.pre
  have v_1 := hts (.fieldLink RX9 142 "ClockReachModel" "thrown" "I") (List.mem_of_getElem? (i := 1) rfl)
  have v_2 := hts (.fieldLink RX9 277 "ClockReachModel" "isPlayed" "Z") (List.mem_of_getElem? (i := 2) rfl)
  have hown : s.vm.findClass RX9 = some m.cls := findClass_of_methodNamed B.named
  have hlocks := B.notSynchronized
  have hiX9 : ∀ w ∈ wsX90, w ∈ vs_X9_now := fun _ h => List.mem_cons_of_mem _ (List.mem_append_right _ h)
  have hD := hD0.self (sz := s.heap.size)
  generalize hAe : va_A (wM b j) s.heap.size = A at hD ⊢
  have hA : ∀ q : Nat, s.heap.size ≤ q → A q := fun q h => by rw [← hAe]; exact Or.inr h
  have hS : va_S A s.heap s.heap [] := va_S.rf
  have hl := lv_entry ([.ref (b 0), .int p0]) (n := 4) (Nat.le_of_ble_eq_true rfl)
  rw [lg_entry_eq]
  generalize (lg_sl ([.ref (b 0), .int p0]) ++ List.replicate (4 - (lg_sl ([.ref (b 0), .int p0])).length) Slot.unset).toArray = ls at hl ⊢
  have hl : lv_has ls 4 [(0, .ref (b 0)), (1, .int p0)] := hl
  refine lv_aload_n hx hb dX9_now_0 rfl (lv_at hl 0 rfl) ?_
  refine lv_iconst (v := 0) hx hb dX9_now_1 (by decide) ?_
  refine va_put (D := (dC, dI)) (ci := 9) (v := .int 0) (ty := .int) (C := RX9) (T := TX9) (N := 67) hx hb hts hiX9 tyX9 tyX9_ok nmX9 hown hK hP hD hS 0 rfl rfl 0 (by decide) v_1 (fun _ h9 => h9) rfl (by decide +kernel) rfl rfl (Nat.le_of_ble_eq_true rfl) dX9_now_2 (fun H locs hP hD hS => ?_)
  have hP : va_P (dC, dI) vwCl (wM b j) H := hP
  have hD : va_D A (wM b j) := hD
  refine lv_aload_n hx hb dX9_now_5 rfl (lv_at hl 0 rfl) ?_
  refine va_get (D := (dC, dI)) (ci := 9) (v := .int 0) (C := RX9) (T := TX9) (N := 67) hx hb hts hiX9 hown hK hP 0 rfl rfl 30 (by decide) v_2 (fun _ h9 => h9) rfl dX9_now_6 ?_
  refine lv_if_eq (tgt := 21) hx hb dX9_now_9 (by decide) (fun _ => ?_) (fun z => absurd z (by decide))
  refine lv_iconst (v := (-1)) hx hb dX9_now_21 (by decide) ?_
  exact W.iret (v := (-1)) hx hb hr (fun t ht hW => ⟨⟨(-1), (), rfl, by first | rfl | decide | simp_all, trivial⟩, hS.F ht⟩) hS.2.2 dX9_now_22
theorem dX9_begin_0 : decode cX9_begin 0 = .ok (.aload_n 0, 1) := by decide +kernel
theorem dX9_begin_1 : decode cX9_begin 1 = .ok (.iconst 0, 1) := by decide +kernel
theorem dX9_begin_2 : decode cX9_begin 2 = .ok (.putfield 142, 3) := by decide +kernel
theorem dX9_begin_5 : decode cX9_begin 5 = .ok (.aload_n 0, 1) := by decide +kernel
theorem dX9_begin_6 : decode cX9_begin 6 = .ok (.invokevirtual 475, 3) := by decide +kernel
theorem dX9_begin_9 : decode cX9_begin 9 = .ok (.ifCond .eq 10, 3) := by decide +kernel
theorem dX9_begin_19 : decode cX9_begin 19 = .ok (.iconst (-1), 1) := by decide +kernel
theorem dX9_begin_20 : decode cX9_begin 20 = .ok (.ireturn, 1) := by decide +kernel
def vs_X9_begin : List Cond := .code yX9_begin cX9_begin 1 (some .int) :: ([.fieldLink RX9 142 "ClockReachModel" "thrown" "I", .methodLink RX9 475 yX9_beginsPlay, .instanceMethod yX9_beginsPlay, .selects RX9 yX9_beginsPlay yX9_beginsPlay, .initialized RX9, .code yX9_beginsPlay cX9_beginsPlay 2 (some .boolean), .fieldLink RX9 277 "ClockReachModel" "isPlayed" "Z", .fieldLink RX9 46 "ClockReachModel" "placeMany" "[I", .fieldLink RX9 258 "ClockReachModel" "bank" "I"] ++ wsX90)
theorem g_X9_begin_X9_beginsPlay : GoodIn vs_X9_begin (wsV RX9 475 RX9 yX9_beginsPlay vs_X9_beginsPlay) := goodIn_r _ [2, 3, 4, 5, 6, 7, 8, 9, 10, 11, 12, 13, 14, 15, 16, 17, 18, 19, 20, 21, 22, 23, 24, 25, 26, 27, 28, 29, 30, 31, 32, 33, 34, 35, 36, 37, 38, 39, 40, 41, 42, 43, 44, 45, 46, 47, 48, 49, 50, 51, 52, 53, 54, 55, 56, 57, 58, 59, 60, 61, 62, 63, 64, 65, 66, 67, 68, 69, 70, 71, 72, 73, 74, 75, 76] (by decide +kernel) (by decide +kernel)
set_option maxHeartbeats 4000000 in
set_option maxRecDepth 100000 in
theorem c_X9_begin (l : Launch) (dC : Nat → ClassId) (dI : Nat → Nat → Nat) (sz : Nat) (b : Nat → Nat) (j : Nat → ClassId) : Met l yX9_begin vs_X9_begin ({ frames := 1, cells := 0, slots := 0, locals := 21 }) (va_Pc [.ref (b 0)] (pu_B (dC, dI) (wM b j) (tM j) sz)) (va_Qi (fun (r : Int32) (_ : Unit) => r = -1) (fun _ _ => True) (va_A (wM b j) sz)) 0 0 (va_A (wM b j) sz) := by
  refine Met.ofW (cc := cX9_begin) (maxL := 1) (ret := (some .int)) (by decide) rfl ?_
  intro p e s m args below meth c s₁ B hml hv
  obtain ⟨rfl, rfl, hP, hK, hD0⟩ := hv
  have hx := B.exec
  have hb := B.bytes
  have hr := B.returns
  have hts := atoms_spec (ws := vs_X9_begin) B.pre
  have v_1 := hts (.fieldLink RX9 142 "ClockReachModel" "thrown" "I") (List.mem_of_getElem? (i := 1) rfl)
  have hown : s.vm.findClass RX9 = some m.cls := findClass_of_methodNamed B.named
  have hlocks := B.notSynchronized
  have hiX9 : ∀ w ∈ wsX90, w ∈ vs_X9_begin := fun _ h => List.mem_cons_of_mem _ (List.mem_append_right _ h)
  have hD := hD0.self (sz := s.heap.size)
  generalize hAe : va_A (wM b j) s.heap.size = A at hD ⊢
  have hA : ∀ q : Nat, s.heap.size ≤ q → A q := fun q h => by rw [← hAe]; exact Or.inr h
  have hS : va_S A s.heap s.heap [] := va_S.rf
  have hl := lv_entry ([.ref (b 0)]) (n := 1) (Nat.le_of_ble_eq_true rfl)
  rw [lg_entry_eq]
  generalize (lg_sl ([.ref (b 0)]) ++ List.replicate (1 - (lg_sl ([.ref (b 0)])).length) Slot.unset).toArray = ls at hl ⊢
  have hl : lv_has ls 1 [(0, .ref (b 0))] := hl
  refine lv_aload_n hx hb dX9_begin_0 rfl (lv_at hl 0 rfl) ?_
  refine lv_iconst (v := 0) hx hb dX9_begin_1 (by decide) ?_
  refine va_put (D := (dC, dI)) (ci := 9) (v := .int 0) (ty := .int) (C := RX9) (T := TX9) (N := 67) hx hb hts hiX9 tyX9 tyX9_ok nmX9 hown hK hP hD hS 0 rfl rfl 0 (by decide) v_1 (fun _ h9 => h9) rfl (by decide +kernel) rfl rfl (Nat.le_of_ble_eq_true rfl) dX9_begin_2 (fun H locs hP hD hS => ?_)
  have hP : va_P (dC, dI) vwCl (wM b j) H := hP
  have hD : va_D A (wM b j) := hD
  refine lv_aload_n hx hb dX9_begin_5 rfl (lv_at hl 0 rfl) ?_
  have hFc := va_free (wc := [((b 0), .inr (9, [.int 0, .ref (b 10), .ref (b 11), .ref (b 12), .ref (b 13), .ref (b 14), .ref (b 15), .ref (b 16), .ref (b 17), .ref (b 18), .ref (b 19), .ref (b 20), .ref (b 1), .ref (b 2), .ref (b 3), .ref (b 4), .int 0, .ref (b 5), .int 0, .int 0, .int 0, .int 0, .int 0, .int 0, .int 0, .int (-1), .int 0, .int 0, .int 0, .int 0, .int 0, .ref (b 21), .ref (b 22), .int 0, .ref (b 23), .ref (b 24), .ref (b 25), .ref (b 26), .ref (b 27), .ref (b 28), .ref (b 29), .ref (b 30), .ref (b 31), .ref (b 32), .ref (b 33), .int 0, .int 0, .ref (b 34), .ref (b 35), .ref (b 36), .ref (b 37), .ref (b 38), .int 0, .int 0, .ref (b 39), .ref (b 40), .ref (b 41), .ref (b 42), .ref (b 43), .ref (b 44), .ref (b 45), .int 0, .int 0, .int 0, .ref (b 46), .int 0, .int 0])), ((b 1), .inl ((j 1), 2, .inl (fun _ => 0))), ((b 2), .inl ((j 2), 2, .inl (fun _ => 0))), ((b 3), .inl ((j 3), 2, .inl (fun _ => 0))), ((b 4), .inl ((j 4), 2, .inl begF)), ((b 5), .inl ((j 5), 900, .inl (fun _ => 0)))]) hD hS hA [0, 1, 2, 3, 4, 5] rfl
  refine va_calli (va_runV (As := []) (rest := []) ⟨hx, hb, hml, hown, hts⟩ (c_X9_beginsPlay l dC dI _ b j) (cwV 0 hts g_X9_begin_X9_beginsPlay rfl rfl rfl (by decide +kernel) ⟨Nat.le_of_ble_eq_true rfl, Nat.le_of_ble_eq_true rfl⟩) ⟨pu_bl, va_recv hK hP (ci := 9) (q0 := 0) rfl rfl, pu_in hP hK hD⟩ rfl rfl hl.1 rfl (lv_room (Nat.le_of_ble_eq_true rfl)) dX9_begin_6 ⟨Nat.le_of_ble_eq_true rfl, Nat.le_of_ble_eq_true rfl⟩) hS (fun q _ h => hFc q h) hFc (fun r_1 u t H1 locs ht hvm hw hB hz1 hk1 hS => ?_)
  obtain ⟨hP, hD⟩ := va_join (wr := []) (w1 := []) hP hD [0, 1, 2, 3, 4, 5] [] rfl rfl (by decide) (by decide) hk1 hFc pu_P0 pu_D0
  clear hk1 hz1 hB ht hvm
  generalize H1 = H at hP hS ⊢
  have hP : va_P (dC, dI) vwCl [] H := hP
  have hD : va_D A [] := hD
  obtain rfl : r_1 = 0 := hw
  refine lv_if_eq (tgt := 19) hx hb dX9_begin_9 (by decide) (fun _ => ?_) (fun z => absurd z (by decide))
  refine lv_iconst (v := (-1)) hx hb dX9_begin_19 (by decide) ?_
  exact W.iret (v := (-1)) hx hb hr (fun t ht hW => ⟨⟨(-1), (), rfl, by first | rfl | decide | simp_all, trivial⟩, hS.F ht⟩) hS.2.2 dX9_begin_20
theorem dX9_bound_0 : decode cX9_bound 0 = .ok (.aload_n 0, 1) := by decide +kernel
theorem dX9_bound_1 : decode cX9_bound 1 = .ok (.iconst 0, 1) := by decide +kernel
theorem dX9_bound_2 : decode cX9_bound 2 = .ok (.putfield 142, 3) := by decide +kernel
theorem dX9_bound_5 : decode cX9_bound 5 = .ok (.aload_n 0, 1) := by decide +kernel
theorem dX9_bound_6 : decode cX9_bound 6 = .ok (.iload_n 1, 1) := by decide +kernel
theorem dX9_bound_7 : decode cX9_bound 7 = .ok (.invokevirtual 387, 3) := by decide +kernel
theorem dX9_bound_10 : decode cX9_bound 10 = .ok (.ifCond .eq 41, 3) := by decide +kernel
theorem dX9_bound_51 : decode cX9_bound 51 = .ok (.ldc_w 393, 3) := by decide +kernel
theorem dX9_bound_54 : decode cX9_bound 54 = .ok (.ireturn, 1) := by decide +kernel
def vs_X9_bound : List Cond := .code yX9_bound cX9_bound 6 (some .int) :: ([.fieldLink RX9 142 "ClockReachModel" "thrown" "I", .methodLink RX9 387 yX9_isState, .instanceMethod yX9_isState, .selects RX9 yX9_isState yX9_isState, .initialized RX9, .code yX9_isState cX9_isState 2 (some .boolean), .methodLink RX9 280 yX9_clocks, .instanceMethod yX9_clocks, .selects RX9 yX9_clocks yX9_clocks, .code yX9_clocks cX9_clocks 1 (some .int), .fieldLink RX9 43 "ClockReachModel" "clockMany" "[I", .fieldLink RX9 258 "ClockReachModel" "bank" "I", .fieldLink RX9 328 "ClockReachModel" "side" "I", .fieldLink RX9 273 "ClockReachModel" "hasGraph" "Z", .constant RX9 393 (-2147483648)] ++ wsX90)
theorem g_X9_bound_X9_isState : GoodIn vs_X9_bound (wsV RX9 387 RX9 yX9_isState vs_X9_isState) := goodIn_r _ [2, 3, 4, 5, 6, 7, 8, 9, 5, 10, 11, 12, 13, 14, 16, 17, 18, 19, 20, 21, 22, 23, 24, 25, 26, 27, 28, 29, 30, 31, 32, 33, 34, 35, 36, 37, 38, 39, 40, 41, 42, 43, 44, 45, 46, 47, 48, 49, 50, 51, 52, 53, 54, 55, 56, 57, 58, 59, 60, 61, 62, 63, 64, 65, 66, 67, 68, 69, 70, 71, 72, 73, 74, 75, 76, 77, 78, 79, 80, 81, 82] (by decide +kernel) (by decide +kernel)
set_option maxHeartbeats 4000000 in
set_option maxRecDepth 100000 in
theorem c_X9_bound (l : Launch) (dC : Nat → ClassId) (dI : Nat → Nat → Nat) (sz : Nat) (b : Nat → Nat) (j : Nat → ClassId) (p0 : Int32) (p1 : Int32) (p2 : Int32) (p3 : Int32) : Met l yX9_bound vs_X9_bound ({ frames := 2, cells := 0, slots := 0, locals := 41 }) (va_Pc [.ref (b 0), .int p0, .int p1, .int p2, .int p3] (pu_B (dC, dI) (wM b j) (tM j) sz)) (va_Qi (fun (r : Int32) (_ : Unit) => r = -2147483648) (fun _ _ => True) (va_A (wM b j) sz)) 0 0 (va_A (wM b j) sz) := by
  refine Met.ofW (cc := cX9_bound) (maxL := 6) (ret := (some .int)) (by decide) rfl ?_
  intro p e s m args below meth c s₁ B hml hv
  obtain ⟨rfl, rfl, hP, hK, hD0⟩ := hv
  have hx := B.exec
  have hb := B.bytes
  have hr := B.returns
  have hts := atoms_spec (ws := vs_X9_bound) B.pre
  have v_1 := hts (.fieldLink RX9 142 "ClockReachModel" "thrown" "I") (List.mem_of_getElem? (i := 1) rfl)
  have v_15 := hts (.constant RX9 393 (-2147483648)) (List.mem_of_getElem? (i := 15) rfl)
  have hown : s.vm.findClass RX9 = some m.cls := findClass_of_methodNamed B.named
  have hlocks := B.notSynchronized
  have hiX9 : ∀ w ∈ wsX90, w ∈ vs_X9_bound := fun _ h => List.mem_cons_of_mem _ (List.mem_append_right _ h)
  have hD := hD0.self (sz := s.heap.size)
  generalize hAe : va_A (wM b j) s.heap.size = A at hD ⊢
  have hA : ∀ q : Nat, s.heap.size ≤ q → A q := fun q h => by rw [← hAe]; exact Or.inr h
  have hS : va_S A s.heap s.heap [] := va_S.rf
  have hl := lv_entry ([.ref (b 0), .int p0, .int p1, .int p2, .int p3]) (n := 6) (Nat.le_of_ble_eq_true rfl)
  rw [lg_entry_eq]
  generalize (lg_sl ([.ref (b 0), .int p0, .int p1, .int p2, .int p3]) ++ List.replicate (6 - (lg_sl ([.ref (b 0), .int p0, .int p1, .int p2, .int p3])).length) Slot.unset).toArray = ls at hl ⊢
  have hl : lv_has ls 6 [(0, .ref (b 0)), (1, .int p0), (2, .int p1), (3, .int p2), (4, .int p3)] := hl
  refine lv_aload_n hx hb dX9_bound_0 rfl (lv_at hl 0 rfl) ?_
  refine lv_iconst (v := 0) hx hb dX9_bound_1 (by decide) ?_
  refine va_put (D := (dC, dI)) (ci := 9) (v := .int 0) (ty := .int) (C := RX9) (T := TX9) (N := 67) hx hb hts hiX9 tyX9 tyX9_ok nmX9 hown hK hP hD hS 0 rfl rfl 0 (by decide) v_1 (fun _ h9 => h9) rfl (by decide +kernel) rfl rfl (Nat.le_of_ble_eq_true rfl) dX9_bound_2 (fun H locs hP hD hS => ?_)
  have hP : va_P (dC, dI) vwCl (wM b j) H := hP
  have hD : va_D A (wM b j) := hD
  refine lv_aload_n hx hb dX9_bound_5 rfl (lv_at hl 0 rfl) ?_
  refine lv_iload_n hx hb dX9_bound_6 rfl (lv_at hl 1 rfl) ?_
  have hFc := va_free (wc := [((b 0), .inr (9, [.int 0, .ref (b 10), .ref (b 11), .ref (b 12), .ref (b 13), .ref (b 14), .ref (b 15), .ref (b 16), .ref (b 17), .ref (b 18), .ref (b 19), .ref (b 20), .ref (b 1), .ref (b 2), .ref (b 3), .ref (b 4), .int 0, .ref (b 5), .int 0, .int 0, .int 0, .int 0, .int 0, .int 0, .int 0, .int (-1), .int 0, .int 0, .int 0, .int 0, .int 0, .ref (b 21), .ref (b 22), .int 0, .ref (b 23), .ref (b 24), .ref (b 25), .ref (b 26), .ref (b 27), .ref (b 28), .ref (b 29), .ref (b 30), .ref (b 31), .ref (b 32), .ref (b 33), .int 0, .int 0, .ref (b 34), .ref (b 35), .ref (b 36), .ref (b 37), .ref (b 38), .int 0, .int 0, .ref (b 39), .ref (b 40), .ref (b 41), .ref (b 42), .ref (b 43), .ref (b 44), .ref (b 45), .int 0, .int 0, .int 0, .ref (b 46), .int 0, .int 0])), ((b 1), .inl ((j 1), 2, .inl (fun _ => 0))), ((b 2), .inl ((j 2), 2, .inl (fun _ => 0))), ((b 3), .inl ((j 3), 2, .inl (fun _ => 0))), ((b 4), .inl ((j 4), 2, .inl begF)), ((b 5), .inl ((j 5), 900, .inl (fun _ => 0)))]) hD hS hA [0, 1, 2, 3, 4, 5] rfl
  refine va_calli (va_runV (As := [.int p0]) (rest := []) ⟨hx, hb, hml, hown, hts⟩ (c_X9_isState l dC dI _ b j p0) (cwV 1 hts g_X9_bound_X9_isState rfl rfl rfl (by decide +kernel) ⟨Nat.le_of_ble_eq_true rfl, Nat.le_of_ble_eq_true rfl⟩) ⟨pu_bl, va_recv hK hP (ci := 9) (q0 := 0) rfl rfl, pu_in hP hK hD⟩ rfl rfl hl.1 rfl (lv_room (Nat.le_of_ble_eq_true rfl)) dX9_bound_7 ⟨Nat.le_of_ble_eq_true rfl, Nat.le_of_ble_eq_true rfl⟩) hS (fun q _ h => hFc q h) hFc (fun r_1 u t H1 locs ht hvm hw hB hz1 hk1 hS => ?_)
  obtain ⟨hP, hD⟩ := va_join (wr := []) (w1 := []) hP hD [0, 1, 2, 3, 4, 5] [] rfl rfl (by decide) (by decide) hk1 hFc pu_P0 pu_D0
  clear hk1 hz1 hB ht hvm
  generalize H1 = H at hP hS ⊢
  have hP : va_P (dC, dI) vwCl [] H := hP
  have hD : va_D A [] := hD
  obtain rfl : r_1 = 0 := hw
  refine lv_if_eq (tgt := 51) hx hb dX9_bound_10 (by decide) (fun _ => ?_) (fun z => absurd z (by decide))
  refine lv_ldcw hx hb hown v_15 dX9_bound_51 ?_
  exact W.iret (v := (-2147483648)) hx hb hr (fun t ht hW => ⟨⟨(-2147483648), (), rfl, by first | rfl | decide | simp_all, trivial⟩, hS.F ht⟩) hS.2.2 dX9_bound_54
theorem dX9_urgent_0 : decode cX9_urgent 0 = .ok (.aload_n 0, 1) := by decide +kernel
theorem dX9_urgent_1 : decode cX9_urgent 1 = .ok (.iconst 0, 1) := by decide +kernel
theorem dX9_urgent_2 : decode cX9_urgent 2 = .ok (.putfield 142, 3) := by decide +kernel
theorem dX9_urgent_5 : decode cX9_urgent 5 = .ok (.aload_n 0, 1) := by decide +kernel
theorem dX9_urgent_6 : decode cX9_urgent 6 = .ok (.iload_n 1, 1) := by decide +kernel
theorem dX9_urgent_7 : decode cX9_urgent 7 = .ok (.invokevirtual 286, 3) := by decide +kernel
theorem dX9_urgent_10 : decode cX9_urgent 10 = .ok (.ifCond .eq 12, 3) := by decide +kernel
theorem dX9_urgent_22 : decode cX9_urgent 22 = .ok (.iconst 0, 1) := by decide +kernel
theorem dX9_urgent_23 : decode cX9_urgent 23 = .ok (.ireturn, 1) := by decide +kernel
def vs_X9_urgent : List Cond := .code yX9_urgent cX9_urgent 3 (some .boolean) :: ([.fieldLink RX9 142 "ClockReachModel" "thrown" "I", .methodLink RX9 286 yX9_isPlace, .instanceMethod yX9_isPlace, .selects RX9 yX9_isPlace yX9_isPlace, .initialized RX9, .code yX9_isPlace cX9_isPlace 2 (some .boolean), .fieldLink RX9 46 "ClockReachModel" "placeMany" "[I", .fieldLink RX9 258 "ClockReachModel" "bank" "I", .methodLink RX9 152 yX9_in, .static yX9_in, .code yX9_in cX9_in 3 (some .boolean)] ++ wsX90)
theorem g_X9_urgent_X9_isPlace : GoodIn vs_X9_urgent (wsV RX9 286 RX9 yX9_isPlace vs_X9_isPlace) := goodIn_r _ [2, 3, 4, 5, 6, 7, 8, 9, 10, 5, 11, 12, 13, 14, 15, 16, 17, 18, 19, 20, 21, 22, 23, 24, 25, 26, 27, 28, 29, 30, 31, 32, 33, 34, 35, 36, 37, 38, 39, 40, 41, 42, 43, 44, 45, 46, 47, 48, 49, 50, 51, 52, 53, 54, 55, 56, 57, 58, 59, 60, 61, 62, 63, 64, 65, 66, 67, 68, 69, 70, 71, 72, 73, 74, 75, 76, 77, 78] (by decide +kernel) (by decide +kernel)
set_option maxHeartbeats 4000000 in
set_option maxRecDepth 100000 in
theorem c_X9_urgent (l : Launch) (dC : Nat → ClassId) (dI : Nat → Nat → Nat) (sz : Nat) (b : Nat → Nat) (j : Nat → ClassId) (p0 : Int32) (p1 : Int32) : Met l yX9_urgent vs_X9_urgent ({ frames := 2, cells := 0, slots := 0, locals := 43 }) (va_Pc [.ref (b 0), .int p0, .int p1] (pu_B (dC, dI) (wM b j) (tM j) sz)) (va_Qi (fun (r : Int32) (_ : Unit) => r = 0) (fun _ _ => True) (va_A (wM b j) sz)) 0 0 (va_A (wM b j) sz) := by
  refine Met.ofW (cc := cX9_urgent) (maxL := 3) (ret := (some .boolean)) (by decide) rfl ?_
  intro p e s m args below meth c s₁ B hml hv
  obtain ⟨rfl, rfl, hP, hK, hD0⟩ := hv
  have hx := B.exec
  have hb := B.bytes
  have hr := B.returns
  have hts := atoms_spec (ws := vs_X9_urgent) B.pre
  have v_1 := hts (.fieldLink RX9 142 "ClockReachModel" "thrown" "I") (List.mem_of_getElem? (i := 1) rfl)
  have hown : s.vm.findClass RX9 = some m.cls := findClass_of_methodNamed B.named
  have hlocks := B.notSynchronized
  have hiX9 : ∀ w ∈ wsX90, w ∈ vs_X9_urgent := fun _ h => List.mem_cons_of_mem _ (List.mem_append_right _ h)
  have hD := hD0.self (sz := s.heap.size)
  generalize hAe : va_A (wM b j) s.heap.size = A at hD ⊢
  have hA : ∀ q : Nat, s.heap.size ≤ q → A q := fun q h => by rw [← hAe]; exact Or.inr h
  have hS : va_S A s.heap s.heap [] := va_S.rf
  have hl := lv_entry ([.ref (b 0), .int p0, .int p1]) (n := 3) (Nat.le_of_ble_eq_true rfl)
  rw [lg_entry_eq]
  generalize (lg_sl ([.ref (b 0), .int p0, .int p1]) ++ List.replicate (3 - (lg_sl ([.ref (b 0), .int p0, .int p1])).length) Slot.unset).toArray = ls at hl ⊢
  have hl : lv_has ls 3 [(0, .ref (b 0)), (1, .int p0), (2, .int p1)] := hl
  refine lv_aload_n hx hb dX9_urgent_0 rfl (lv_at hl 0 rfl) ?_
  refine lv_iconst (v := 0) hx hb dX9_urgent_1 (by decide) ?_
  refine va_put (D := (dC, dI)) (ci := 9) (v := .int 0) (ty := .int) (C := RX9) (T := TX9) (N := 67) hx hb hts hiX9 tyX9 tyX9_ok nmX9 hown hK hP hD hS 0 rfl rfl 0 (by decide) v_1 (fun _ h9 => h9) rfl (by decide +kernel) rfl rfl (Nat.le_of_ble_eq_true rfl) dX9_urgent_2 (fun H locs hP hD hS => ?_)
  have hP : va_P (dC, dI) vwCl (wM b j) H := hP
  have hD : va_D A (wM b j) := hD
  refine lv_aload_n hx hb dX9_urgent_5 rfl (lv_at hl 0 rfl) ?_
  refine lv_iload_n hx hb dX9_urgent_6 rfl (lv_at hl 1 rfl) ?_
  refine va_calli (va_runV (As := [.int p0]) (rest := []) ⟨hx, hb, hml, hown, hts⟩ (c_X9_isPlace l dC dI _ b j p0) (cwV 1 hts g_X9_urgent_X9_isPlace rfl rfl rfl (by decide +kernel) ⟨Nat.le_of_ble_eq_true rfl, Nat.le_of_ble_eq_true rfl⟩) ⟨pu_bl, va_recv hK hP (ci := 9) (q0 := 0) rfl rfl, pu_in hP hK hD⟩ rfl rfl hl.1 rfl (lv_room (Nat.le_of_ble_eq_true rfl)) dX9_urgent_7 ⟨Nat.le_of_ble_eq_true rfl, Nat.le_of_ble_eq_true rfl⟩) hS (fun q _ h => pu_fr hS hA q h) (pu_fr hS hA) (fun r_1 u t H1 locs ht hvm hw hB hz1 hk1 hS => ?_)
  have hP := pu_keep hP hk1
  clear hk1 hz1 hB ht hvm
  generalize H1 = H at hP hS ⊢
  obtain rfl : r_1 = 0 := hw
  refine lv_if_eq (tgt := 22) hx hb dX9_urgent_10 (by decide) (fun _ => ?_) (fun z => absurd z (by decide))
  refine lv_iconst (v := 0) hx hb dX9_urgent_22 (by decide) ?_
  exact W.zret (v := 0) (ty := .boolean) hx hb hr rfl (fun t ht hW => ⟨⟨0, (), rfl, by first | rfl | decide | simp_all, trivial⟩, hS.F ht⟩) hS.2.2 dX9_urgent_23
theorem dX9_undo_0 : decode cX9_undo 0 = .ok (.aload_n 0, 1) := by decide +kernel
theorem dX9_undo_1 : decode cX9_undo 1 = .ok (.iconst 0, 1) := by decide +kernel
theorem dX9_undo_2 : decode cX9_undo 2 = .ok (.putfield 142, 3) := by decide +kernel
theorem dX9_undo_5 : decode cX9_undo 5 = .ok (.aload_n 0, 1) := by decide +kernel
theorem dX9_undo_6 : decode cX9_undo 6 = .ok (.getfield 267, 3) := by decide +kernel
theorem dX9_undo_9 : decode cX9_undo 9 = .ok (.ifCond .ne 5, 3) := by decide +kernel
theorem dX9_undo_12 : decode cX9_undo 12 = .ok (.iconst 0, 1) := by decide +kernel
theorem dX9_undo_13 : decode cX9_undo 13 = .ok (.ireturn, 1) := by decide +kernel
def vs_X9_undo : List Cond := .code yX9_undo cX9_undo 1 (some .boolean) :: ([.fieldLink RX9 142 "ClockReachModel" "thrown" "I", .fieldLink RX9 267 "ClockReachModel" "acts" "I"] ++ wsX90)
set_option maxHeartbeats 4000000 in
set_option maxRecDepth 100000 in
theorem c_X9_undo (l : Launch) (dC : Nat → ClassId) (dI : Nat → Nat → Nat) (sz : Nat) (b : Nat → Nat) (j : Nat → ClassId) : Met l yX9_undo vs_X9_undo ({ frames := 0, cells := 0, slots := 0, locals := 0 }) (va_Pc [.ref (b 0)] (pu_B (dC, dI) (wM b j) (tM j) sz)) (va_Qi (fun (r : Int32) (_ : Unit) => r = 0) (fun _ _ => True) (va_A (wM b j) sz)) 0 0 (va_A (wM b j) sz) := by
  refine Met.ofW (cc := cX9_undo) (maxL := 1) (ret := (some .boolean)) (by decide) rfl ?_
  intro p e s m args below meth c s₁ B hml hv
  obtain ⟨rfl, rfl, hP, hK, hD0⟩ := hv
  have hx := B.exec
  have hb := B.bytes
  have hr := B.returns
  have hts := atoms_spec (ws := vs_X9_undo) B.pre
  have v_1 := hts (.fieldLink RX9 142 "ClockReachModel" "thrown" "I") (List.mem_of_getElem? (i := 1) rfl)
  have v_2 := hts (.fieldLink RX9 267 "ClockReachModel" "acts" "I") (List.mem_of_getElem? (i := 2) rfl)
  have hown : s.vm.findClass RX9 = some m.cls := findClass_of_methodNamed B.named
  have hlocks := B.notSynchronized
  have hiX9 : ∀ w ∈ wsX90, w ∈ vs_X9_undo := fun _ h => List.mem_cons_of_mem _ (List.mem_append_right _ h)
  have hD := hD0.self (sz := s.heap.size)
  generalize hAe : va_A (wM b j) s.heap.size = A at hD ⊢
  have hA : ∀ q : Nat, s.heap.size ≤ q → A q := fun q h => by rw [← hAe]; exact Or.inr h
  have hS : va_S A s.heap s.heap [] := va_S.rf
  have hl := lv_entry ([.ref (b 0)]) (n := 1) (Nat.le_of_ble_eq_true rfl)
  rw [lg_entry_eq]
  generalize (lg_sl ([.ref (b 0)]) ++ List.replicate (1 - (lg_sl ([.ref (b 0)])).length) Slot.unset).toArray = ls at hl ⊢
  have hl : lv_has ls 1 [(0, .ref (b 0))] := hl
  refine lv_aload_n hx hb dX9_undo_0 rfl (lv_at hl 0 rfl) ?_
  refine lv_iconst (v := 0) hx hb dX9_undo_1 (by decide) ?_
  refine va_put (D := (dC, dI)) (ci := 9) (v := .int 0) (ty := .int) (C := RX9) (T := TX9) (N := 67) hx hb hts hiX9 tyX9 tyX9_ok nmX9 hown hK hP hD hS 0 rfl rfl 0 (by decide) v_1 (fun _ h9 => h9) rfl (by decide +kernel) rfl rfl (Nat.le_of_ble_eq_true rfl) dX9_undo_2 (fun H locs hP hD hS => ?_)
  have hP : va_P (dC, dI) vwCl (wM b j) H := hP
  have hD : va_D A (wM b j) := hD
  refine lv_aload_n hx hb dX9_undo_5 rfl (lv_at hl 0 rfl) ?_
  refine va_get (D := (dC, dI)) (ci := 9) (v := .int 0) (C := RX9) (T := TX9) (N := 67) hx hb hts hiX9 hown hK hP 0 rfl rfl 33 (by decide) v_2 (fun _ h9 => h9) rfl dX9_undo_6 ?_
  refine lv_if_ne (tgt := 14) hx hb dX9_undo_9 (by decide) (fun z => absurd z (by decide)) (fun _ => ?_)
  refine lv_iconst (v := 0) hx hb dX9_undo_12 (by decide) ?_
  exact W.zret (v := 0) (ty := .boolean) hx hb hr rfl (fun t ht hW => ⟨⟨0, (), rfl, by first | rfl | decide | simp_all, trivial⟩, hS.F ht⟩) hS.2.2 dX9_undo_13
theorem dX9_waits_0 : decode cX9_waits 0 = .ok (.aload_n 0, 1) := by decide +kernel
theorem dX9_waits_1 : decode cX9_waits 1 = .ok (.iconst 0, 1) := by decide +kernel
theorem dX9_waits_2 : decode cX9_waits 2 = .ok (.putfield 142, 3) := by decide +kernel
theorem dX9_waits_5 : decode cX9_waits 5 = .ok (.aload_n 0, 1) := by decide +kernel
theorem dX9_waits_6 : decode cX9_waits 6 = .ok (.getfield 277, 3) := by decide +kernel
theorem dX9_waits_9 : decode cX9_waits 9 = .ok (.ifCond .eq 22, 3) := by decide +kernel
theorem dX9_waits_31 : decode cX9_waits 31 = .ok (.iconst 0, 1) := by decide +kernel
theorem dX9_waits_32 : decode cX9_waits 32 = .ok (.ireturn, 1) := by decide +kernel
def vs_X9_waits : List Cond := .code yX9_waits cX9_waits 2 (some .boolean) :: ([.fieldLink RX9 142 "ClockReachModel" "thrown" "I", .fieldLink RX9 277 "ClockReachModel" "isPlayed" "Z"] ++ wsX90)
set_option maxHeartbeats 4000000 in
set_option maxRecDepth 100000 in
theorem c_X9_waits (l : Launch) (dC : Nat → ClassId) (dI : Nat → Nat → Nat) (sz : Nat) (b : Nat → Nat) (j : Nat → ClassId) (p0 : Int32) : Met l yX9_waits vs_X9_waits ({ frames := 0, cells := 0, slots := 0, locals := 0 }) (va_Pc [.ref (b 0), .int p0] (pu_B (dC, dI) (wM b j) (tM j) sz)) (va_Qi (fun (r : Int32) (_ : Unit) => r = 0) (fun _ _ => True) (va_A (wM b j) sz)) 0 0 (va_A (wM b j) sz) := by
  refine Met.ofW (cc := cX9_waits) (maxL := 2) (ret := (some .boolean)) (by decide) rfl ?_
  intro p e s m args below meth c s₁ B hml hv
  obtain ⟨rfl, rfl, hP, hK, hD0⟩ := hv
  have hx := B.exec
  have hb := B.bytes
  have hr := B.returns
  have hts := atoms_spec (ws := vs_X9_waits) B.pre
  have v_1 := hts (.fieldLink RX9 142 "ClockReachModel" "thrown" "I") (List.mem_of_getElem? (i := 1) rfl)
  have v_2 := hts (.fieldLink RX9 277 "ClockReachModel" "isPlayed" "Z") (List.mem_of_getElem? (i := 2) rfl)
  have hown : s.vm.findClass RX9 = some m.cls := findClass_of_methodNamed B.named
  have hlocks := B.notSynchronized
  have hiX9 : ∀ w ∈ wsX90, w ∈ vs_X9_waits := fun _ h => List.mem_cons_of_mem _ (List.mem_append_right _ h)
  have hD := hD0.self (sz := s.heap.size)
  generalize hAe : va_A (wM b j) s.heap.size = A at hD ⊢
  have hA : ∀ q : Nat, s.heap.size ≤ q → A q := fun q h => by rw [← hAe]; exact Or.inr h
  have hS : va_S A s.heap s.heap [] := va_S.rf
  have hl := lv_entry ([.ref (b 0), .int p0]) (n := 2) (Nat.le_of_ble_eq_true rfl)
  rw [lg_entry_eq]
  generalize (lg_sl ([.ref (b 0), .int p0]) ++ List.replicate (2 - (lg_sl ([.ref (b 0), .int p0])).length) Slot.unset).toArray = ls at hl ⊢
  have hl : lv_has ls 2 [(0, .ref (b 0)), (1, .int p0)] := hl
  refine lv_aload_n hx hb dX9_waits_0 rfl (lv_at hl 0 rfl) ?_
  refine lv_iconst (v := 0) hx hb dX9_waits_1 (by decide) ?_
  refine va_put (D := (dC, dI)) (ci := 9) (v := .int 0) (ty := .int) (C := RX9) (T := TX9) (N := 67) hx hb hts hiX9 tyX9 tyX9_ok nmX9 hown hK hP hD hS 0 rfl rfl 0 (by decide) v_1 (fun _ h9 => h9) rfl (by decide +kernel) rfl rfl (Nat.le_of_ble_eq_true rfl) dX9_waits_2 (fun H locs hP hD hS => ?_)
  have hP : va_P (dC, dI) vwCl (wM b j) H := hP
  have hD : va_D A (wM b j) := hD
  refine lv_aload_n hx hb dX9_waits_5 rfl (lv_at hl 0 rfl) ?_
  refine va_get (D := (dC, dI)) (ci := 9) (v := .int 0) (C := RX9) (T := TX9) (N := 67) hx hb hts hiX9 hown hK hP 0 rfl rfl 30 (by decide) v_2 (fun _ h9 => h9) rfl dX9_waits_6 ?_
  refine lv_if_eq (tgt := 31) hx hb dX9_waits_9 (by decide) (fun _ => ?_) (fun z => absurd z (by decide))
  refine lv_iconst (v := 0) hx hb dX9_waits_31 (by decide) ?_
  exact W.zret (v := 0) (ty := .boolean) hx hb hr rfl (fun t ht hW => ⟨⟨0, (), rfl, by first | rfl | decide | simp_all, trivial⟩, hS.F ht⟩) hS.2.2 dX9_waits_32
theorem dX9_rings_0 : decode cX9_rings 0 = .ok (.aload_n 0, 1) := by decide +kernel
theorem dX9_rings_1 : decode cX9_rings 1 = .ok (.iconst 0, 1) := by decide +kernel
theorem dX9_rings_2 : decode cX9_rings 2 = .ok (.putfield 142, 3) := by decide +kernel
theorem dX9_rings_5 : decode cX9_rings 5 = .ok (.iconst 0, 1) := by decide +kernel
theorem dX9_rings_6 : decode cX9_rings 6 = .ok (.istore_n 1, 1) := by decide +kernel
theorem dX9_rings_7 : decode cX9_rings 7 = .ok (.iconst 0, 1) := by decide +kernel
theorem dX9_rings_8 : decode cX9_rings 8 = .ok (.istore_n 2, 1) := by decide +kernel
theorem dX9_rings_9 : decode cX9_rings 9 = .ok (.iload_n 2, 1) := by decide +kernel
theorem dX9_rings_10 : decode cX9_rings 10 = .ok (.aload_n 0, 1) := by decide +kernel
theorem dX9_rings_11 : decode cX9_rings 11 = .ok (.getfield 46, 3) := by decide +kernel
theorem dX9_rings_14 : decode cX9_rings 14 = .ok (.aload_n 0, 1) := by decide +kernel
theorem dX9_rings_15 : decode cX9_rings 15 = .ok (.getfield 258, 3) := by decide +kernel
theorem dX9_rings_18 : decode cX9_rings 18 = .ok (.iaload, 1) := by decide +kernel
theorem dX9_rings_19 : decode cX9_rings 19 = .ok (.if_icmp .ge 39, 3) := by decide +kernel
theorem dX9_rings_58 : decode cX9_rings 58 = .ok (.iload_n 1, 1) := by decide +kernel
theorem dX9_rings_59 : decode cX9_rings 59 = .ok (.ireturn, 1) := by decide +kernel
def vs_X9_rings : List Cond := .code yX9_rings cX9_rings 3 (some .int) :: ([.fieldLink RX9 142 "ClockReachModel" "thrown" "I", .fieldLink RX9 46 "ClockReachModel" "placeMany" "[I", .fieldLink RX9 258 "ClockReachModel" "bank" "I"] ++ wsX90)
set_option maxHeartbeats 4000000 in
set_option maxRecDepth 100000 in
theorem c_X9_rings (l : Launch) (dC : Nat → ClassId) (dI : Nat → Nat → Nat) (sz : Nat) (b : Nat → Nat) (j : Nat → ClassId) : Met l yX9_rings vs_X9_rings ({ frames := 0, cells := 0, slots := 0, locals := 0 }) (va_Pc [.ref (b 0)] (pu_B (dC, dI) (wM b j) (tM j) sz)) (va_Qi (fun (r : Int32) (_ : Unit) => r = 0) (fun _ _ => True) (va_A (wM b j) sz)) 0 0 (va_A (wM b j) sz) := by
  refine Met.ofW (cc := cX9_rings) (maxL := 3) (ret := (some .int)) (by decide) rfl ?_
  intro p e s m args below meth c s₁ B hml hv
  obtain ⟨rfl, rfl, hP, hK, hD0⟩ := hv
  have hx := B.exec
  have hb := B.bytes
  have hr := B.returns
  have hts := atoms_spec (ws := vs_X9_rings) B.pre
  have v_1 := hts (.fieldLink RX9 142 "ClockReachModel" "thrown" "I") (List.mem_of_getElem? (i := 1) rfl)
  have v_2 := hts (.fieldLink RX9 46 "ClockReachModel" "placeMany" "[I") (List.mem_of_getElem? (i := 2) rfl)
  have v_3 := hts (.fieldLink RX9 258 "ClockReachModel" "bank" "I") (List.mem_of_getElem? (i := 3) rfl)
  have hown : s.vm.findClass RX9 = some m.cls := findClass_of_methodNamed B.named
  have hlocks := B.notSynchronized
  have hiX9 : ∀ w ∈ wsX90, w ∈ vs_X9_rings := fun _ h => List.mem_cons_of_mem _ (List.mem_append_right _ h)
  have hD := hD0.self (sz := s.heap.size)
  generalize hAe : va_A (wM b j) s.heap.size = A at hD ⊢
  have hA : ∀ q : Nat, s.heap.size ≤ q → A q := fun q h => by rw [← hAe]; exact Or.inr h
  have hS : va_S A s.heap s.heap [] := va_S.rf
  have hl := lv_entry ([.ref (b 0)]) (n := 3) (Nat.le_of_ble_eq_true rfl)
  rw [lg_entry_eq]
  generalize (lg_sl ([.ref (b 0)]) ++ List.replicate (3 - (lg_sl ([.ref (b 0)])).length) Slot.unset).toArray = ls at hl ⊢
  have hl : lv_has ls 3 [(0, .ref (b 0))] := hl
  refine lv_aload_n hx hb dX9_rings_0 rfl (lv_at hl 0 rfl) ?_
  refine lv_iconst (v := 0) hx hb dX9_rings_1 (by decide) ?_
  refine va_put (D := (dC, dI)) (ci := 9) (v := .int 0) (ty := .int) (C := RX9) (T := TX9) (N := 67) hx hb hts hiX9 tyX9 tyX9_ok nmX9 hown hK hP hD hS 0 rfl rfl 0 (by decide) v_1 (fun _ h9 => h9) rfl (by decide +kernel) rfl rfl (Nat.le_of_ble_eq_true rfl) dX9_rings_2 (fun H locs hP hD hS => ?_)
  have hP : va_P (dC, dI) vwCl (wM b j) H := hP
  have hD : va_D A (wM b j) := hD
  refine lv_iconst (v := 0) hx hb dX9_rings_5 (by decide) ?_
  refine lv_istore_n (lv' := [(1, .int 0), (0, .ref (b 0))]) hx hb dX9_rings_6 rfl hl (by decide) rfl (fun ls hl => ?_)
  refine lv_iconst (v := 0) hx hb dX9_rings_7 (by decide) ?_
  refine lv_istore_n (lv' := [(2, .int 0), (1, .int 0), (0, .ref (b 0))]) hx hb dX9_rings_8 rfl hl (by decide) rfl (fun ls hl => ?_)
  refine lv_iload_n hx hb dX9_rings_9 rfl (lv_at hl 0 rfl) ?_
  refine lv_aload_n hx hb dX9_rings_10 rfl (lv_at hl 2 rfl) ?_
  refine va_get (D := (dC, dI)) (ci := 9) (v := .ref (b 2)) (C := RX9) (T := TX9) (N := 67) hx hb hts hiX9 hown hK hP 0 rfl rfl 13 (by decide) v_2 (fun _ h9 => h9) rfl dX9_rings_11 ?_
  refine lv_aload_n hx hb dX9_rings_14 rfl (lv_at hl 2 rfl) ?_
  refine va_get (D := (dC, dI)) (ci := 9) (v := .int 0) (C := RX9) (T := TX9) (N := 67) hx hb hts hiX9 hown hK hP 0 rfl rfl 16 (by decide) v_3 (fun _ h9 => h9) rfl dX9_rings_15 ?_
  refine va_iald hx hb hK hP 2 1 rfl rfl (show ¬ (_ ∨ _) by decide) dX9_rings_18 ?_
  refine lv_topi (fun y_1 ey_1 => ?_)
  obtain rfl : y_1 = 0 := ey_1.trans (by first | rfl | decide)
  refine lv_icmp_ge (tgt := 58) hx hb dX9_rings_19 (by decide) (fun _ => ?_) (fun z => absurd z (by decide))
  refine lv_iload_n hx hb dX9_rings_58 rfl (lv_at hl 1 rfl) ?_
  exact W.iret (v := 0) hx hb hr (fun t ht hW => ⟨⟨0, (), rfl, by first | rfl | decide | simp_all, trivial⟩, hS.F ht⟩) hS.2.2 dX9_rings_59
theorem dX9_replays_0 : decode cX9_replays 0 = .ok (.aload_n 0, 1) := by decide +kernel
theorem dX9_replays_1 : decode cX9_replays 1 = .ok (.iconst 0, 1) := by decide +kernel
theorem dX9_replays_2 : decode cX9_replays 2 = .ok (.putfield 142, 3) := by decide +kernel
theorem dX9_replays_5 : decode cX9_replays 5 = .ok (.aload_n 0, 1) := by decide +kernel
theorem dX9_replays_6 : decode cX9_replays 6 = .ok (.iconst 0, 1) := by decide +kernel
theorem dX9_replays_7 : decode cX9_replays 7 = .ok (.putfield 277, 3) := by decide +kernel
theorem dX9_replays_10 : decode cX9_replays 10 = .ok (.aload_n 0, 1) := by decide +kernel
theorem dX9_replays_11 : decode cX9_replays 11 = .ok (.iload_n 1, 1) := by decide +kernel
theorem dX9_replays_12 : decode cX9_replays 12 = .ok (.invokevirtual 387, 3) := by decide +kernel
theorem dX9_replays_15 : decode cX9_replays 15 = .ok (.ifCond .ne 5, 3) := by decide +kernel
theorem dX9_replays_18 : decode cX9_replays 18 = .ok (.iconst 0, 1) := by decide +kernel
theorem dX9_replays_19 : decode cX9_replays 19 = .ok (.ireturn, 1) := by decide +kernel
def vs_X9_replays : List Cond := .code yX9_replays cX9_replays 4 (some .boolean) :: ([.fieldLink RX9 142 "ClockReachModel" "thrown" "I", .fieldLink RX9 277 "ClockReachModel" "isPlayed" "Z", .methodLink RX9 387 yX9_isState, .instanceMethod yX9_isState, .selects RX9 yX9_isState yX9_isState, .initialized RX9, .code yX9_isState cX9_isState 2 (some .boolean), .methodLink RX9 280 yX9_clocks, .instanceMethod yX9_clocks, .selects RX9 yX9_clocks yX9_clocks, .code yX9_clocks cX9_clocks 1 (some .int), .fieldLink RX9 43 "ClockReachModel" "clockMany" "[I", .fieldLink RX9 258 "ClockReachModel" "bank" "I", .fieldLink RX9 328 "ClockReachModel" "side" "I", .fieldLink RX9 273 "ClockReachModel" "hasGraph" "Z"] ++ wsX90)
theorem g_X9_replays_X9_isState : GoodIn vs_X9_replays (wsV RX9 387 RX9 yX9_isState vs_X9_isState) := goodIn_r _ [3, 4, 5, 6, 7, 8, 9, 10, 6, 11, 12, 13, 14, 15, 16, 17, 18, 19, 20, 21, 22, 23, 24, 25, 26, 27, 28, 29, 30, 31, 32, 33, 34, 35, 36, 37, 38, 39, 40, 41, 42, 43, 44, 45, 46, 47, 48, 49, 50, 51, 52, 53, 54, 55, 56, 57, 58, 59, 60, 61, 62, 63, 64, 65, 66, 67, 68, 69, 70, 71, 72, 73, 74, 75, 76, 77, 78, 79, 80, 81, 82] (by decide +kernel) (by decide +kernel)
set_option maxHeartbeats 4000000 in
set_option maxRecDepth 100000 in
theorem c_X9_replays (l : Launch) (dC : Nat → ClassId) (dI : Nat → Nat → Nat) (sz : Nat) (b : Nat → Nat) (j : Nat → ClassId) (p0 : Int32) : Met l yX9_replays vs_X9_replays ({ frames := 2, cells := 0, slots := 0, locals := 41 }) (va_Pc [.ref (b 0), .int p0] (pu_B (dC, dI) (wM b j) (tM j) sz)) (va_Qi (fun (r : Int32) (_ : Unit) => r = 0) (fun _ _ => True) (va_A (wM b j) sz)) 0 0 (va_A (wM b j) sz) := by
  refine Met.ofW (cc := cX9_replays) (maxL := 4) (ret := (some .boolean)) (by decide) rfl ?_
  intro p e s m args below meth c s₁ B hml hv
  obtain ⟨rfl, rfl, hP, hK, hD0⟩ := hv
  have hx := B.exec
  have hb := B.bytes
  have hr := B.returns
  have hts := atoms_spec (ws := vs_X9_replays) B.pre
  have v_1 := hts (.fieldLink RX9 142 "ClockReachModel" "thrown" "I") (List.mem_of_getElem? (i := 1) rfl)
  have v_2 := hts (.fieldLink RX9 277 "ClockReachModel" "isPlayed" "Z") (List.mem_of_getElem? (i := 2) rfl)
  have hown : s.vm.findClass RX9 = some m.cls := findClass_of_methodNamed B.named
  have hlocks := B.notSynchronized
  have hiX9 : ∀ w ∈ wsX90, w ∈ vs_X9_replays := fun _ h => List.mem_cons_of_mem _ (List.mem_append_right _ h)
  have hD := hD0.self (sz := s.heap.size)
  generalize hAe : va_A (wM b j) s.heap.size = A at hD ⊢
  have hA : ∀ q : Nat, s.heap.size ≤ q → A q := fun q h => by rw [← hAe]; exact Or.inr h
  have hS : va_S A s.heap s.heap [] := va_S.rf
  have hl := lv_entry ([.ref (b 0), .int p0]) (n := 4) (Nat.le_of_ble_eq_true rfl)
  rw [lg_entry_eq]
  generalize (lg_sl ([.ref (b 0), .int p0]) ++ List.replicate (4 - (lg_sl ([.ref (b 0), .int p0])).length) Slot.unset).toArray = ls at hl ⊢
  have hl : lv_has ls 4 [(0, .ref (b 0)), (1, .int p0)] := hl
  refine lv_aload_n hx hb dX9_replays_0 rfl (lv_at hl 0 rfl) ?_
  refine lv_iconst (v := 0) hx hb dX9_replays_1 (by decide) ?_
  refine va_put (D := (dC, dI)) (ci := 9) (v := .int 0) (ty := .int) (C := RX9) (T := TX9) (N := 67) hx hb hts hiX9 tyX9 tyX9_ok nmX9 hown hK hP hD hS 0 rfl rfl 0 (by decide) v_1 (fun _ h9 => h9) rfl (by decide +kernel) rfl rfl (Nat.le_of_ble_eq_true rfl) dX9_replays_2 (fun H locs hP hD hS => ?_)
  have hP : va_P (dC, dI) vwCl (wM b j) H := hP
  have hD : va_D A (wM b j) := hD
  refine lv_aload_n hx hb dX9_replays_5 rfl (lv_at hl 0 rfl) ?_
  refine lv_iconst (v := 0) hx hb dX9_replays_6 (by decide) ?_
  refine va_put (D := (dC, dI)) (ci := 9) (v := .int 0) (ty := .boolean) (C := RX9) (T := TX9) (N := 67) hx hb hts hiX9 tyX9 tyX9_ok nmX9 hown hK hP hD hS 0 rfl rfl 30 (by decide) v_2 (fun _ h9 => h9) rfl (by decide +kernel) rfl rfl (Nat.le_of_ble_eq_true rfl) dX9_replays_7 (fun H locs hP hD hS => ?_)
  have hP : va_P (dC, dI) vwCl (wM b j) H := hP
  have hD : va_D A (wM b j) := hD
  refine lv_aload_n hx hb dX9_replays_10 rfl (lv_at hl 0 rfl) ?_
  refine lv_iload_n hx hb dX9_replays_11 rfl (lv_at hl 1 rfl) ?_
  have hFc := va_free (wc := [((b 0), .inr (9, [.int 0, .ref (b 10), .ref (b 11), .ref (b 12), .ref (b 13), .ref (b 14), .ref (b 15), .ref (b 16), .ref (b 17), .ref (b 18), .ref (b 19), .ref (b 20), .ref (b 1), .ref (b 2), .ref (b 3), .ref (b 4), .int 0, .ref (b 5), .int 0, .int 0, .int 0, .int 0, .int 0, .int 0, .int 0, .int (-1), .int 0, .int 0, .int 0, .int 0, .int 0, .ref (b 21), .ref (b 22), .int 0, .ref (b 23), .ref (b 24), .ref (b 25), .ref (b 26), .ref (b 27), .ref (b 28), .ref (b 29), .ref (b 30), .ref (b 31), .ref (b 32), .ref (b 33), .int 0, .int 0, .ref (b 34), .ref (b 35), .ref (b 36), .ref (b 37), .ref (b 38), .int 0, .int 0, .ref (b 39), .ref (b 40), .ref (b 41), .ref (b 42), .ref (b 43), .ref (b 44), .ref (b 45), .int 0, .int 0, .int 0, .ref (b 46), .int 0, .int 0])), ((b 1), .inl ((j 1), 2, .inl (fun _ => 0))), ((b 2), .inl ((j 2), 2, .inl (fun _ => 0))), ((b 3), .inl ((j 3), 2, .inl (fun _ => 0))), ((b 4), .inl ((j 4), 2, .inl begF)), ((b 5), .inl ((j 5), 900, .inl (fun _ => 0)))]) hD hS hA [0, 1, 2, 3, 4, 5] rfl
  refine va_calli (va_runV (As := [.int p0]) (rest := []) ⟨hx, hb, hml, hown, hts⟩ (c_X9_isState l dC dI _ b j p0) (cwV 1 hts g_X9_replays_X9_isState rfl rfl rfl (by decide +kernel) ⟨Nat.le_of_ble_eq_true rfl, Nat.le_of_ble_eq_true rfl⟩) ⟨pu_bl, va_recv hK hP (ci := 9) (q0 := 0) rfl rfl, pu_in hP hK hD⟩ rfl rfl hl.1 rfl (lv_room (Nat.le_of_ble_eq_true rfl)) dX9_replays_12 ⟨Nat.le_of_ble_eq_true rfl, Nat.le_of_ble_eq_true rfl⟩) hS (fun q _ h => hFc q h) hFc (fun r_1 u t H1 locs ht hvm hw hB hz1 hk1 hS => ?_)
  obtain ⟨hP, hD⟩ := va_join (wr := []) (w1 := []) hP hD [0, 1, 2, 3, 4, 5] [] rfl rfl (by decide) (by decide) hk1 hFc pu_P0 pu_D0
  clear hk1 hz1 hB ht hvm
  generalize H1 = H at hP hS ⊢
  have hP : va_P (dC, dI) vwCl [] H := hP
  have hD : va_D A [] := hD
  obtain rfl : r_1 = 0 := hw
  refine lv_if_ne (tgt := 20) hx hb dX9_replays_15 (by decide) (fun z => absurd z (by decide)) (fun _ => ?_)
  refine lv_iconst (v := 0) hx hb dX9_replays_18 (by decide) ?_
  exact W.zret (v := 0) (ty := .boolean) hx hb hr rfl (fun t ht hW => ⟨⟨0, (), rfl, by first | rfl | decide | simp_all, trivial⟩, hS.F ht⟩) hS.2.2 dX9_replays_19
theorem dX9_fault_0 : decode cX9_fault 0 = .ok (.aload_n 0, 1) := by decide +kernel
theorem dX9_fault_1 : decode cX9_fault 1 = .ok (.iconst 0, 1) := by decide +kernel
theorem dX9_fault_2 : decode cX9_fault 2 = .ok (.putfield 142, 3) := by decide +kernel
theorem dX9_fault_5 : decode cX9_fault 5 = .ok (.iload_n 1, 1) := by decide +kernel
theorem dX9_fault_6 : decode cX9_fault 6 = .ok (.ifCond .ne 10, 3) := by decide +kernel
theorem dX9_fault_9 : decode cX9_fault 9 = .ok (.aload_n 0, 1) := by decide +kernel
theorem dX9_fault_10 : decode cX9_fault 10 = .ok (.getfield 264, 3) := by decide +kernel
theorem dX9_fault_13 : decode cX9_fault 13 = .ok (.goto 16, 3) := by decide +kernel
theorem dX9_fault_16 : decode cX9_fault 16 = .ok (.iload_n 1, 1) := by decide +kernel
theorem dX9_fault_17 : decode cX9_fault 17 = .ok (.iconst 1, 1) := by decide +kernel
theorem dX9_fault_18 : decode cX9_fault 18 = .ok (.if_icmp .ne 10, 3) := by decide +kernel
theorem dX9_fault_21 : decode cX9_fault 21 = .ok (.aload_n 0, 1) := by decide +kernel
theorem dX9_fault_22 : decode cX9_fault 22 = .ok (.getfield 58, 3) := by decide +kernel
theorem dX9_fault_25 : decode cX9_fault 25 = .ok (.goto 4, 3) := by decide +kernel
theorem dX9_fault_28 : decode cX9_fault 28 = .ok (.iconst (-1), 1) := by decide +kernel
theorem dX9_fault_29 : decode cX9_fault 29 = .ok (.ireturn, 1) := by decide +kernel
def vs_X9_fault : List Cond := .code yX9_fault cX9_fault 2 (some .int) :: ([.fieldLink RX9 142 "ClockReachModel" "thrown" "I", .fieldLink RX9 58 "ClockReachModel" "faultPlace" "I", .fieldLink RX9 264 "ClockReachModel" "faultKind" "I"] ++ wsX90)
set_option maxHeartbeats 4000000 in
set_option maxRecDepth 100000 in
theorem c_X9_fault (l : Launch) (dC : Nat → ClassId) (dI : Nat → Nat → Nat) (sz : Nat) (b : Nat → Nat) (j : Nat → ClassId) (p0 : Int32) : Met l yX9_fault vs_X9_fault ({ frames := 0, cells := 0, slots := 0, locals := 0 }) (va_Pc [.ref (b 0), .int p0] (pu_B (dC, dI) (wM b j) (tM j) sz)) (va_Qi (fun (r : Int32) (_ : Unit) => r = flF p0) (fun _ _ => True) (va_A (wM b j) sz)) 0 0 (va_A (wM b j) sz) := by
  refine Met.ofW (cc := cX9_fault) (maxL := 2) (ret := (some .int)) (by decide) rfl ?_
  intro p e s m args below meth c s₁ B hml hv
  obtain ⟨rfl, rfl, hP, hK, hD0⟩ := hv
  have hx := B.exec
  have hb := B.bytes
  have hr := B.returns
  have hts := atoms_spec (ws := vs_X9_fault) B.pre
  have v_1 := hts (.fieldLink RX9 142 "ClockReachModel" "thrown" "I") (List.mem_of_getElem? (i := 1) rfl)
  have v_2 := hts (.fieldLink RX9 58 "ClockReachModel" "faultPlace" "I") (List.mem_of_getElem? (i := 2) rfl)
  have v_3 := hts (.fieldLink RX9 264 "ClockReachModel" "faultKind" "I") (List.mem_of_getElem? (i := 3) rfl)
  have hown : s.vm.findClass RX9 = some m.cls := findClass_of_methodNamed B.named
  have hlocks := B.notSynchronized
  have hiX9 : ∀ w ∈ wsX90, w ∈ vs_X9_fault := fun _ h => List.mem_cons_of_mem _ (List.mem_append_right _ h)
  have hD := hD0.self (sz := s.heap.size)
  generalize hAe : va_A (wM b j) s.heap.size = A at hD ⊢
  have hA : ∀ q : Nat, s.heap.size ≤ q → A q := fun q h => by rw [← hAe]; exact Or.inr h
  have hS : va_S A s.heap s.heap [] := va_S.rf
  have hl := lv_entry ([.ref (b 0), .int p0]) (n := 2) (Nat.le_of_ble_eq_true rfl)
  rw [lg_entry_eq]
  generalize (lg_sl ([.ref (b 0), .int p0]) ++ List.replicate (2 - (lg_sl ([.ref (b 0), .int p0])).length) Slot.unset).toArray = ls at hl ⊢
  have hl : lv_has ls 2 [(0, .ref (b 0)), (1, .int p0)] := hl
  refine lv_aload_n hx hb dX9_fault_0 rfl (lv_at hl 0 rfl) ?_
  refine lv_iconst (v := 0) hx hb dX9_fault_1 (by decide) ?_
  refine va_put (D := (dC, dI)) (ci := 9) (v := .int 0) (ty := .int) (C := RX9) (T := TX9) (N := 67) hx hb hts hiX9 tyX9 tyX9_ok nmX9 hown hK hP hD hS 0 rfl rfl 0 (by decide) v_1 (fun _ h9 => h9) rfl (by decide +kernel) rfl rfl (Nat.le_of_ble_eq_true rfl) dX9_fault_2 (fun H locs hP hD hS => ?_)
  have hP : va_P (dC, dI) vwCl (wM b j) H := hP
  have hD : va_D A (wM b j) := hD
  refine lv_iload_n hx hb dX9_fault_5 rfl (lv_at hl 1 rfl) ?_
  refine lv_if_ne (tgt := 16) hx hb dX9_fault_6 (by decide) (fun c_1 => ?_) (fun c_1 => ?_)
  · refine lv_iload_n hx hb dX9_fault_16 rfl (lv_at hl 1 rfl) ?_
    refine lv_iconst (v := 1) hx hb dX9_fault_17 (by decide) ?_
    refine lv_icmp_ne (tgt := 28) hx hb dX9_fault_18 (by decide) (fun c_2 => ?_) (fun c_2 => ?_)
    · refine lv_iconst (v := (-1)) hx hb dX9_fault_28 (by decide) ?_
      exact W.iret (v := (-1)) hx hb hr (fun t ht hW => ⟨⟨(-1), (), rfl, by unfold flF; simp_all, trivial⟩, hS.F ht⟩) hS.2.2 dX9_fault_29
    · refine lv_aload_n hx hb dX9_fault_21 rfl (lv_at hl 0 rfl) ?_
      refine va_get (D := (dC, dI)) (ci := 9) (v := .int (-1)) (C := RX9) (T := TX9) (N := 67) hx hb hts hiX9 hown hK hP 0 rfl rfl 25 (by decide) v_2 (fun _ h9 => h9) rfl dX9_fault_22 ?_
      refine lv_goto (tgt := 29) hx hb dX9_fault_25 (by decide) ?_
      exact W.iret (v := (-1)) hx hb hr (fun t ht hW => ⟨⟨(-1), (), rfl, by unfold flF; simp_all, trivial⟩, hS.F ht⟩) hS.2.2 dX9_fault_29
  · refine lv_aload_n hx hb dX9_fault_9 rfl (lv_at hl 0 rfl) ?_
    refine va_get (D := (dC, dI)) (ci := 9) (v := .int 0) (C := RX9) (T := TX9) (N := 67) hx hb hts hiX9 hown hK hP 0 rfl rfl 24 (by decide) v_3 (fun _ h9 => h9) rfl dX9_fault_10 ?_
    refine lv_goto (tgt := 29) hx hb dX9_fault_13 (by decide) ?_
    exact W.iret (v := 0) hx hb hr (fun t ht hW => ⟨⟨0, (), rfl, by unfold flF; simp_all, trivial⟩, hS.F ht⟩) hS.2.2 dX9_fault_29
theorem dX9_about_0 : decode cX9_about 0 = .ok (.aload_n 0, 1) := by decide +kernel
theorem dX9_about_1 : decode cX9_about 1 = .ok (.iconst 0, 1) := by decide +kernel
theorem dX9_about_2 : decode cX9_about 2 = .ok (.putfield 142, 3) := by decide +kernel
theorem dX9_about_5 : decode cX9_about 5 = .ok (.iconst 0, 1) := by decide +kernel
theorem dX9_about_6 : decode cX9_about 6 = .ok (.istore_n 2, 1) := by decide +kernel
theorem dX9_about_7 : decode cX9_about 7 = .ok (.iload_n 1, 1) := by decide +kernel
theorem dX9_about_8 : decode cX9_about 8 = .ok (.tableswitch 224 0 9 #[56, 61, 71, 81, 91, 154, 172, 198, 214, 219], 56) := by decide +kernel
theorem dX9_about_64 : decode cX9_about 64 = .ok (.aload_n 0, 1) := by decide +kernel
theorem dX9_about_65 : decode cX9_about 65 = .ok (.invokevirtual 280, 3) := by decide +kernel
theorem dX9_about_68 : decode cX9_about 68 = .ok (.ireturn, 1) := by decide +kernel
theorem dX9_about_69 : decode cX9_about 69 = .ok (.aload_n 0, 1) := by decide +kernel
theorem dX9_about_70 : decode cX9_about 70 = .ok (.getfield 46, 3) := by decide +kernel
theorem dX9_about_73 : decode cX9_about 73 = .ok (.aload_n 0, 1) := by decide +kernel
theorem dX9_about_74 : decode cX9_about 74 = .ok (.getfield 258, 3) := by decide +kernel
theorem dX9_about_77 : decode cX9_about 77 = .ok (.iaload, 1) := by decide +kernel
theorem dX9_about_78 : decode cX9_about 78 = .ok (.ireturn, 1) := by decide +kernel
theorem dX9_about_79 : decode cX9_about 79 = .ok (.aload_n 0, 1) := by decide +kernel
theorem dX9_about_80 : decode cX9_about 80 = .ok (.getfield 49, 3) := by decide +kernel
theorem dX9_about_83 : decode cX9_about 83 = .ok (.aload_n 0, 1) := by decide +kernel
theorem dX9_about_84 : decode cX9_about 84 = .ok (.getfield 258, 3) := by decide +kernel
theorem dX9_about_87 : decode cX9_about 87 = .ok (.iaload, 1) := by decide +kernel
theorem dX9_about_88 : decode cX9_about 88 = .ok (.ireturn, 1) := by decide +kernel
theorem dX9_about_89 : decode cX9_about 89 = .ok (.aload_n 0, 1) := by decide +kernel
theorem dX9_about_90 : decode cX9_about 90 = .ok (.getfield 52, 3) := by decide +kernel
theorem dX9_about_93 : decode cX9_about 93 = .ok (.aload_n 0, 1) := by decide +kernel
theorem dX9_about_94 : decode cX9_about 94 = .ok (.getfield 258, 3) := by decide +kernel
theorem dX9_about_97 : decode cX9_about 97 = .ok (.iaload, 1) := by decide +kernel
theorem dX9_about_98 : decode cX9_about 98 = .ok (.ireturn, 1) := by decide +kernel
theorem dX9_about_99 : decode cX9_about 99 = .ok (.iconst 0, 1) := by decide +kernel
theorem dX9_about_100 : decode cX9_about 100 = .ok (.istore_n 3, 1) := by decide +kernel
theorem dX9_about_101 : decode cX9_about 101 = .ok (.iload_n 3, 1) := by decide +kernel
theorem dX9_about_102 : decode cX9_about 102 = .ok (.aload_n 0, 1) := by decide +kernel
theorem dX9_about_103 : decode cX9_about 103 = .ok (.getfield 49, 3) := by decide +kernel
theorem dX9_about_106 : decode cX9_about 106 = .ok (.aload_n 0, 1) := by decide +kernel
theorem dX9_about_107 : decode cX9_about 107 = .ok (.getfield 258, 3) := by decide +kernel
theorem dX9_about_110 : decode cX9_about 110 = .ok (.iaload, 1) := by decide +kernel
theorem dX9_about_111 : decode cX9_about 111 = .ok (.if_icmp .ge 17, 3) := by decide +kernel
theorem dX9_about_128 : decode cX9_about 128 = .ok (.iconst 0, 1) := by decide +kernel
theorem dX9_about_129 : decode cX9_about 129 = .ok (.istore_n 3, 1) := by decide +kernel
theorem dX9_about_130 : decode cX9_about 130 = .ok (.iload_n 3, 1) := by decide +kernel
theorem dX9_about_131 : decode cX9_about 131 = .ok (.aload_n 0, 1) := by decide +kernel
theorem dX9_about_132 : decode cX9_about 132 = .ok (.getfield 46, 3) := by decide +kernel
theorem dX9_about_135 : decode cX9_about 135 = .ok (.aload_n 0, 1) := by decide +kernel
theorem dX9_about_136 : decode cX9_about 136 = .ok (.getfield 258, 3) := by decide +kernel
theorem dX9_about_139 : decode cX9_about 139 = .ok (.iaload, 1) := by decide +kernel
theorem dX9_about_140 : decode cX9_about 140 = .ok (.if_icmp .ge 20, 3) := by decide +kernel
theorem dX9_about_160 : decode cX9_about 160 = .ok (.iload_n 2, 1) := by decide +kernel
theorem dX9_about_161 : decode cX9_about 161 = .ok (.ireturn, 1) := by decide +kernel
theorem dX9_about_162 : decode cX9_about 162 = .ok (.aload_n 0, 1) := by decide +kernel
theorem dX9_about_163 : decode cX9_about 163 = .ok (.getfield 273, 3) := by decide +kernel
theorem dX9_about_166 : decode cX9_about 166 = .ok (.ifCond .eq 12, 3) := by decide +kernel
theorem dX9_about_178 : decode cX9_about 178 = .ok (.iconst (-1), 1) := by decide +kernel
theorem dX9_about_179 : decode cX9_about 179 = .ok (.ireturn, 1) := by decide +kernel
theorem dX9_about_180 : decode cX9_about 180 = .ok (.aload_n 0, 1) := by decide +kernel
theorem dX9_about_181 : decode cX9_about 181 = .ok (.getfield 273, 3) := by decide +kernel
theorem dX9_about_184 : decode cX9_about 184 = .ok (.ifCond .eq 20, 3) := by decide +kernel
theorem dX9_about_204 : decode cX9_about 204 = .ok (.iconst (-1), 1) := by decide +kernel
theorem dX9_about_205 : decode cX9_about 205 = .ok (.ireturn, 1) := by decide +kernel
theorem dX9_about_206 : decode cX9_about 206 = .ok (.aload_n 0, 1) := by decide +kernel
theorem dX9_about_207 : decode cX9_about 207 = .ok (.getfield 273, 3) := by decide +kernel
theorem dX9_about_210 : decode cX9_about 210 = .ok (.ifCond .eq 10, 3) := by decide +kernel
theorem dX9_about_220 : decode cX9_about 220 = .ok (.iconst (-1), 1) := by decide +kernel
theorem dX9_about_221 : decode cX9_about 221 = .ok (.ireturn, 1) := by decide +kernel
theorem dX9_about_222 : decode cX9_about 222 = .ok (.aload_n 0, 1) := by decide +kernel
theorem dX9_about_223 : decode cX9_about 223 = .ok (.getfield 267, 3) := by decide +kernel
theorem dX9_about_226 : decode cX9_about 226 = .ok (.ireturn, 1) := by decide +kernel
theorem dX9_about_227 : decode cX9_about 227 = .ok (.aload_n 0, 1) := by decide +kernel
theorem dX9_about_228 : decode cX9_about 228 = .ok (.getfield 145, 3) := by decide +kernel
theorem dX9_about_231 : decode cX9_about 231 = .ok (.ireturn, 1) := by decide +kernel
theorem dX9_about_232 : decode cX9_about 232 = .ok (.iconst (-1), 1) := by decide +kernel
theorem dX9_about_233 : decode cX9_about 233 = .ok (.ireturn, 1) := by decide +kernel
def vs_X9_about : List Cond := .code yX9_about cX9_about 4 (some .int) :: ([.fieldLink RX9 142 "ClockReachModel" "thrown" "I", .methodLink RX9 280 yX9_clocks, .instanceMethod yX9_clocks, .selects RX9 yX9_clocks yX9_clocks, .initialized RX9, .code yX9_clocks cX9_clocks 1 (some .int), .fieldLink RX9 43 "ClockReachModel" "clockMany" "[I", .fieldLink RX9 258 "ClockReachModel" "bank" "I", .fieldLink RX9 46 "ClockReachModel" "placeMany" "[I", .fieldLink RX9 49 "ClockReachModel" "edgeMany" "[I", .fieldLink RX9 52 "ClockReachModel" "begins" "[I", .fieldLink RX9 273 "ClockReachModel" "hasGraph" "Z", .fieldLink RX9 267 "ClockReachModel" "acts" "I", .fieldLink RX9 145 "ClockReachModel" "taped" "I"] ++ wsX90)
theorem g_X9_about_X9_clocks : GoodIn vs_X9_about (wsV RX9 280 RX9 yX9_clocks vs_X9_clocks) := goodIn_r _ [2, 3, 4, 5, 6, 7, 8, 15, 16, 17, 18, 19, 20, 21, 22, 23, 24, 25, 26, 27, 28, 29, 30, 31, 32, 33, 34, 35, 36, 37, 38, 39, 40, 41, 42, 43, 44, 45, 46, 47, 48, 49, 50, 51, 52, 53, 54, 55, 56, 57, 58, 59, 60, 61, 62, 63, 64, 65, 66, 67, 68, 69, 70, 71, 72, 73, 74, 75, 76, 77, 78, 79, 80, 81] (by decide +kernel) (by decide +kernel)
set_option maxHeartbeats 4000000 in
set_option maxRecDepth 100000 in
theorem c_X9_about (l : Launch) (dC : Nat → ClassId) (dI : Nat → Nat → Nat) (sz : Nat) (b : Nat → Nat) (j : Nat → ClassId) (p0 : Int32) : Met l yX9_about vs_X9_about ({ frames := 1, cells := 0, slots := 0, locals := 20 }) (va_Pc [.ref (b 0), .int p0] (pu_B (dC, dI) (wM b j) (tM j) sz)) (va_Qi (fun (r : Int32) (_ : Unit) => r = abF p0) (fun _ _ => True) (va_A (wM b j) sz)) 0 0 (va_A (wM b j) sz) := by
  refine Met.ofW (cc := cX9_about) (maxL := 4) (ret := (some .int)) (by decide) rfl ?_
  intro p e s m args below meth c s₁ B hml hv
  obtain ⟨rfl, rfl, hP, hK, hD0⟩ := hv
  have hx := B.exec
  have hb := B.bytes
  have hr := B.returns
  have hts := atoms_spec (ws := vs_X9_about) B.pre
  have v_1 := hts (.fieldLink RX9 142 "ClockReachModel" "thrown" "I") (List.mem_of_getElem? (i := 1) rfl)
  have v_8 := hts (.fieldLink RX9 258 "ClockReachModel" "bank" "I") (List.mem_of_getElem? (i := 8) rfl)
  have v_9 := hts (.fieldLink RX9 46 "ClockReachModel" "placeMany" "[I") (List.mem_of_getElem? (i := 9) rfl)
  have v_10 := hts (.fieldLink RX9 49 "ClockReachModel" "edgeMany" "[I") (List.mem_of_getElem? (i := 10) rfl)
  have v_11 := hts (.fieldLink RX9 52 "ClockReachModel" "begins" "[I") (List.mem_of_getElem? (i := 11) rfl)
  have v_12 := hts (.fieldLink RX9 273 "ClockReachModel" "hasGraph" "Z") (List.mem_of_getElem? (i := 12) rfl)
  have v_13 := hts (.fieldLink RX9 267 "ClockReachModel" "acts" "I") (List.mem_of_getElem? (i := 13) rfl)
  have v_14 := hts (.fieldLink RX9 145 "ClockReachModel" "taped" "I") (List.mem_of_getElem? (i := 14) rfl)
  have hown : s.vm.findClass RX9 = some m.cls := findClass_of_methodNamed B.named
  have hlocks := B.notSynchronized
  have hiX9 : ∀ w ∈ wsX90, w ∈ vs_X9_about := fun _ h => List.mem_cons_of_mem _ (List.mem_append_right _ h)
  have hD := hD0.self (sz := s.heap.size)
  generalize hAe : va_A (wM b j) s.heap.size = A at hD ⊢
  have hA : ∀ q : Nat, s.heap.size ≤ q → A q := fun q h => by rw [← hAe]; exact Or.inr h
  have hS : va_S A s.heap s.heap [] := va_S.rf
  have hl := lv_entry ([.ref (b 0), .int p0]) (n := 4) (Nat.le_of_ble_eq_true rfl)
  rw [lg_entry_eq]
  generalize (lg_sl ([.ref (b 0), .int p0]) ++ List.replicate (4 - (lg_sl ([.ref (b 0), .int p0])).length) Slot.unset).toArray = ls at hl ⊢
  have hl : lv_has ls 4 [(0, .ref (b 0)), (1, .int p0)] := hl
  refine lv_aload_n hx hb dX9_about_0 rfl (lv_at hl 0 rfl) ?_
  refine lv_iconst (v := 0) hx hb dX9_about_1 (by decide) ?_
  refine va_put (D := (dC, dI)) (ci := 9) (v := .int 0) (ty := .int) (C := RX9) (T := TX9) (N := 67) hx hb hts hiX9 tyX9 tyX9_ok nmX9 hown hK hP hD hS 0 rfl rfl 0 (by decide) v_1 (fun _ h9 => h9) rfl (by decide +kernel) rfl rfl (Nat.le_of_ble_eq_true rfl) dX9_about_2 (fun H locs hP hD hS => ?_)
  have hP : va_P (dC, dI) vwCl (wM b j) H := hP
  have hD : va_D A (wM b j) := hD
  refine lv_iconst (v := 0) hx hb dX9_about_5 (by decide) ?_
  refine lv_istore_n (lv' := [(2, .int 0), (0, .ref (b 0)), (1, .int p0)]) hx hb dX9_about_6 rfl hl (by decide) rfl (fun ls hl => ?_)
  refine lv_iload_n hx hb dX9_about_7 rfl (lv_at hl 2 rfl) ?_
  by_cases w_1 : p0 = 0
  · subst w_1
    refine lv_tableIn (tgt := 64) (off := 56) hx hb dX9_about_8 (by decide) (by decide) rfl (by decide) ?_
    refine lv_aload_n hx hb dX9_about_64 rfl (lv_at hl 1 rfl) ?_
    refine va_calli (va_runV (As := []) (rest := []) ⟨hx, hb, hml, hown, hts⟩ (c_X9_clocks l dC dI _ b j) (cwV 0 hts g_X9_about_X9_clocks rfl rfl rfl (by decide +kernel) ⟨Nat.le_of_ble_eq_true rfl, Nat.le_of_ble_eq_true rfl⟩) ⟨pu_bl, va_recv hK hP (ci := 9) (q0 := 0) rfl rfl, pu_in hP hK hD⟩ rfl rfl hl.1 rfl (lv_room (Nat.le_of_ble_eq_true rfl)) dX9_about_65 ⟨Nat.le_of_ble_eq_true rfl, Nat.le_of_ble_eq_true rfl⟩) hS (fun q _ h => pu_fr hS hA q h) (pu_fr hS hA) (fun r_2 u t H1 locs ht hvm hw hB hz1 hk1 hS => ?_)
    have hP := pu_keep hP hk1
    clear hk1 hz1 hB ht hvm
    generalize H1 = H at hP hS ⊢
    obtain rfl : r_2 = 0 := hw
    exact W.iret (v := 0) hx hb hr (fun t ht hW => ⟨⟨0, (), rfl, by decide, trivial⟩, hS.F ht⟩) hS.2.2 dX9_about_68
  by_cases w_3 : p0 = 1
  · subst w_3
    refine lv_tableIn (tgt := 69) (off := 61) hx hb dX9_about_8 (by decide) (by decide) rfl (by decide) ?_
    refine lv_aload_n hx hb dX9_about_69 rfl (lv_at hl 1 rfl) ?_
    refine va_get (D := (dC, dI)) (ci := 9) (v := .ref (b 2)) (C := RX9) (T := TX9) (N := 67) hx hb hts hiX9 hown hK hP 0 rfl rfl 13 (by decide) v_9 (fun _ h9 => h9) rfl dX9_about_70 ?_
    refine lv_aload_n hx hb dX9_about_73 rfl (lv_at hl 1 rfl) ?_
    refine va_get (D := (dC, dI)) (ci := 9) (v := .int 0) (C := RX9) (T := TX9) (N := 67) hx hb hts hiX9 hown hK hP 0 rfl rfl 16 (by decide) v_8 (fun _ h9 => h9) rfl dX9_about_74 ?_
    refine va_iald hx hb hK hP 2 1 rfl rfl (show ¬ (_ ∨ _) by decide) dX9_about_77 ?_
    refine lv_topi (fun y_4 ey_4 => ?_)
    obtain rfl : y_4 = 0 := ey_4.trans (by first | rfl | decide)
    exact W.iret (v := 0) hx hb hr (fun t ht hW => ⟨⟨0, (), rfl, by decide, trivial⟩, hS.F ht⟩) hS.2.2 dX9_about_78
  by_cases w_5 : p0 = 2
  · subst w_5
    refine lv_tableIn (tgt := 79) (off := 71) hx hb dX9_about_8 (by decide) (by decide) rfl (by decide) ?_
    refine lv_aload_n hx hb dX9_about_79 rfl (lv_at hl 1 rfl) ?_
    refine va_get (D := (dC, dI)) (ci := 9) (v := .ref (b 3)) (C := RX9) (T := TX9) (N := 67) hx hb hts hiX9 hown hK hP 0 rfl rfl 14 (by decide) v_10 (fun _ h9 => h9) rfl dX9_about_80 ?_
    refine lv_aload_n hx hb dX9_about_83 rfl (lv_at hl 1 rfl) ?_
    refine va_get (D := (dC, dI)) (ci := 9) (v := .int 0) (C := RX9) (T := TX9) (N := 67) hx hb hts hiX9 hown hK hP 0 rfl rfl 16 (by decide) v_8 (fun _ h9 => h9) rfl dX9_about_84 ?_
    refine va_iald hx hb hK hP 3 2 rfl rfl (show ¬ (_ ∨ _) by decide) dX9_about_87 ?_
    refine lv_topi (fun y_6 ey_6 => ?_)
    obtain rfl : y_6 = 0 := ey_6.trans (by first | rfl | decide)
    exact W.iret (v := 0) hx hb hr (fun t ht hW => ⟨⟨0, (), rfl, by decide, trivial⟩, hS.F ht⟩) hS.2.2 dX9_about_88
  by_cases w_7 : p0 = 3
  · subst w_7
    refine lv_tableIn (tgt := 89) (off := 81) hx hb dX9_about_8 (by decide) (by decide) rfl (by decide) ?_
    refine lv_aload_n hx hb dX9_about_89 rfl (lv_at hl 1 rfl) ?_
    refine va_get (D := (dC, dI)) (ci := 9) (v := .ref (b 4)) (C := RX9) (T := TX9) (N := 67) hx hb hts hiX9 hown hK hP 0 rfl rfl 15 (by decide) v_11 (fun _ h9 => h9) rfl dX9_about_90 ?_
    refine lv_aload_n hx hb dX9_about_93 rfl (lv_at hl 1 rfl) ?_
    refine va_get (D := (dC, dI)) (ci := 9) (v := .int 0) (C := RX9) (T := TX9) (N := 67) hx hb hts hiX9 hown hK hP 0 rfl rfl 16 (by decide) v_8 (fun _ h9 => h9) rfl dX9_about_94 ?_
    refine va_iald hx hb hK hP 4 3 rfl rfl (show ¬ (_ ∨ _) by decide) dX9_about_97 ?_
    refine lv_topi (fun y_8 ey_8 => ?_)
    obtain rfl : y_8 = (-1) := ey_8.trans (by first | rfl | decide)
    exact W.iret (v := (-1)) hx hb hr (fun t ht hW => ⟨⟨(-1), (), rfl, by decide, trivial⟩, hS.F ht⟩) hS.2.2 dX9_about_98
  by_cases w_9 : p0 = 4
  · subst w_9
    refine lv_tableIn (tgt := 99) (off := 91) hx hb dX9_about_8 (by decide) (by decide) rfl (by decide) ?_
    refine lv_iconst (v := 0) hx hb dX9_about_99 (by decide) ?_
    refine lv_istore_n (lv' := [(3, .int 0), (2, .int 0), (0, .ref (b 0)), (1, .int 4)]) hx hb dX9_about_100 rfl hl (by decide) rfl (fun ls hl => ?_)
    refine lv_iload_n hx hb dX9_about_101 rfl (lv_at hl 0 rfl) ?_
    refine lv_aload_n hx hb dX9_about_102 rfl (lv_at hl 2 rfl) ?_
    refine va_get (D := (dC, dI)) (ci := 9) (v := .ref (b 3)) (C := RX9) (T := TX9) (N := 67) hx hb hts hiX9 hown hK hP 0 rfl rfl 14 (by decide) v_10 (fun _ h9 => h9) rfl dX9_about_103 ?_
    refine lv_aload_n hx hb dX9_about_106 rfl (lv_at hl 2 rfl) ?_
    refine va_get (D := (dC, dI)) (ci := 9) (v := .int 0) (C := RX9) (T := TX9) (N := 67) hx hb hts hiX9 hown hK hP 0 rfl rfl 16 (by decide) v_8 (fun _ h9 => h9) rfl dX9_about_107 ?_
    refine va_iald hx hb hK hP 3 2 rfl rfl (show ¬ (_ ∨ _) by decide) dX9_about_110 ?_
    refine lv_topi (fun y_10 ey_10 => ?_)
    obtain rfl : y_10 = 0 := ey_10.trans (by first | rfl | decide)
    refine lv_icmp_ge (tgt := 128) hx hb dX9_about_111 (by decide) (fun _ => ?_) (fun z => absurd z (by decide))
    refine lv_iconst (v := 0) hx hb dX9_about_128 (by decide) ?_
    refine lv_istore_n (lv' := [(3, .int 0), (2, .int 0), (0, .ref (b 0)), (1, .int 4)]) hx hb dX9_about_129 rfl hl (by decide) rfl (fun ls hl => ?_)
    refine lv_iload_n hx hb dX9_about_130 rfl (lv_at hl 0 rfl) ?_
    refine lv_aload_n hx hb dX9_about_131 rfl (lv_at hl 2 rfl) ?_
    refine va_get (D := (dC, dI)) (ci := 9) (v := .ref (b 2)) (C := RX9) (T := TX9) (N := 67) hx hb hts hiX9 hown hK hP 0 rfl rfl 13 (by decide) v_9 (fun _ h9 => h9) rfl dX9_about_132 ?_
    refine lv_aload_n hx hb dX9_about_135 rfl (lv_at hl 2 rfl) ?_
    refine va_get (D := (dC, dI)) (ci := 9) (v := .int 0) (C := RX9) (T := TX9) (N := 67) hx hb hts hiX9 hown hK hP 0 rfl rfl 16 (by decide) v_8 (fun _ h9 => h9) rfl dX9_about_136 ?_
    refine va_iald hx hb hK hP 2 1 rfl rfl (show ¬ (_ ∨ _) by decide) dX9_about_139 ?_
    refine lv_topi (fun y_11 ey_11 => ?_)
    obtain rfl : y_11 = 0 := ey_11.trans (by first | rfl | decide)
    refine lv_icmp_ge (tgt := 160) hx hb dX9_about_140 (by decide) (fun _ => ?_) (fun z => absurd z (by decide))
    refine lv_iload_n hx hb dX9_about_160 rfl (lv_at hl 1 rfl) ?_
    exact W.iret (v := 0) hx hb hr (fun t ht hW => ⟨⟨0, (), rfl, by decide, trivial⟩, hS.F ht⟩) hS.2.2 dX9_about_161
  by_cases w_12 : p0 = 5
  · subst w_12
    refine lv_tableIn (tgt := 162) (off := 154) hx hb dX9_about_8 (by decide) (by decide) rfl (by decide) ?_
    refine lv_aload_n hx hb dX9_about_162 rfl (lv_at hl 1 rfl) ?_
    refine va_get (D := (dC, dI)) (ci := 9) (v := .int 0) (C := RX9) (T := TX9) (N := 67) hx hb hts hiX9 hown hK hP 0 rfl rfl 29 (by decide) v_12 (fun _ h9 => h9) rfl dX9_about_163 ?_
    refine lv_if_eq (tgt := 178) hx hb dX9_about_166 (by decide) (fun _ => ?_) (fun z => absurd z (by decide))
    refine lv_iconst (v := (-1)) hx hb dX9_about_178 (by decide) ?_
    exact W.iret (v := (-1)) hx hb hr (fun t ht hW => ⟨⟨(-1), (), rfl, by decide, trivial⟩, hS.F ht⟩) hS.2.2 dX9_about_179
  by_cases w_13 : p0 = 6
  · subst w_13
    refine lv_tableIn (tgt := 180) (off := 172) hx hb dX9_about_8 (by decide) (by decide) rfl (by decide) ?_
    refine lv_aload_n hx hb dX9_about_180 rfl (lv_at hl 1 rfl) ?_
    refine va_get (D := (dC, dI)) (ci := 9) (v := .int 0) (C := RX9) (T := TX9) (N := 67) hx hb hts hiX9 hown hK hP 0 rfl rfl 29 (by decide) v_12 (fun _ h9 => h9) rfl dX9_about_181 ?_
    refine lv_if_eq (tgt := 204) hx hb dX9_about_184 (by decide) (fun _ => ?_) (fun z => absurd z (by decide))
    refine lv_iconst (v := (-1)) hx hb dX9_about_204 (by decide) ?_
    exact W.iret (v := (-1)) hx hb hr (fun t ht hW => ⟨⟨(-1), (), rfl, by decide, trivial⟩, hS.F ht⟩) hS.2.2 dX9_about_205
  by_cases w_14 : p0 = 7
  · subst w_14
    refine lv_tableIn (tgt := 206) (off := 198) hx hb dX9_about_8 (by decide) (by decide) rfl (by decide) ?_
    refine lv_aload_n hx hb dX9_about_206 rfl (lv_at hl 1 rfl) ?_
    refine va_get (D := (dC, dI)) (ci := 9) (v := .int 0) (C := RX9) (T := TX9) (N := 67) hx hb hts hiX9 hown hK hP 0 rfl rfl 29 (by decide) v_12 (fun _ h9 => h9) rfl dX9_about_207 ?_
    refine lv_if_eq (tgt := 220) hx hb dX9_about_210 (by decide) (fun _ => ?_) (fun z => absurd z (by decide))
    refine lv_iconst (v := (-1)) hx hb dX9_about_220 (by decide) ?_
    exact W.iret (v := (-1)) hx hb hr (fun t ht hW => ⟨⟨(-1), (), rfl, by decide, trivial⟩, hS.F ht⟩) hS.2.2 dX9_about_221
  by_cases w_15 : p0 = 8
  · subst w_15
    refine lv_tableIn (tgt := 222) (off := 214) hx hb dX9_about_8 (by decide) (by decide) rfl (by decide) ?_
    refine lv_aload_n hx hb dX9_about_222 rfl (lv_at hl 1 rfl) ?_
    refine va_get (D := (dC, dI)) (ci := 9) (v := .int 0) (C := RX9) (T := TX9) (N := 67) hx hb hts hiX9 hown hK hP 0 rfl rfl 33 (by decide) v_13 (fun _ h9 => h9) rfl dX9_about_223 ?_
    exact W.iret (v := 0) hx hb hr (fun t ht hW => ⟨⟨0, (), rfl, by decide, trivial⟩, hS.F ht⟩) hS.2.2 dX9_about_226
  by_cases w_16 : p0 = 9
  · subst w_16
    refine lv_tableIn (tgt := 227) (off := 219) hx hb dX9_about_8 (by decide) (by decide) rfl (by decide) ?_
    refine lv_aload_n hx hb dX9_about_227 rfl (lv_at hl 1 rfl) ?_
    refine va_get (D := (dC, dI)) (ci := 9) (v := .int 0) (C := RX9) (T := TX9) (N := 67) hx hb hts hiX9 hown hK hP 0 rfl rfl 18 (by decide) v_14 (fun _ h9 => h9) rfl dX9_about_228 ?_
    exact W.iret (v := 0) hx hb hr (fun t ht hW => ⟨⟨0, (), rfl, by decide, trivial⟩, hS.F ht⟩) hS.2.2 dX9_about_231
  refine lv_tableOut (tgt := 232) hx hb dX9_about_8 (by
      have zw_1 : Int32.toInt p0 ≠ 0 := fun g => w_1 ((fa_eq _ _).mpr g)
      have zw_3 : Int32.toInt p0 ≠ 1 := fun g => w_3 ((fa_eq _ _).mpr g)
      have zw_5 : Int32.toInt p0 ≠ 2 := fun g => w_5 ((fa_eq _ _).mpr g)
      have zw_7 : Int32.toInt p0 ≠ 3 := fun g => w_7 ((fa_eq _ _).mpr g)
      have zw_9 : Int32.toInt p0 ≠ 4 := fun g => w_9 ((fa_eq _ _).mpr g)
      have zw_12 : Int32.toInt p0 ≠ 5 := fun g => w_12 ((fa_eq _ _).mpr g)
      have zw_13 : Int32.toInt p0 ≠ 6 := fun g => w_13 ((fa_eq _ _).mpr g)
      have zw_14 : Int32.toInt p0 ≠ 7 := fun g => w_14 ((fa_eq _ _).mpr g)
      have zw_15 : Int32.toInt p0 ≠ 8 := fun g => w_15 ((fa_eq _ _).mpr g)
      have zw_16 : Int32.toInt p0 ≠ 9 := fun g => w_16 ((fa_eq _ _).mpr g)
      omega) (by decide) ?_
  refine lv_iconst (v := (-1)) hx hb dX9_about_232 (by decide) ?_
  exact W.iret (v := (-1)) hx hb hr (fun t ht hW => ⟨⟨(-1), (), rfl, by unfold abF; simp [*], trivial⟩, hS.F ht⟩) hS.2.2 dX9_about_233
theorem dX9_end_0 : decode cX9_end 0 = .ok (.aload_n 0, 1) := by decide +kernel
theorem dX9_end_1 : decode cX9_end 1 = .ok (.iconst 0, 1) := by decide +kernel
theorem dX9_end_2 : decode cX9_end 2 = .ok (.putfield 142, 3) := by decide +kernel
theorem dX9_end_5 : decode cX9_end 5 = .ok (.iload_n 1, 1) := by decide +kernel
theorem dX9_end_6 : decode cX9_end 6 = .ok (.iconst 0, 1) := by decide +kernel
theorem dX9_end_7 : decode cX9_end 7 = .ok (.aload_n 0, 1) := by decide +kernel
theorem dX9_end_8 : decode cX9_end 8 = .ok (.getfield 145, 3) := by decide +kernel
theorem dX9_end_11 : decode cX9_end 11 = .ok (.invokestatic 152, 3) := by decide +kernel
theorem dX9_end_14 : decode cX9_end 14 = .ok (.ifCond .ne 5, 3) := by decide +kernel
theorem dX9_end_17 : decode cX9_end 17 = .ok (.iconst (-1), 1) := by decide +kernel
theorem dX9_end_18 : decode cX9_end 18 = .ok (.ireturn, 1) := by decide +kernel
theorem dX9_end_19 : decode cX9_end 19 = .ok (.aload_n 0, 1) := by decide +kernel
theorem dX9_end_20 : decode cX9_end 20 = .ok (.iload_n 1, 1) := by decide +kernel
theorem dX9_end_21 : decode cX9_end 21 = .ok (.putfield 145, 3) := by decide +kernel
theorem dX9_end_24 : decode cX9_end 24 = .ok (.iload_n 1, 1) := by decide +kernel
theorem dX9_end_25 : decode cX9_end 25 = .ok (.ireturn, 1) := by decide +kernel
def vs_X9_end : List Cond := .code yX9_end cX9_end 2 (some .int) :: ([.fieldLink RX9 142 "ClockReachModel" "thrown" "I", .fieldLink RX9 145 "ClockReachModel" "taped" "I", .methodLink RX9 152 yX9_in, .static yX9_in, .initialized RX9, .code yX9_in cX9_in 3 (some .boolean)] ++ wsX90)
theorem g_X9_end_X9_in_00 : GoodIn vs_X9_end (va_wsS RX9 152 yX9_in vs_X9_in_00) := goodIn_r _ [3, 4, 5, 6] (by decide +kernel) (by decide +kernel)
set_option maxHeartbeats 4000000 in
set_option maxRecDepth 100000 in
theorem c_X9_end (l : Launch) (dC : Nat → ClassId) (dI : Nat → Nat → Nat) (sz : Nat) (b : Nat → Nat) (j : Nat → ClassId) (p0 : Int32) : Met l yX9_end vs_X9_end ({ frames := 1, cells := 0, slots := 0, locals := 22 }) (va_Pc [.ref (b 0), .int p0] (pu_B (dC, dI) (wM b j) (tM j) sz)) (va_Qi (fun (r : Int32) (_ : Unit) => r = flF p0) (fun _ _ => True) (va_A (wM b j) sz)) 0 0 (va_A (wM b j) sz) := by
  refine Met.ofW (cc := cX9_end) (maxL := 2) (ret := (some .int)) (by decide) rfl ?_
  intro p e s m args below meth c s₁ B hml hv
  obtain ⟨rfl, rfl, hP, hK, hD0⟩ := hv
  have hx := B.exec
  have hb := B.bytes
  have hr := B.returns
  have hts := atoms_spec (ws := vs_X9_end) B.pre
  have v_1 := hts (.fieldLink RX9 142 "ClockReachModel" "thrown" "I") (List.mem_of_getElem? (i := 1) rfl)
  have v_2 := hts (.fieldLink RX9 145 "ClockReachModel" "taped" "I") (List.mem_of_getElem? (i := 2) rfl)
  have hown : s.vm.findClass RX9 = some m.cls := findClass_of_methodNamed B.named
  have hlocks := B.notSynchronized
  have hiX9 : ∀ w ∈ wsX90, w ∈ vs_X9_end := fun _ h => List.mem_cons_of_mem _ (List.mem_append_right _ h)
  have hD := hD0.self (sz := s.heap.size)
  generalize hAe : va_A (wM b j) s.heap.size = A at hD ⊢
  have hA : ∀ q : Nat, s.heap.size ≤ q → A q := fun q h => by rw [← hAe]; exact Or.inr h
  have hS : va_S A s.heap s.heap [] := va_S.rf
  have hl := lv_entry ([.ref (b 0), .int p0]) (n := 2) (Nat.le_of_ble_eq_true rfl)
  rw [lg_entry_eq]
  generalize (lg_sl ([.ref (b 0), .int p0]) ++ List.replicate (2 - (lg_sl ([.ref (b 0), .int p0])).length) Slot.unset).toArray = ls at hl ⊢
  have hl : lv_has ls 2 [(0, .ref (b 0)), (1, .int p0)] := hl
  refine lv_aload_n hx hb dX9_end_0 rfl (lv_at hl 0 rfl) ?_
  refine lv_iconst (v := 0) hx hb dX9_end_1 (by decide) ?_
  refine va_put (D := (dC, dI)) (ci := 9) (v := .int 0) (ty := .int) (C := RX9) (T := TX9) (N := 67) hx hb hts hiX9 tyX9 tyX9_ok nmX9 hown hK hP hD hS 0 rfl rfl 0 (by decide) v_1 (fun _ h9 => h9) rfl (by decide +kernel) rfl rfl (Nat.le_of_ble_eq_true rfl) dX9_end_2 (fun H locs hP hD hS => ?_)
  have hP : va_P (dC, dI) vwCl (wM b j) H := hP
  have hD : va_D A (wM b j) := hD
  refine lv_iload_n hx hb dX9_end_5 rfl (lv_at hl 1 rfl) ?_
  refine lv_iconst (v := 0) hx hb dX9_end_6 (by decide) ?_
  refine lv_aload_n hx hb dX9_end_7 rfl (lv_at hl 0 rfl) ?_
  refine va_get (D := (dC, dI)) (ci := 9) (v := .int 0) (C := RX9) (T := TX9) (N := 67) hx hb hts hiX9 hown hK hP 0 rfl rfl 18 (by decide) v_2 (fun _ h9 => h9) rfl dX9_end_8 ?_
  refine va_calli (va_runS (As := [.int p0, .int 0, .int 0]) (rest := []) ⟨hx, hb, hml, hown, hts⟩ (c_X9_in_00 l dC dI _ p0) (va_cwS 3 hts g_X9_end_X9_in_00 rfl rfl rfl (by decide +kernel) ⟨Nat.le_of_ble_eq_true rfl, Nat.le_of_ble_eq_true rfl⟩) ⟨pu_bl, pu_in (hP.sub [] rfl) (hK.sub [] rfl) (hD.sub [] (by decide) rfl)⟩ rfl rfl hl.1 rfl (lv_room (Nat.le_of_ble_eq_true rfl)) dX9_end_11 ⟨Nat.le_of_ble_eq_true rfl, Nat.le_of_ble_eq_true rfl⟩) hS (fun q _ h => pu_fr hS hA q h) (pu_fr hS hA) (fun r_1 u t H1 locs ht hvm hw hB hz1 hk1 hS => ?_)
  have hP := pu_keep hP hk1
  clear hk1 hz1 hB ht hvm
  generalize H1 = H at hP hS ⊢
  rcases hw with ⟨rfl, hz⟩ | ⟨rfl, hz⟩
  · refine lv_if_ne (tgt := 19) hx hb dX9_end_14 (by decide) (fun _ => ?_) (fun z => absurd z (by decide))
    refine lv_aload_n hx hb dX9_end_19 rfl (lv_at hl 0 rfl) ?_
    refine lv_iload_n hx hb dX9_end_20 rfl (lv_at hl 1 rfl) ?_
    refine va_put (D := (dC, dI)) (ci := 9) (v := .int p0) (ty := .int) (C := RX9) (T := TX9) (N := 67) hx hb hts hiX9 tyX9 tyX9_ok nmX9 hown hK hP hD hS 0 rfl rfl 18 (by decide) v_2 (fun _ h9 => h9) rfl (by decide +kernel) rfl rfl (Nat.le_of_ble_eq_true rfl) dX9_end_21 (fun H locs hP hD hS => ?_)
    have hP : va_P (dC, dI) vwCl [((b 0), .inr (9, [.int 0, .ref (b 10), .ref (b 11), .ref (b 12), .ref (b 13), .ref (b 14), .ref (b 15), .ref (b 16), .ref (b 17), .ref (b 18), .ref (b 19), .ref (b 20), .ref (b 1), .ref (b 2), .ref (b 3), .ref (b 4), .int 0, .ref (b 5), .int p0, .int 0, .int 0, .int 0, .int 0, .int 0, .int 0, .int (-1), .int 0, .int 0, .int 0, .int 0, .int 0, .ref (b 21), .ref (b 22), .int 0, .ref (b 23), .ref (b 24), .ref (b 25), .ref (b 26), .ref (b 27), .ref (b 28), .ref (b 29), .ref (b 30), .ref (b 31), .ref (b 32), .ref (b 33), .int 0, .int 0, .ref (b 34), .ref (b 35), .ref (b 36), .ref (b 37), .ref (b 38), .int 0, .int 0, .ref (b 39), .ref (b 40), .ref (b 41), .ref (b 42), .ref (b 43), .ref (b 44), .ref (b 45), .int 0, .int 0, .int 0, .ref (b 46), .int 0, .int 0])), ((b 1), .inl ((j 1), 2, .inl (fun _ => 0))), ((b 2), .inl ((j 2), 2, .inl (fun _ => 0))), ((b 3), .inl ((j 3), 2, .inl (fun _ => 0))), ((b 4), .inl ((j 4), 2, .inl begF)), ((b 5), .inl ((j 5), 900, .inl (fun _ => 0)))] H := hP
    have hD : va_D A [((b 0), .inr (9, [.int 0, .ref (b 10), .ref (b 11), .ref (b 12), .ref (b 13), .ref (b 14), .ref (b 15), .ref (b 16), .ref (b 17), .ref (b 18), .ref (b 19), .ref (b 20), .ref (b 1), .ref (b 2), .ref (b 3), .ref (b 4), .int 0, .ref (b 5), .int p0, .int 0, .int 0, .int 0, .int 0, .int 0, .int 0, .int (-1), .int 0, .int 0, .int 0, .int 0, .int 0, .ref (b 21), .ref (b 22), .int 0, .ref (b 23), .ref (b 24), .ref (b 25), .ref (b 26), .ref (b 27), .ref (b 28), .ref (b 29), .ref (b 30), .ref (b 31), .ref (b 32), .ref (b 33), .int 0, .int 0, .ref (b 34), .ref (b 35), .ref (b 36), .ref (b 37), .ref (b 38), .int 0, .int 0, .ref (b 39), .ref (b 40), .ref (b 41), .ref (b 42), .ref (b 43), .ref (b 44), .ref (b 45), .int 0, .int 0, .int 0, .ref (b 46), .int 0, .int 0])), ((b 1), .inl ((j 1), 2, .inl (fun _ => 0))), ((b 2), .inl ((j 2), 2, .inl (fun _ => 0))), ((b 3), .inl ((j 3), 2, .inl (fun _ => 0))), ((b 4), .inl ((j 4), 2, .inl begF)), ((b 5), .inl ((j 5), 900, .inl (fun _ => 0)))] := hD
    refine lv_iload_n hx hb dX9_end_24 rfl (lv_at hl 1 rfl) ?_
    exact W.iret (v := p0) hx hb hr (fun t ht hW => ⟨⟨p0, (), rfl, by rw [flF_0 hz]; exact hz, trivial⟩, hS.F ht⟩) hS.2.2 dX9_end_25
  · refine lv_if_ne (tgt := 19) hx hb dX9_end_14 (by decide) (fun z => absurd z (by decide)) (fun _ => ?_)
    refine lv_iconst (v := (-1)) hx hb dX9_end_17 (by decide) ?_
    exact W.iret (v := (-1)) hx hb hr (fun t ht hW => ⟨⟨(-1), (), rfl, by rw [flF_n hz], trivial⟩, hS.F ht⟩) hS.2.2 dX9_end_18
theorem dX9_clock_0 : decode cX9_clock 0 = .ok (.aload_n 0, 1) := by decide +kernel
theorem dX9_clock_1 : decode cX9_clock 1 = .ok (.aload_n 0, 1) := by decide +kernel
theorem dX9_clock_2 : decode cX9_clock 2 = .ok (.getfield 277, 3) := by decide +kernel
theorem dX9_clock_5 : decode cX9_clock 5 = .ok (.ifCond .eq 11, 3) := by decide +kernel
theorem dX9_clock_16 : decode cX9_clock 16 = .ok (.iconst 1, 1) := by decide +kernel
theorem dX9_clock_17 : decode cX9_clock 17 = .ok (.goto 4, 3) := by decide +kernel
theorem dX9_clock_21 : decode cX9_clock 21 = .ok (.putfield 142, 3) := by decide +kernel
theorem dX9_clock_24 : decode cX9_clock 24 = .ok (.aload_n 0, 1) := by decide +kernel
theorem dX9_clock_25 : decode cX9_clock 25 = .ok (.getfield 142, 3) := by decide +kernel
theorem dX9_clock_28 : decode cX9_clock 28 = .ok (.ifCond .ne 12, 3) := by decide +kernel
theorem dX9_clock_40 : decode cX9_clock 40 = .ok (.iconst 0, 1) := by decide +kernel
theorem dX9_clock_41 : decode cX9_clock 41 = .ok (.ireturn, 1) := by decide +kernel
def vs_X9_clock : List Cond := .code yX9_clock cX9_clock 2 (some .int) :: ([.fieldLink RX9 277 "ClockReachModel" "isPlayed" "Z", .fieldLink RX9 142 "ClockReachModel" "thrown" "I"] ++ wsX90)
set_option maxHeartbeats 4000000 in
set_option maxRecDepth 100000 in
theorem c_X9_clock (l : Launch) (dC : Nat → ClassId) (dI : Nat → Nat → Nat) (sz : Nat) (b : Nat → Nat) (j : Nat → ClassId) (p0 : Int32) : Met l yX9_clock vs_X9_clock ({ frames := 0, cells := 0, slots := 0, locals := 0 }) (va_Pc [.ref (b 0), .int p0] (pu_B (dC, dI) (wM b j) (tM j) sz)) (va_Qi (fun (r : Int32) (_ : Unit) => r = 0) (fun _ t => pu_E (dC, dI) [((b 0), .inr (9, [.int 1, .ref (b 10), .ref (b 11), .ref (b 12), .ref (b 13), .ref (b 14), .ref (b 15), .ref (b 16), .ref (b 17), .ref (b 18), .ref (b 19), .ref (b 20), .ref (b 1), .ref (b 2), .ref (b 3), .ref (b 4), .int 0, .ref (b 5), .int 0, .int 0, .int 0, .int 0, .int 0, .int 0, .int 0, .int (-1), .int 0, .int 0, .int 0, .int 0, .int 0, .ref (b 21), .ref (b 22), .int 0, .ref (b 23), .ref (b 24), .ref (b 25), .ref (b 26), .ref (b 27), .ref (b 28), .ref (b 29), .ref (b 30), .ref (b 31), .ref (b 32), .ref (b 33), .int 0, .int 0, .ref (b 34), .ref (b 35), .ref (b 36), .ref (b 37), .ref (b 38), .int 0, .int 0, .ref (b 39), .ref (b 40), .ref (b 41), .ref (b 42), .ref (b 43), .ref (b 44), .ref (b 45), .int 0, .int 0, .int 0, .ref (b 46), .int 0, .int 0])), ((b 1), .inl ((j 1), 2, .inl (fun _ => 0))), ((b 2), .inl ((j 2), 2, .inl (fun _ => 0))), ((b 3), .inl ((j 3), 2, .inl (fun _ => 0))), ((b 4), .inl ((j 4), 2, .inl begF)), ((b 5), .inl ((j 5), 900, .inl (fun _ => 0)))] [(j 1, .int), (j 2, .int), (j 3, .int), (j 4, .int), (j 5, .int)] (va_A (wM b j) sz) t) (va_A (wM b j) sz)) 0 0 (va_A (wM b j) sz) := by
  refine Met.ofW (cc := cX9_clock) (maxL := 2) (ret := (some .int)) (by decide) rfl ?_
  intro p e s m args below meth c s₁ B hml hv
  obtain ⟨rfl, rfl, hP, hK, hD0⟩ := hv
  have hx := B.exec
  have hb := B.bytes
  have hr := B.returns
  have hts := atoms_spec (ws := vs_X9_clock) B.pre
  have v_1 := hts (.fieldLink RX9 277 "ClockReachModel" "isPlayed" "Z") (List.mem_of_getElem? (i := 1) rfl)
  have v_2 := hts (.fieldLink RX9 142 "ClockReachModel" "thrown" "I") (List.mem_of_getElem? (i := 2) rfl)
  have hown : s.vm.findClass RX9 = some m.cls := findClass_of_methodNamed B.named
  have hlocks := B.notSynchronized
  have hiX9 : ∀ w ∈ wsX90, w ∈ vs_X9_clock := fun _ h => List.mem_cons_of_mem _ (List.mem_append_right _ h)
  have hD := hD0.self (sz := s.heap.size)
  generalize hAe : va_A (wM b j) s.heap.size = A at hD ⊢
  have hA : ∀ q : Nat, s.heap.size ≤ q → A q := fun q h => by rw [← hAe]; exact Or.inr h
  have hS : va_S A s.heap s.heap [] := va_S.rf
  have hl := lv_entry ([.ref (b 0), .int p0]) (n := 2) (Nat.le_of_ble_eq_true rfl)
  rw [lg_entry_eq]
  generalize (lg_sl ([.ref (b 0), .int p0]) ++ List.replicate (2 - (lg_sl ([.ref (b 0), .int p0])).length) Slot.unset).toArray = ls at hl ⊢
  have hl : lv_has ls 2 [(0, .ref (b 0)), (1, .int p0)] := hl
  refine lv_aload_n hx hb dX9_clock_0 rfl (lv_at hl 0 rfl) ?_
  refine lv_aload_n hx hb dX9_clock_1 rfl (lv_at hl 0 rfl) ?_
  refine va_get (D := (dC, dI)) (ci := 9) (v := .int 0) (C := RX9) (T := TX9) (N := 67) hx hb hts hiX9 hown hK hP 0 rfl rfl 30 (by decide) v_1 (fun _ h9 => h9) rfl dX9_clock_2 ?_
  refine lv_if_eq (tgt := 16) hx hb dX9_clock_5 (by decide) (fun _ => ?_) (fun z => absurd z (by decide))
  refine lv_iconst (v := 1) hx hb dX9_clock_16 (by decide) ?_
  refine lv_goto (tgt := 21) hx hb dX9_clock_17 (by decide) ?_
  refine va_put (D := (dC, dI)) (ci := 9) (v := .int 1) (ty := .int) (C := RX9) (T := TX9) (N := 67) hx hb hts hiX9 tyX9 tyX9_ok nmX9 hown hK hP hD hS 0 rfl rfl 0 (by decide) v_2 (fun _ h9 => h9) rfl (by decide +kernel) rfl rfl (Nat.le_of_ble_eq_true rfl) dX9_clock_21 (fun H locs hP hD hS => ?_)
  have hP : va_P (dC, dI) vwCl [((b 0), .inr (9, [.int 1, .ref (b 10), .ref (b 11), .ref (b 12), .ref (b 13), .ref (b 14), .ref (b 15), .ref (b 16), .ref (b 17), .ref (b 18), .ref (b 19), .ref (b 20), .ref (b 1), .ref (b 2), .ref (b 3), .ref (b 4), .int 0, .ref (b 5), .int 0, .int 0, .int 0, .int 0, .int 0, .int 0, .int 0, .int (-1), .int 0, .int 0, .int 0, .int 0, .int 0, .ref (b 21), .ref (b 22), .int 0, .ref (b 23), .ref (b 24), .ref (b 25), .ref (b 26), .ref (b 27), .ref (b 28), .ref (b 29), .ref (b 30), .ref (b 31), .ref (b 32), .ref (b 33), .int 0, .int 0, .ref (b 34), .ref (b 35), .ref (b 36), .ref (b 37), .ref (b 38), .int 0, .int 0, .ref (b 39), .ref (b 40), .ref (b 41), .ref (b 42), .ref (b 43), .ref (b 44), .ref (b 45), .int 0, .int 0, .int 0, .ref (b 46), .int 0, .int 0])), ((b 1), .inl ((j 1), 2, .inl (fun _ => 0))), ((b 2), .inl ((j 2), 2, .inl (fun _ => 0))), ((b 3), .inl ((j 3), 2, .inl (fun _ => 0))), ((b 4), .inl ((j 4), 2, .inl begF)), ((b 5), .inl ((j 5), 900, .inl (fun _ => 0)))] H := hP
  have hD : va_D A [((b 0), .inr (9, [.int 1, .ref (b 10), .ref (b 11), .ref (b 12), .ref (b 13), .ref (b 14), .ref (b 15), .ref (b 16), .ref (b 17), .ref (b 18), .ref (b 19), .ref (b 20), .ref (b 1), .ref (b 2), .ref (b 3), .ref (b 4), .int 0, .ref (b 5), .int 0, .int 0, .int 0, .int 0, .int 0, .int 0, .int 0, .int (-1), .int 0, .int 0, .int 0, .int 0, .int 0, .ref (b 21), .ref (b 22), .int 0, .ref (b 23), .ref (b 24), .ref (b 25), .ref (b 26), .ref (b 27), .ref (b 28), .ref (b 29), .ref (b 30), .ref (b 31), .ref (b 32), .ref (b 33), .int 0, .int 0, .ref (b 34), .ref (b 35), .ref (b 36), .ref (b 37), .ref (b 38), .int 0, .int 0, .ref (b 39), .ref (b 40), .ref (b 41), .ref (b 42), .ref (b 43), .ref (b 44), .ref (b 45), .int 0, .int 0, .int 0, .ref (b 46), .int 0, .int 0])), ((b 1), .inl ((j 1), 2, .inl (fun _ => 0))), ((b 2), .inl ((j 2), 2, .inl (fun _ => 0))), ((b 3), .inl ((j 3), 2, .inl (fun _ => 0))), ((b 4), .inl ((j 4), 2, .inl begF)), ((b 5), .inl ((j 5), 900, .inl (fun _ => 0)))] := hD
  refine lv_aload_n hx hb dX9_clock_24 rfl (lv_at hl 0 rfl) ?_
  refine va_get (D := (dC, dI)) (ci := 9) (v := .int 1) (C := RX9) (T := TX9) (N := 67) hx hb hts hiX9 hown hK hP 0 rfl rfl 0 (by decide) v_2 (fun _ h9 => h9) rfl dX9_clock_25 ?_
  refine lv_if_ne (tgt := 40) hx hb dX9_clock_28 (by decide) (fun _ => ?_) (fun z => absurd z (by decide))
  refine lv_iconst (v := 0) hx hb dX9_clock_40 (by decide) ?_
  have hP9 := hP.sub (ws' := [((b 0), .inr (9, [.int 1, .ref (b 10), .ref (b 11), .ref (b 12), .ref (b 13), .ref (b 14), .ref (b 15), .ref (b 16), .ref (b 17), .ref (b 18), .ref (b 19), .ref (b 20), .ref (b 1), .ref (b 2), .ref (b 3), .ref (b 4), .int 0, .ref (b 5), .int 0, .int 0, .int 0, .int 0, .int 0, .int 0, .int 0, .int (-1), .int 0, .int 0, .int 0, .int 0, .int 0, .ref (b 21), .ref (b 22), .int 0, .ref (b 23), .ref (b 24), .ref (b 25), .ref (b 26), .ref (b 27), .ref (b 28), .ref (b 29), .ref (b 30), .ref (b 31), .ref (b 32), .ref (b 33), .int 0, .int 0, .ref (b 34), .ref (b 35), .ref (b 36), .ref (b 37), .ref (b 38), .int 0, .int 0, .ref (b 39), .ref (b 40), .ref (b 41), .ref (b 42), .ref (b 43), .ref (b 44), .ref (b 45), .int 0, .int 0, .int 0, .ref (b 46), .int 0, .int 0])), ((b 1), .inl ((j 1), 2, .inl (fun _ => 0))), ((b 2), .inl ((j 2), 2, .inl (fun _ => 0))), ((b 3), .inl ((j 3), 2, .inl (fun _ => 0))), ((b 4), .inl ((j 4), 2, .inl begF)), ((b 5), .inl ((j 5), 900, .inl (fun _ => 0)))]) [0, 1, 2, 3, 4, 5] rfl
  have hD9 := hD.sub (ws' := [((b 0), .inr (9, [.int 1, .ref (b 10), .ref (b 11), .ref (b 12), .ref (b 13), .ref (b 14), .ref (b 15), .ref (b 16), .ref (b 17), .ref (b 18), .ref (b 19), .ref (b 20), .ref (b 1), .ref (b 2), .ref (b 3), .ref (b 4), .int 0, .ref (b 5), .int 0, .int 0, .int 0, .int 0, .int 0, .int 0, .int 0, .int (-1), .int 0, .int 0, .int 0, .int 0, .int 0, .ref (b 21), .ref (b 22), .int 0, .ref (b 23), .ref (b 24), .ref (b 25), .ref (b 26), .ref (b 27), .ref (b 28), .ref (b 29), .ref (b 30), .ref (b 31), .ref (b 32), .ref (b 33), .int 0, .int 0, .ref (b 34), .ref (b 35), .ref (b 36), .ref (b 37), .ref (b 38), .int 0, .int 0, .ref (b 39), .ref (b 40), .ref (b 41), .ref (b 42), .ref (b 43), .ref (b 44), .ref (b 45), .int 0, .int 0, .int 0, .ref (b 46), .int 0, .int 0])), ((b 1), .inl ((j 1), 2, .inl (fun _ => 0))), ((b 2), .inl ((j 2), 2, .inl (fun _ => 0))), ((b 3), .inl ((j 3), 2, .inl (fun _ => 0))), ((b 4), .inl ((j 4), 2, .inl begF)), ((b 5), .inl ((j 5), 900, .inl (fun _ => 0)))]) [0, 1, 2, 3, 4, 5] (by decide) rfl
  have hK9 := hK.sub (tys' := [(j 1, .int), (j 2, .int), (j 3, .int), (j 4, .int), (j 5, .int)]) [0, 1, 2, 3, 4] rfl
  exact W.iret (v := 0) hx hb hr (fun t ht hW => ⟨⟨0, (), rfl, by first | rfl | decide | simp_all, ⟨by rw [ht]; exact hP9, va_K.moved hW.alike hK9, hD9⟩⟩, hS.F ht⟩) hS.2.2 dX9_clock_41
theorem dX9_thrown_0 : decode cX9_thrown 0 = .ok (.aload_n 0, 1) := by decide +kernel
theorem dX9_thrown_1 : decode cX9_thrown 1 = .ok (.getfield 142, 3) := by decide +kernel
theorem dX9_thrown_4 : decode cX9_thrown 4 = .ok (.ireturn, 1) := by decide +kernel
def vs_X9_thrown : List Cond := .code yX9_thrown cX9_thrown 1 (some .int) :: ([.fieldLink RX9 142 "ClockReachModel" "thrown" "I"] ++ wsX90)
set_option maxHeartbeats 4000000 in
set_option maxRecDepth 100000 in
theorem c_X9_thrown (l : Launch) (dC : Nat → ClassId) (dI : Nat → Nat → Nat) (sz : Nat) (b : Nat → Nat) (j : Nat → ClassId) : Met l yX9_thrown vs_X9_thrown ({ frames := 0, cells := 0, slots := 0, locals := 0 }) (va_Pc [.ref (b 0)] (pu_B (dC, dI) [((b 0), .inr (9, [.int 1, .ref (b 10), .ref (b 11), .ref (b 12), .ref (b 13), .ref (b 14), .ref (b 15), .ref (b 16), .ref (b 17), .ref (b 18), .ref (b 19), .ref (b 20), .ref (b 1), .ref (b 2), .ref (b 3), .ref (b 4), .int 0, .ref (b 5), .int 0, .int 0, .int 0, .int 0, .int 0, .int 0, .int 0, .int (-1), .int 0, .int 0, .int 0, .int 0, .int 0, .ref (b 21), .ref (b 22), .int 0, .ref (b 23), .ref (b 24), .ref (b 25), .ref (b 26), .ref (b 27), .ref (b 28), .ref (b 29), .ref (b 30), .ref (b 31), .ref (b 32), .ref (b 33), .int 0, .int 0, .ref (b 34), .ref (b 35), .ref (b 36), .ref (b 37), .ref (b 38), .int 0, .int 0, .ref (b 39), .ref (b 40), .ref (b 41), .ref (b 42), .ref (b 43), .ref (b 44), .ref (b 45), .int 0, .int 0, .int 0, .ref (b 46), .int 0, .int 0])), ((b 1), .inl ((j 1), 2, .inl (fun _ => 0))), ((b 2), .inl ((j 2), 2, .inl (fun _ => 0))), ((b 3), .inl ((j 3), 2, .inl (fun _ => 0))), ((b 4), .inl ((j 4), 2, .inl begF)), ((b 5), .inl ((j 5), 900, .inl (fun _ => 0)))] (tM j) sz)) (va_Qi (fun (r : Int32) (_ : Unit) => r = 1) (fun _ _ => True) (va_A [] sz)) 0 0 (va_A [] sz) := by
  refine Met.ofW (cc := cX9_thrown) (maxL := 1) (ret := (some .int)) (by decide) rfl ?_
  intro p e s m args below meth c s₁ B hml hv
  obtain ⟨rfl, rfl, hP, hK, hD0⟩ := hv
  have hx := B.exec
  have hb := B.bytes
  have hr := B.returns
  have hts := atoms_spec (ws := vs_X9_thrown) B.pre
  have v_1 := hts (.fieldLink RX9 142 "ClockReachModel" "thrown" "I") (List.mem_of_getElem? (i := 1) rfl)
  have hown : s.vm.findClass RX9 = some m.cls := findClass_of_methodNamed B.named
  have hlocks := B.notSynchronized
  have hiX9 : ∀ w ∈ wsX90, w ∈ vs_X9_thrown := fun _ h => List.mem_cons_of_mem _ (List.mem_append_right _ h)
  have hD := hD0
  have hA : ∀ q : Nat, s.heap.size ≤ q → va_A [] s.heap.size q := fun _ h => Or.inr h
  have hS : va_S (va_A [] s.heap.size) s.heap s.heap [] := va_S.rf
  have hl := lv_entry ([.ref (b 0)]) (n := 1) (Nat.le_of_ble_eq_true rfl)
  rw [lg_entry_eq]
  generalize (lg_sl ([.ref (b 0)]) ++ List.replicate (1 - (lg_sl ([.ref (b 0)])).length) Slot.unset).toArray = ls at hl ⊢
  have hl : lv_has ls 1 [(0, .ref (b 0))] := hl
  refine lv_aload_n hx hb dX9_thrown_0 rfl (lv_at hl 0 rfl) ?_
  refine va_get (D := (dC, dI)) (ci := 9) (v := .int 1) (C := RX9) (T := TX9) (N := 67) hx hb hts hiX9 hown hK hP 0 rfl rfl 0 (by decide) v_1 (fun _ h9 => h9) rfl dX9_thrown_1 ?_
  exact W.iret (v := 1) hx hb hr (fun t ht hW => ⟨⟨1, (), rfl, by first | rfl | decide | simp_all, trivial⟩, hS.F ht⟩) hS.2.2 dX9_thrown_4
end
