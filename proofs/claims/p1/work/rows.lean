section
-- ===== PART A: goes FIRST, ahead of the names: the tables' words, and 'selects' of the private methods out of them =====
/-- a private method of a class that the tables say can be made, by its rows of tables_1 -/
def lw_okq (q : MethodName × Nat) : Prop := (q.1.cls ≠ "java/lang/invoke/MethodHandle" ∧ q.1.cls ≠ "java/lang/invoke/VarHandle") ∧ Cond.instantiable q.1.cls q.2 ∈ tables_1 ∧ Cond.privateMethod q.1 ∈ tables_1 ∧ Cond.instanceMethod q.1 ∈ tables_1
theorem lw_p0 : lw_okq (⟨"ClockReach", "putBytes", "(I)V"⟩, 16) := ⟨⟨by decide +kernel, by decide +kernel⟩, List.mem_of_getElem? (i := 21) (by decide +kernel), List.mem_of_getElem? (i := 510) (by decide +kernel), List.mem_of_getElem? (i := 511) (by decide +kernel)⟩
theorem lw_p1 : lw_okq (⟨"ClockReach$Reader", "advance", "()V"⟩, 12) := ⟨⟨by decide +kernel, by decide +kernel⟩, List.mem_of_getElem? (i := 29) (by decide +kernel), List.mem_of_getElem? (i := 530) (by decide +kernel), List.mem_of_getElem? (i := 531) (by decide +kernel)⟩
theorem lw_p2 : lw_okq (⟨"ClockReach$Reader", "scanWord", "()V"⟩, 12) := ⟨⟨by decide +kernel, by decide +kernel⟩, List.mem_of_getElem? (i := 29) (by decide +kernel), List.mem_of_getElem? (i := 534) (by decide +kernel), List.mem_of_getElem? (i := 535) (by decide +kernel)⟩
theorem lw_p3 : lw_okq (⟨"ClockReach$Reader", "scanNumber", "()V"⟩, 12) := ⟨⟨by decide +kernel, by decide +kernel⟩, List.mem_of_getElem? (i := 29) (by decide +kernel), List.mem_of_getElem? (i := 538) (by decide +kernel), List.mem_of_getElem? (i := 539) (by decide +kernel)⟩
theorem lw_p4 : lw_okq (⟨"ClockReach$Reader", "scanSign", "()V"⟩, 12) := ⟨⟨by decide +kernel, by decide +kernel⟩, List.mem_of_getElem? (i := 29) (by decide +kernel), List.mem_of_getElem? (i := 542) (by decide +kernel), List.mem_of_getElem? (i := 543) (by decide +kernel)⟩
theorem lw_p5 : lw_okq (⟨"ClockReach$Reader", "readsClock", "()Z"⟩, 12) := ⟨⟨by decide +kernel, by decide +kernel⟩, List.mem_of_getElem? (i := 29) (by decide +kernel), List.mem_of_getElem? (i := 546) (by decide +kernel), List.mem_of_getElem? (i := 547) (by decide +kernel)⟩
theorem lw_p6 : lw_okq (⟨"ClockReach$Reader", "refuse", "(I)Z"⟩, 12) := ⟨⟨by decide +kernel, by decide +kernel⟩, List.mem_of_getElem? (i := 29) (by decide +kernel), List.mem_of_getElem? (i := 550) (by decide +kernel), List.mem_of_getElem? (i := 551) (by decide +kernel)⟩
theorem lw_p7 : lw_okq (⟨"ClockReach$Reader", "isNewName", "()Z"⟩, 12) := ⟨⟨by decide +kernel, by decide +kernel⟩, List.mem_of_getElem? (i := 29) (by decide +kernel), List.mem_of_getElem? (i := 554) (by decide +kernel), List.mem_of_getElem? (i := 555) (by decide +kernel)⟩
theorem lw_p8 : lw_okq (⟨"ClockReach$Reader", "refuseToken", "()Z"⟩, 12) := ⟨⟨by decide +kernel, by decide +kernel⟩, List.mem_of_getElem? (i := 29) (by decide +kernel), List.mem_of_getElem? (i := 558) (by decide +kernel), List.mem_of_getElem? (i := 559) (by decide +kernel)⟩
theorem lw_p9 : lw_okq (⟨"ClockReach$Reader", "indexOf", "([II)I"⟩, 12) := ⟨⟨by decide +kernel, by decide +kernel⟩, List.mem_of_getElem? (i := 29) (by decide +kernel), List.mem_of_getElem? (i := 562) (by decide +kernel), List.mem_of_getElem? (i := 563) (by decide +kernel)⟩
theorem lw_p10 : lw_okq (⟨"ClockReach$Reader", "readsPlace", "()Z"⟩, 12) := ⟨⟨by decide +kernel, by decide +kernel⟩, List.mem_of_getElem? (i := 29) (by decide +kernel), List.mem_of_getElem? (i := 566) (by decide +kernel), List.mem_of_getElem? (i := 567) (by decide +kernel)⟩
theorem lw_p11 : lw_okq (⟨"ClockReach$Reader", "readsConditions", "(III)Z"⟩, 12) := ⟨⟨by decide +kernel, by decide +kernel⟩, List.mem_of_getElem? (i := 29) (by decide +kernel), List.mem_of_getElem? (i := 573) (by decide +kernel), List.mem_of_getElem? (i := 574) (by decide +kernel)⟩
theorem lw_p12 : lw_okq (⟨"ClockReach$Reader", "toldName", "([II)I"⟩, 12) := ⟨⟨by decide +kernel, by decide +kernel⟩, List.mem_of_getElem? (i := 29) (by decide +kernel), List.mem_of_getElem? (i := 577) (by decide +kernel), List.mem_of_getElem? (i := 578) (by decide +kernel)⟩
theorem lw_p13 : lw_okq (⟨"ClockReach$Reader", "readHow", "(Z)I"⟩, 12) := ⟨⟨by decide +kernel, by decide +kernel⟩, List.mem_of_getElem? (i := 29) (by decide +kernel), List.mem_of_getElem? (i := 581) (by decide +kernel), List.mem_of_getElem? (i := 582) (by decide +kernel)⟩
theorem lw_p14 : lw_okq (⟨"ClockReach$Automaton", "setBounds", "(I)V"⟩, 17) := ⟨⟨by decide +kernel, by decide +kernel⟩, List.mem_of_getElem? (i := 135) (by decide +kernel), List.mem_of_getElem? (i := 592) (by decide +kernel), List.mem_of_getElem? (i := 593) (by decide +kernel)⟩
theorem lw_p15 : lw_okq (⟨"ClockReach$Reader", "readsStart", "()Z"⟩, 12) := ⟨⟨by decide +kernel, by decide +kernel⟩, List.mem_of_getElem? (i := 29) (by decide +kernel), List.mem_of_getElem? (i := 597) (by decide +kernel), List.mem_of_getElem? (i := 598) (by decide +kernel)⟩
def lw_privs_1 : List (MethodName × Nat) := [(⟨"ClockReach", "putBytes", "(I)V"⟩, 16), (⟨"ClockReach$Reader", "advance", "()V"⟩, 12), (⟨"ClockReach$Reader", "scanWord", "()V"⟩, 12), (⟨"ClockReach$Reader", "scanNumber", "()V"⟩, 12), (⟨"ClockReach$Reader", "scanSign", "()V"⟩, 12), (⟨"ClockReach$Reader", "readsClock", "()Z"⟩, 12), (⟨"ClockReach$Reader", "refuse", "(I)Z"⟩, 12), (⟨"ClockReach$Reader", "isNewName", "()Z"⟩, 12), (⟨"ClockReach$Reader", "refuseToken", "()Z"⟩, 12), (⟨"ClockReach$Reader", "indexOf", "([II)I"⟩, 12), (⟨"ClockReach$Reader", "readsPlace", "()Z"⟩, 12), (⟨"ClockReach$Reader", "readsConditions", "(III)Z"⟩, 12), (⟨"ClockReach$Reader", "toldName", "([II)I"⟩, 12), (⟨"ClockReach$Reader", "readHow", "(Z)I"⟩, 12), (⟨"ClockReach$Automaton", "setBounds", "(I)V"⟩, 17), (⟨"ClockReach$Reader", "readsStart", "()Z"⟩, 12)]
theorem lw_r1 : ∀ q ∈ lw_privs_1, lw_okq q := List.forall_mem_cons.mpr ⟨lw_p0, List.forall_mem_cons.mpr ⟨lw_p1, List.forall_mem_cons.mpr ⟨lw_p2, List.forall_mem_cons.mpr ⟨lw_p3, List.forall_mem_cons.mpr ⟨lw_p4, List.forall_mem_cons.mpr ⟨lw_p5, List.forall_mem_cons.mpr ⟨lw_p6, List.forall_mem_cons.mpr ⟨lw_p7, List.forall_mem_cons.mpr ⟨lw_p8, List.forall_mem_cons.mpr ⟨lw_p9, List.forall_mem_cons.mpr ⟨lw_p10, List.forall_mem_cons.mpr ⟨lw_p11, List.forall_mem_cons.mpr ⟨lw_p12, List.forall_mem_cons.mpr ⟨lw_p13, List.forall_mem_cons.mpr ⟨lw_p14, List.forall_mem_cons.mpr ⟨lw_p15, fun _ h => absurd h List.not_mem_nil⟩⟩⟩⟩⟩⟩⟩⟩⟩⟩⟩⟩⟩⟩⟩⟩
theorem lw_p16 : lw_okq (⟨"ClockReach$Reader", "readsEdge", "()Z"⟩, 12) := ⟨⟨by decide +kernel, by decide +kernel⟩, List.mem_of_getElem? (i := 29) (by decide +kernel), List.mem_of_getElem? (i := 601) (by decide +kernel), List.mem_of_getElem? (i := 602) (by decide +kernel)⟩
theorem lw_p17 : lw_okq (⟨"ClockReach$Reader", "readsResets", "(I)Z"⟩, 12) := ⟨⟨by decide +kernel, by decide +kernel⟩, List.mem_of_getElem? (i := 29) (by decide +kernel), List.mem_of_getElem? (i := 609) (by decide +kernel), List.mem_of_getElem? (i := 610) (by decide +kernel)⟩
theorem lw_p18 : lw_okq (⟨"ClockReach$Reader", "readsStop", "()Z"⟩, 12) := ⟨⟨by decide +kernel, by decide +kernel⟩, List.mem_of_getElem? (i := 29) (by decide +kernel), List.mem_of_getElem? (i := 613) (by decide +kernel), List.mem_of_getElem? (i := 614) (by decide +kernel)⟩
theorem lw_p19 : lw_okq (⟨"ClockReach", "dropViews", "()V"⟩, 16) := ⟨⟨by decide +kernel, by decide +kernel⟩, List.mem_of_getElem? (i := 21) (by decide +kernel), List.mem_of_getElem? (i := 625) (by decide +kernel), List.mem_of_getElem? (i := 626) (by decide +kernel)⟩
theorem lw_p20 : lw_okq (⟨"ClockReach", "isPlace", "(I)Z"⟩, 16) := ⟨⟨by decide +kernel, by decide +kernel⟩, List.mem_of_getElem? (i := 21) (by decide +kernel), List.mem_of_getElem? (i := 648) (by decide +kernel), List.mem_of_getElem? (i := 649) (by decide +kernel)⟩
theorem lw_p21 : lw_okq (⟨"ClockReach", "isEdge", "(I)Z"⟩, 16) := ⟨⟨by decide +kernel, by decide +kernel⟩, List.mem_of_getElem? (i := 21) (by decide +kernel), List.mem_of_getElem? (i := 661) (by decide +kernel), List.mem_of_getElem? (i := 662) (by decide +kernel)⟩
theorem lw_p22 : lw_okq (⟨"ClockReach", "slotOf", "(II)I"⟩, 16) := ⟨⟨by decide +kernel, by decide +kernel⟩, List.mem_of_getElem? (i := 21) (by decide +kernel), List.mem_of_getElem? (i := 669) (by decide +kernel), List.mem_of_getElem? (i := 670) (by decide +kernel)⟩
theorem lw_p23 : lw_okq (⟨"ClockReach", "isClock", "(I)Z"⟩, 16) := ⟨⟨by decide +kernel, by decide +kernel⟩, List.mem_of_getElem? (i := 21) (by decide +kernel), List.mem_of_getElem? (i := 678) (by decide +kernel), List.mem_of_getElem? (i := 679) (by decide +kernel)⟩
theorem lw_p24 : lw_okq (⟨"ClockReach", "beginAtZero", "(LClockReach$Graph;)V"⟩, 16) := ⟨⟨by decide +kernel, by decide +kernel⟩, List.mem_of_getElem? (i := 21) (by decide +kernel), List.mem_of_getElem? (i := 719) (by decide +kernel), List.mem_of_getElem? (i := 720) (by decide +kernel)⟩
theorem lw_p25 : lw_okq (⟨"ClockReach$Zone", "close", "()V"⟩, 2) := ⟨⟨by decide +kernel, by decide +kernel⟩, List.mem_of_getElem? (i := 269) (by decide +kernel), List.mem_of_getElem? (i := 755) (by decide +kernel), List.mem_of_getElem? (i := 756) (by decide +kernel)⟩
theorem lw_p26 : lw_okq (⟨"ClockReach$Graph", "record", "(III)V"⟩, 18) := ⟨⟨by decide +kernel, by decide +kernel⟩, List.mem_of_getElem? (i := 262) (by decide +kernel), List.mem_of_getElem? (i := 759) (by decide +kernel), List.mem_of_getElem? (i := 760) (by decide +kernel)⟩
theorem lw_p27 : lw_okq (⟨"ClockReach$Graph", "step", "(LClockReach$Automaton;II)V"⟩, 18) := ⟨⟨by decide +kernel, by decide +kernel⟩, List.mem_of_getElem? (i := 262) (by decide +kernel), List.mem_of_getElem? (i := 767) (by decide +kernel), List.mem_of_getElem? (i := 768) (by decide +kernel)⟩
theorem lw_p28 : lw_okq (⟨"ClockReach$Graph", "isKnown", "(LClockReach$Zone;I)Z"⟩, 18) := ⟨⟨by decide +kernel, by decide +kernel⟩, List.mem_of_getElem? (i := 262) (by decide +kernel), List.mem_of_getElem? (i := 787) (by decide +kernel), List.mem_of_getElem? (i := 788) (by decide +kernel)⟩
theorem lw_p29 : lw_okq (⟨"ClockReach", "isState", "(I)Z"⟩, 16) := ⟨⟨by decide +kernel, by decide +kernel⟩, List.mem_of_getElem? (i := 21) (by decide +kernel), List.mem_of_getElem? (i := 803) (by decide +kernel), List.mem_of_getElem? (i := 804) (by decide +kernel)⟩
theorem lw_p30 : lw_okq (⟨"ClockReach", "isStuck", "(I)Z"⟩, 16) := ⟨⟨by decide +kernel, by decide +kernel⟩, List.mem_of_getElem? (i := 21) (by decide +kernel), List.mem_of_getElem? (i := 807) (by decide +kernel), List.mem_of_getElem? (i := 808) (by decide +kernel)⟩
theorem lw_p31 : lw_okq (⟨"ClockReach$Remainder", "nextCover", "(LClockReach$Zone;I)I"⟩, 8) := ⟨⟨by decide +kernel, by decide +kernel⟩, List.mem_of_getElem? (i := 356) (by decide +kernel), List.mem_of_getElem? (i := 842) (by decide +kernel), List.mem_of_getElem? (i := 843) (by decide +kernel)⟩
def lw_privs_2 : List (MethodName × Nat) := [(⟨"ClockReach$Reader", "readsEdge", "()Z"⟩, 12), (⟨"ClockReach$Reader", "readsResets", "(I)Z"⟩, 12), (⟨"ClockReach$Reader", "readsStop", "()Z"⟩, 12), (⟨"ClockReach", "dropViews", "()V"⟩, 16), (⟨"ClockReach", "isPlace", "(I)Z"⟩, 16), (⟨"ClockReach", "isEdge", "(I)Z"⟩, 16), (⟨"ClockReach", "slotOf", "(II)I"⟩, 16), (⟨"ClockReach", "isClock", "(I)Z"⟩, 16), (⟨"ClockReach", "beginAtZero", "(LClockReach$Graph;)V"⟩, 16), (⟨"ClockReach$Zone", "close", "()V"⟩, 2), (⟨"ClockReach$Graph", "record", "(III)V"⟩, 18), (⟨"ClockReach$Graph", "step", "(LClockReach$Automaton;II)V"⟩, 18), (⟨"ClockReach$Graph", "isKnown", "(LClockReach$Zone;I)Z"⟩, 18), (⟨"ClockReach", "isState", "(I)Z"⟩, 16), (⟨"ClockReach", "isStuck", "(I)Z"⟩, 16), (⟨"ClockReach$Remainder", "nextCover", "(LClockReach$Zone;I)I"⟩, 8)]
theorem lw_r2 : ∀ q ∈ lw_privs_2, lw_okq q := List.forall_mem_cons.mpr ⟨lw_p16, List.forall_mem_cons.mpr ⟨lw_p17, List.forall_mem_cons.mpr ⟨lw_p18, List.forall_mem_cons.mpr ⟨lw_p19, List.forall_mem_cons.mpr ⟨lw_p20, List.forall_mem_cons.mpr ⟨lw_p21, List.forall_mem_cons.mpr ⟨lw_p22, List.forall_mem_cons.mpr ⟨lw_p23, List.forall_mem_cons.mpr ⟨lw_p24, List.forall_mem_cons.mpr ⟨lw_p25, List.forall_mem_cons.mpr ⟨lw_p26, List.forall_mem_cons.mpr ⟨lw_p27, List.forall_mem_cons.mpr ⟨lw_p28, List.forall_mem_cons.mpr ⟨lw_p29, List.forall_mem_cons.mpr ⟨lw_p30, List.forall_mem_cons.mpr ⟨lw_p31, fun _ h => absurd h List.not_mem_nil⟩⟩⟩⟩⟩⟩⟩⟩⟩⟩⟩⟩⟩⟩⟩⟩
theorem lw_p32 : lw_okq (⟨"ClockReach$Remainder", "splits", "(I)Z"⟩, 8) := ⟨⟨by decide +kernel, by decide +kernel⟩, List.mem_of_getElem? (i := 356) (by decide +kernel), List.mem_of_getElem? (i := 857) (by decide +kernel), List.mem_of_getElem? (i := 858) (by decide +kernel)⟩
theorem lw_p33 : lw_okq (⟨"ClockReach$Automaton", "hurriedBehind", "(I)I"⟩, 17) := ⟨⟨by decide +kernel, by decide +kernel⟩, List.mem_of_getElem? (i := 135) (by decide +kernel), List.mem_of_getElem? (i := 937) (by decide +kernel), List.mem_of_getElem? (i := 938) (by decide +kernel)⟩
theorem lw_p34 : lw_okq (⟨"ClockReach", "canReach", "(II)Z"⟩, 16) := ⟨⟨by decide +kernel, by decide +kernel⟩, List.mem_of_getElem? (i := 21) (by decide +kernel), List.mem_of_getElem? (i := 949) (by decide +kernel), List.mem_of_getElem? (i := 950) (by decide +kernel)⟩
theorem lw_p35 : lw_okq (⟨"ClockReach", "isStep", "(II)Z"⟩, 16) := ⟨⟨by decide +kernel, by decide +kernel⟩, List.mem_of_getElem? (i := 21) (by decide +kernel), List.mem_of_getElem? (i := 957) (by decide +kernel), List.mem_of_getElem? (i := 958) (by decide +kernel)⟩
theorem lw_p36 : lw_okq (⟨"ClockReach", "timesRun", "(I)Z"⟩, 16) := ⟨⟨by decide +kernel, by decide +kernel⟩, List.mem_of_getElem? (i := 21) (by decide +kernel), List.mem_of_getElem? (i := 969) (by decide +kernel), List.mem_of_getElem? (i := 970) (by decide +kernel)⟩
theorem lw_p37 : lw_okq (⟨"ClockReach$Timing", "layConditions", "(LClockReach$Automaton;II)V"⟩, 10) := ⟨⟨by decide +kernel, by decide +kernel⟩, List.mem_of_getElem? (i := 389) (by decide +kernel), List.mem_of_getElem? (i := 978) (by decide +kernel), List.mem_of_getElem? (i := 979) (by decide +kernel)⟩
theorem lw_p38 : lw_okq (⟨"ClockReach$Timing", "layRule", "(III)V"⟩, 10) := ⟨⟨by decide +kernel, by decide +kernel⟩, List.mem_of_getElem? (i := 389) (by decide +kernel), List.mem_of_getElem? (i := 985) (by decide +kernel), List.mem_of_getElem? (i := 986) (by decide +kernel)⟩
theorem lw_p39 : lw_okq (⟨"java/lang/Throwable", "fillInStackTrace", "(I)Ljava/lang/Throwable;"⟩, 6) := ⟨⟨by decide +kernel, by decide +kernel⟩, List.mem_of_getElem? (i := 1148) (by decide +kernel), List.mem_of_getElem? (i := 1146) (by decide +kernel), List.mem_of_getElem? (i := 1147) (by decide +kernel)⟩
theorem lw_p40 : lw_okq (⟨"ClockReachModel", "four", "(I)V"⟩, 67) := ⟨⟨by decide +kernel, by decide +kernel⟩, List.mem_of_getElem? (i := 1173) (by decide +kernel), List.mem_of_getElem? (i := 1390) (by decide +kernel), List.mem_of_getElem? (i := 1391) (by decide +kernel)⟩
theorem lw_p41 : lw_okq (⟨"ClockReachModel", "next", "()V"⟩, 67) := ⟨⟨by decide +kernel, by decide +kernel⟩, List.mem_of_getElem? (i := 1173) (by decide +kernel), List.mem_of_getElem? (i := 1405) (by decide +kernel), List.mem_of_getElem? (i := 1406) (by decide +kernel)⟩
theorem lw_p42 : lw_okq (⟨"ClockReachModel", "byteAt", "(I)I"⟩, 67) := ⟨⟨by decide +kernel, by decide +kernel⟩, List.mem_of_getElem? (i := 1173) (by decide +kernel), List.mem_of_getElem? (i := 1409) (by decide +kernel), List.mem_of_getElem? (i := 1410) (by decide +kernel)⟩
theorem lw_p43 : lw_okq (⟨"ClockReachModel", "isGood", "()Z"⟩, 67) := ⟨⟨by decide +kernel, by decide +kernel⟩, List.mem_of_getElem? (i := 1173) (by decide +kernel), List.mem_of_getElem? (i := 1422) (by decide +kernel), List.mem_of_getElem? (i := 1423) (by decide +kernel)⟩
theorem lw_p44 : lw_okq (⟨"ClockReachModel", "readLine", "()V"⟩, 67) := ⟨⟨by decide +kernel, by decide +kernel⟩, List.mem_of_getElem? (i := 1173) (by decide +kernel), List.mem_of_getElem? (i := 1426) (by decide +kernel), List.mem_of_getElem? (i := 1427) (by decide +kernel)⟩
theorem lw_p45 : lw_okq (⟨"ClockReachModel", "isWord", "(I)Z"⟩, 67) := ⟨⟨by decide +kernel, by decide +kernel⟩, List.mem_of_getElem? (i := 1173) (by decide +kernel), List.mem_of_getElem? (i := 1431) (by decide +kernel), List.mem_of_getElem? (i := 1432) (by decide +kernel)⟩
theorem lw_p46 : lw_okq (⟨"ClockReachModel", "fails", "(I)V"⟩, 67) := ⟨⟨by decide +kernel, by decide +kernel⟩, List.mem_of_getElem? (i := 1173) (by decide +kernel), List.mem_of_getElem? (i := 1438) (by decide +kernel), List.mem_of_getElem? (i := 1439) (by decide +kernel)⟩
theorem lw_p47 : lw_okq (⟨"ClockReachModel", "freshName", "()I"⟩, 67) := ⟨⟨by decide +kernel, by decide +kernel⟩, List.mem_of_getElem? (i := 1173) (by decide +kernel), List.mem_of_getElem? (i := 1442) (by decide +kernel), List.mem_of_getElem? (i := 1443) (by decide +kernel)⟩
def lw_privs_3 : List (MethodName × Nat) := [(⟨"ClockReach$Remainder", "splits", "(I)Z"⟩, 8), (⟨"ClockReach$Automaton", "hurriedBehind", "(I)I"⟩, 17), (⟨"ClockReach", "canReach", "(II)Z"⟩, 16), (⟨"ClockReach", "isStep", "(II)Z"⟩, 16), (⟨"ClockReach", "timesRun", "(I)Z"⟩, 16), (⟨"ClockReach$Timing", "layConditions", "(LClockReach$Automaton;II)V"⟩, 10), (⟨"ClockReach$Timing", "layRule", "(III)V"⟩, 10), (⟨"java/lang/Throwable", "fillInStackTrace", "(I)Ljava/lang/Throwable;"⟩, 6), (⟨"ClockReachModel", "four", "(I)V"⟩, 67), (⟨"ClockReachModel", "next", "()V"⟩, 67), (⟨"ClockReachModel", "byteAt", "(I)I"⟩, 67), (⟨"ClockReachModel", "isGood", "()Z"⟩, 67), (⟨"ClockReachModel", "readLine", "()V"⟩, 67), (⟨"ClockReachModel", "isWord", "(I)Z"⟩, 67), (⟨"ClockReachModel", "fails", "(I)V"⟩, 67), (⟨"ClockReachModel", "freshName", "()I"⟩, 67)]
theorem lw_r3 : ∀ q ∈ lw_privs_3, lw_okq q := List.forall_mem_cons.mpr ⟨lw_p32, List.forall_mem_cons.mpr ⟨lw_p33, List.forall_mem_cons.mpr ⟨lw_p34, List.forall_mem_cons.mpr ⟨lw_p35, List.forall_mem_cons.mpr ⟨lw_p36, List.forall_mem_cons.mpr ⟨lw_p37, List.forall_mem_cons.mpr ⟨lw_p38, List.forall_mem_cons.mpr ⟨lw_p39, List.forall_mem_cons.mpr ⟨lw_p40, List.forall_mem_cons.mpr ⟨lw_p41, List.forall_mem_cons.mpr ⟨lw_p42, List.forall_mem_cons.mpr ⟨lw_p43, List.forall_mem_cons.mpr ⟨lw_p44, List.forall_mem_cons.mpr ⟨lw_p45, List.forall_mem_cons.mpr ⟨lw_p46, List.forall_mem_cons.mpr ⟨lw_p47, fun _ h => absurd h List.not_mem_nil⟩⟩⟩⟩⟩⟩⟩⟩⟩⟩⟩⟩⟩⟩⟩⟩
theorem lw_p48 : lw_okq (⟨"ClockReachModel", "mustBeName", "()V"⟩, 67) := ⟨⟨by decide +kernel, by decide +kernel⟩, List.mem_of_getElem? (i := 1173) (by decide +kernel), List.mem_of_getElem? (i := 1446) (by decide +kernel), List.mem_of_getElem? (i := 1447) (by decide +kernel)⟩
theorem lw_p49 : lw_okq (⟨"ClockReachModel", "isKept", "()Z"⟩, 67) := ⟨⟨by decide +kernel, by decide +kernel⟩, List.mem_of_getElem? (i := 1173) (by decide +kernel), List.mem_of_getElem? (i := 1450) (by decide +kernel), List.mem_of_getElem? (i := 1451) (by decide +kernel)⟩
theorem lw_p50 : lw_okq (⟨"ClockReachModel", "clockCalled", "()I"⟩, 67) := ⟨⟨by decide +kernel, by decide +kernel⟩, List.mem_of_getElem? (i := 1173) (by decide +kernel), List.mem_of_getElem? (i := 1458) (by decide +kernel), List.mem_of_getElem? (i := 1459) (by decide +kernel)⟩
theorem lw_p51 : lw_okq (⟨"ClockReachModel", "placeCalled", "()I"⟩, 67) := ⟨⟨by decide +kernel, by decide +kernel⟩, List.mem_of_getElem? (i := 1173) (by decide +kernel), List.mem_of_getElem? (i := 1462) (by decide +kernel), List.mem_of_getElem? (i := 1463) (by decide +kernel)⟩
theorem lw_p52 : lw_okq (⟨"ClockReachModel", "readPlace", "()V"⟩, 67) := ⟨⟨by decide +kernel, by decide +kernel⟩, List.mem_of_getElem? (i := 1173) (by decide +kernel), List.mem_of_getElem? (i := 1466) (by decide +kernel), List.mem_of_getElem? (i := 1467) (by decide +kernel)⟩
theorem lw_p53 : lw_okq (⟨"ClockReachModel", "readCondition", "(IZ)V"⟩, 67) := ⟨⟨by decide +kernel, by decide +kernel⟩, List.mem_of_getElem? (i := 1173) (by decide +kernel), List.mem_of_getElem? (i := 1470) (by decide +kernel), List.mem_of_getElem? (i := 1471) (by decide +kernel)⟩
theorem lw_p54 : lw_okq (⟨"ClockReachModel", "toldClock", "()I"⟩, 67) := ⟨⟨by decide +kernel, by decide +kernel⟩, List.mem_of_getElem? (i := 1173) (by decide +kernel), List.mem_of_getElem? (i := 1474) (by decide +kernel), List.mem_of_getElem? (i := 1475) (by decide +kernel)⟩
theorem lw_p55 : lw_okq (⟨"ClockReachModel", "isSign", "(I)Z"⟩, 67) := ⟨⟨by decide +kernel, by decide +kernel⟩, List.mem_of_getElem? (i := 1173) (by decide +kernel), List.mem_of_getElem? (i := 1481) (by decide +kernel), List.mem_of_getElem? (i := 1482) (by decide +kernel)⟩
theorem lw_p56 : lw_okq (⟨"ClockReachModel", "toldPlace", "()I"⟩, 67) := ⟨⟨by decide +kernel, by decide +kernel⟩, List.mem_of_getElem? (i := 1173) (by decide +kernel), List.mem_of_getElem? (i := 1485) (by decide +kernel), List.mem_of_getElem? (i := 1486) (by decide +kernel)⟩
theorem lw_p57 : lw_okq (⟨"ClockReachModel", "readEdge", "()V"⟩, 67) := ⟨⟨by decide +kernel, by decide +kernel⟩, List.mem_of_getElem? (i := 1173) (by decide +kernel), List.mem_of_getElem? (i := 1489) (by decide +kernel), List.mem_of_getElem? (i := 1490) (by decide +kernel)⟩
theorem lw_p58 : lw_okq (⟨"ClockReachModel", "another", "()V"⟩, 67) := ⟨⟨by decide +kernel, by decide +kernel⟩, List.mem_of_getElem? (i := 1173) (by decide +kernel), List.mem_of_getElem? (i := 1496) (by decide +kernel), List.mem_of_getElem? (i := 1497) (by decide +kernel)⟩
theorem lw_p59 : lw_okq (⟨"ClockReachModel", "clocks", "()I"⟩, 67) := ⟨⟨by decide +kernel, by decide +kernel⟩, List.mem_of_getElem? (i := 1173) (by decide +kernel), List.mem_of_getElem? (i := 1508) (by decide +kernel), List.mem_of_getElem? (i := 1509) (by decide +kernel)⟩
theorem lw_p60 : lw_okq (⟨"ClockReachModel", "manyOf", "(I)I"⟩, 67) := ⟨⟨by decide +kernel, by decide +kernel⟩, List.mem_of_getElem? (i := 1173) (by decide +kernel), List.mem_of_getElem? (i := 1512) (by decide +kernel), List.mem_of_getElem? (i := 1513) (by decide +kernel)⟩
theorem lw_p61 : lw_okq (⟨"ClockReachModel", "isEdge", "(I)Z"⟩, 67) := ⟨⟨by decide +kernel, by decide +kernel⟩, List.mem_of_getElem? (i := 1173) (by decide +kernel), List.mem_of_getElem? (i := 1516) (by decide +kernel), List.mem_of_getElem? (i := 1517) (by decide +kernel)⟩
theorem lw_p62 : lw_okq (⟨"ClockReachModel", "isPlace", "(I)Z"⟩, 67) := ⟨⟨by decide +kernel, by decide +kernel⟩, List.mem_of_getElem? (i := 1173) (by decide +kernel), List.mem_of_getElem? (i := 1520) (by decide +kernel), List.mem_of_getElem? (i := 1521) (by decide +kernel)⟩
theorem lw_p63 : lw_okq (⟨"ClockReachModel", "edgesOf", "(IZ)I"⟩, 67) := ⟨⟨by decide +kernel, by decide +kernel⟩, List.mem_of_getElem? (i := 1173) (by decide +kernel), List.mem_of_getElem? (i := 1528) (by decide +kernel), List.mem_of_getElem? (i := 1529) (by decide +kernel)⟩
def lw_privs_4 : List (MethodName × Nat) := [(⟨"ClockReachModel", "mustBeName", "()V"⟩, 67), (⟨"ClockReachModel", "isKept", "()Z"⟩, 67), (⟨"ClockReachModel", "clockCalled", "()I"⟩, 67), (⟨"ClockReachModel", "placeCalled", "()I"⟩, 67), (⟨"ClockReachModel", "readPlace", "()V"⟩, 67), (⟨"ClockReachModel", "readCondition", "(IZ)V"⟩, 67), (⟨"ClockReachModel", "toldClock", "()I"⟩, 67), (⟨"ClockReachModel", "isSign", "(I)Z"⟩, 67), (⟨"ClockReachModel", "toldPlace", "()I"⟩, 67), (⟨"ClockReachModel", "readEdge", "()V"⟩, 67), (⟨"ClockReachModel", "another", "()V"⟩, 67), (⟨"ClockReachModel", "clocks", "()I"⟩, 67), (⟨"ClockReachModel", "manyOf", "(I)I"⟩, 67), (⟨"ClockReachModel", "isEdge", "(I)Z"⟩, 67), (⟨"ClockReachModel", "isPlace", "(I)Z"⟩, 67), (⟨"ClockReachModel", "edgesOf", "(IZ)I"⟩, 67)]
theorem lw_r4 : ∀ q ∈ lw_privs_4, lw_okq q := List.forall_mem_cons.mpr ⟨lw_p48, List.forall_mem_cons.mpr ⟨lw_p49, List.forall_mem_cons.mpr ⟨lw_p50, List.forall_mem_cons.mpr ⟨lw_p51, List.forall_mem_cons.mpr ⟨lw_p52, List.forall_mem_cons.mpr ⟨lw_p53, List.forall_mem_cons.mpr ⟨lw_p54, List.forall_mem_cons.mpr ⟨lw_p55, List.forall_mem_cons.mpr ⟨lw_p56, List.forall_mem_cons.mpr ⟨lw_p57, List.forall_mem_cons.mpr ⟨lw_p58, List.forall_mem_cons.mpr ⟨lw_p59, List.forall_mem_cons.mpr ⟨lw_p60, List.forall_mem_cons.mpr ⟨lw_p61, List.forall_mem_cons.mpr ⟨lw_p62, List.forall_mem_cons.mpr ⟨lw_p63, fun _ h => absurd h List.not_mem_nil⟩⟩⟩⟩⟩⟩⟩⟩⟩⟩⟩⟩⟩⟩⟩⟩
theorem lw_p64 : lw_okq (⟨"ClockReachModel", "outOf", "(I)I"⟩, 67) := ⟨⟨by decide +kernel, by decide +kernel⟩, List.mem_of_getElem? (i := 1173) (by decide +kernel), List.mem_of_getElem? (i := 1532) (by decide +kernel), List.mem_of_getElem? (i := 1533) (by decide +kernel)⟩
theorem lw_p65 : lw_okq (⟨"ClockReachModel", "into", "(I)I"⟩, 67) := ⟨⟨by decide +kernel, by decide +kernel⟩, List.mem_of_getElem? (i := 1173) (by decide +kernel), List.mem_of_getElem? (i := 1536) (by decide +kernel), List.mem_of_getElem? (i := 1537) (by decide +kernel)⟩
theorem lw_p66 : lw_okq (⟨"ClockReachModel", "setBy", "(I)I"⟩, 67) := ⟨⟨by decide +kernel, by decide +kernel⟩, List.mem_of_getElem? (i := 1173) (by decide +kernel), List.mem_of_getElem? (i := 1544) (by decide +kernel), List.mem_of_getElem? (i := 1545) (by decide +kernel)⟩
theorem lw_p67 : lw_okq (⟨"ClockReachModel", "isCondition", "(II)Z"⟩, 67) := ⟨⟨by decide +kernel, by decide +kernel⟩, List.mem_of_getElem? (i := 1173) (by decide +kernel), List.mem_of_getElem? (i := 1552) (by decide +kernel), List.mem_of_getElem? (i := 1553) (by decide +kernel)⟩
theorem lw_p68 : lw_okq (⟨"ClockReachModel", "spot", "(II)I"⟩, 67) := ⟨⟨by decide +kernel, by decide +kernel⟩, List.mem_of_getElem? (i := 1173) (by decide +kernel), List.mem_of_getElem? (i := 1556) (by decide +kernel), List.mem_of_getElem? (i := 1557) (by decide +kernel)⟩
theorem lw_p69 : lw_okq (⟨"ClockReachModel", "isClock", "(I)Z"⟩, 67) := ⟨⟨by decide +kernel, by decide +kernel⟩, List.mem_of_getElem? (i := 1173) (by decide +kernel), List.mem_of_getElem? (i := 1564) (by decide +kernel), List.mem_of_getElem? (i := 1565) (by decide +kernel)⟩
theorem lw_p70 : lw_okq (⟨"ClockReachModel", "most", "(II)I"⟩, 67) := ⟨⟨by decide +kernel, by decide +kernel⟩, List.mem_of_getElem? (i := 1173) (by decide +kernel), List.mem_of_getElem? (i := 1568) (by decide +kernel), List.mem_of_getElem? (i := 1569) (by decide +kernel)⟩
theorem lw_p71 : lw_okq (⟨"ClockReachModel", "keepAct", "(II)V"⟩, 67) := ⟨⟨by decide +kernel, by decide +kernel⟩, List.mem_of_getElem? (i := 1173) (by decide +kernel), List.mem_of_getElem? (i := 1576) (by decide +kernel), List.mem_of_getElem? (i := 1577) (by decide +kernel)⟩
theorem lw_p72 : lw_okq (⟨"ClockReachModel", "isUrgent", "(I)Z"⟩, 67) := ⟨⟨by decide +kernel, by decide +kernel⟩, List.mem_of_getElem? (i := 1173) (by decide +kernel), List.mem_of_getElem? (i := 1584) (by decide +kernel), List.mem_of_getElem? (i := 1585) (by decide +kernel)⟩
theorem lw_p73 : lw_okq (⟨"ClockReachModel", "layPoint", "(III)V"⟩, 67) := ⟨⟨by decide +kernel, by decide +kernel⟩, List.mem_of_getElem? (i := 1173) (by decide +kernel), List.mem_of_getElem? (i := 1596) (by decide +kernel), List.mem_of_getElem? (i := 1597) (by decide +kernel)⟩
theorem lw_p74 : lw_okq (⟨"ClockReachModel", "explores", "(IIIZII)V"⟩, 67) := ⟨⟨by decide +kernel, by decide +kernel⟩, List.mem_of_getElem? (i := 1173) (by decide +kernel), List.mem_of_getElem? (i := 1600) (by decide +kernel), List.mem_of_getElem? (i := 1601) (by decide +kernel)⟩
theorem lw_p75 : lw_okq (⟨"ClockReachModel", "layForgotten", "(I)V"⟩, 67) := ⟨⟨by decide +kernel, by decide +kernel⟩, List.mem_of_getElem? (i := 1173) (by decide +kernel), List.mem_of_getElem? (i := 1604) (by decide +kernel), List.mem_of_getElem? (i := 1605) (by decide +kernel)⟩
theorem lw_p76 : lw_okq (⟨"ClockReachModel", "holdsAll", "([II)V"⟩, 67) := ⟨⟨by decide +kernel, by decide +kernel⟩, List.mem_of_getElem? (i := 1173) (by decide +kernel), List.mem_of_getElem? (i := 1608) (by decide +kernel), List.mem_of_getElem? (i := 1609) (by decide +kernel)⟩
theorem lw_p77 : lw_okq (⟨"ClockReachModel", "holds", "([II)V"⟩, 67) := ⟨⟨by decide +kernel, by decide +kernel⟩, List.mem_of_getElem? (i := 1173) (by decide +kernel), List.mem_of_getElem? (i := 1612) (by decide +kernel), List.mem_of_getElem? (i := 1613) (by decide +kernel)⟩
theorem lw_p78 : lw_okq (⟨"ClockReachModel", "closes", "([I)Z"⟩, 67) := ⟨⟨by decide +kernel, by decide +kernel⟩, List.mem_of_getElem? (i := 1173) (by decide +kernel), List.mem_of_getElem? (i := 1619) (by decide +kernel), List.mem_of_getElem? (i := 1620) (by decide +kernel)⟩
theorem lw_p79 : lw_okq (⟨"ClockReachModel", "comes", "(IIIIIZI)V"⟩, 67) := ⟨⟨by decide +kernel, by decide +kernel⟩, List.mem_of_getElem? (i := 1173) (by decide +kernel), List.mem_of_getElem? (i := 1627) (by decide +kernel), List.mem_of_getElem? (i := 1628) (by decide +kernel)⟩
def lw_privs_5 : List (MethodName × Nat) := [(⟨"ClockReachModel", "outOf", "(I)I"⟩, 67), (⟨"ClockReachModel", "into", "(I)I"⟩, 67), (⟨"ClockReachModel", "setBy", "(I)I"⟩, 67), (⟨"ClockReachModel", "isCondition", "(II)Z"⟩, 67), (⟨"ClockReachModel", "spot", "(II)I"⟩, 67), (⟨"ClockReachModel", "isClock", "(I)Z"⟩, 67), (⟨"ClockReachModel", "most", "(II)I"⟩, 67), (⟨"ClockReachModel", "keepAct", "(II)V"⟩, 67), (⟨"ClockReachModel", "isUrgent", "(I)Z"⟩, 67), (⟨"ClockReachModel", "layPoint", "(III)V"⟩, 67), (⟨"ClockReachModel", "explores", "(IIIZII)V"⟩, 67), (⟨"ClockReachModel", "layForgotten", "(I)V"⟩, 67), (⟨"ClockReachModel", "holdsAll", "([II)V"⟩, 67), (⟨"ClockReachModel", "holds", "([II)V"⟩, 67), (⟨"ClockReachModel", "closes", "([I)Z"⟩, 67), (⟨"ClockReachModel", "comes", "(IIIIIZI)V"⟩, 67)]
theorem lw_r5 : ∀ q ∈ lw_privs_5, lw_okq q := List.forall_mem_cons.mpr ⟨lw_p64, List.forall_mem_cons.mpr ⟨lw_p65, List.forall_mem_cons.mpr ⟨lw_p66, List.forall_mem_cons.mpr ⟨lw_p67, List.forall_mem_cons.mpr ⟨lw_p68, List.forall_mem_cons.mpr ⟨lw_p69, List.forall_mem_cons.mpr ⟨lw_p70, List.forall_mem_cons.mpr ⟨lw_p71, List.forall_mem_cons.mpr ⟨lw_p72, List.forall_mem_cons.mpr ⟨lw_p73, List.forall_mem_cons.mpr ⟨lw_p74, List.forall_mem_cons.mpr ⟨lw_p75, List.forall_mem_cons.mpr ⟨lw_p76, List.forall_mem_cons.mpr ⟨lw_p77, List.forall_mem_cons.mpr ⟨lw_p78, List.forall_mem_cons.mpr ⟨lw_p79, fun _ h => absurd h List.not_mem_nil⟩⟩⟩⟩⟩⟩⟩⟩⟩⟩⟩⟩⟩⟩⟩⟩
theorem lw_p80 : lw_okq (⟨"ClockReachModel", "delays", "([II)V"⟩, 67) := ⟨⟨by decide +kernel, by decide +kernel⟩, List.mem_of_getElem? (i := 1173) (by decide +kernel), List.mem_of_getElem? (i := 1631) (by decide +kernel), List.mem_of_getElem? (i := 1632) (by decide +kernel)⟩
theorem lw_p81 : lw_okq (⟨"ClockReachModel", "forgets", "([II)V"⟩, 67) := ⟨⟨by decide +kernel, by decide +kernel⟩, List.mem_of_getElem? (i := 1173) (by decide +kernel), List.mem_of_getElem? (i := 1635) (by decide +kernel), List.mem_of_getElem? (i := 1636) (by decide +kernel)⟩
theorem lw_p82 : lw_okq (⟨"ClockReachModel", "hasAll", "(I[IZ)Z"⟩, 67) := ⟨⟨by decide +kernel, by decide +kernel⟩, List.mem_of_getElem? (i := 1173) (by decide +kernel), List.mem_of_getElem? (i := 1642) (by decide +kernel), List.mem_of_getElem? (i := 1643) (by decide +kernel)⟩
theorem lw_p83 : lw_okq (⟨"ClockReachModel", "goesBy", "(I)Z"⟩, 67) := ⟨⟨by decide +kernel, by decide +kernel⟩, List.mem_of_getElem? (i := 1173) (by decide +kernel), List.mem_of_getElem? (i := 1649) (by decide +kernel), List.mem_of_getElem? (i := 1650) (by decide +kernel)⟩
theorem lw_p84 : lw_okq (⟨"ClockReachModel", "goesBack", "([II)V"⟩, 67) := ⟨⟨by decide +kernel, by decide +kernel⟩, List.mem_of_getElem? (i := 1173) (by decide +kernel), List.mem_of_getElem? (i := 1653) (by decide +kernel), List.mem_of_getElem? (i := 1654) (by decide +kernel)⟩
theorem lw_p85 : lw_okq (⟨"ClockReachModel", "isState", "(I)Z"⟩, 67) := ⟨⟨by decide +kernel, by decide +kernel⟩, List.mem_of_getElem? (i := 1173) (by decide +kernel), List.mem_of_getElem? (i := 1661) (by decide +kernel), List.mem_of_getElem? (i := 1662) (by decide +kernel)⟩
theorem lw_p86 : lw_okq (⟨"ClockReachModel", "isStuck", "(I)Z"⟩, 67) := ⟨⟨by decide +kernel, by decide +kernel⟩, List.mem_of_getElem? (i := 1173) (by decide +kernel), List.mem_of_getElem? (i := 1665) (by decide +kernel), List.mem_of_getElem? (i := 1666) (by decide +kernel)⟩
theorem lw_p87 : lw_okq (⟨"ClockReachModel", "layAhead", "(I)Z"⟩, 67) := ⟨⟨by decide +kernel, by decide +kernel⟩, List.mem_of_getElem? (i := 1173) (by decide +kernel), List.mem_of_getElem? (i := 1669) (by decide +kernel), List.mem_of_getElem? (i := 1670) (by decide +kernel)⟩
theorem lw_p88 : lw_okq (⟨"ClockReachModel", "isOver", "()Z"⟩, 67) := ⟨⟨by decide +kernel, by decide +kernel⟩, List.mem_of_getElem? (i := 1173) (by decide +kernel), List.mem_of_getElem? (i := 1673) (by decide +kernel), List.mem_of_getElem? (i := 1674) (by decide +kernel)⟩
theorem lw_p89 : lw_okq (⟨"ClockReachModel", "keepsPiece", "(I)V"⟩, 67) := ⟨⟨by decide +kernel, by decide +kernel⟩, List.mem_of_getElem? (i := 1173) (by decide +kernel), List.mem_of_getElem? (i := 1677) (by decide +kernel), List.mem_of_getElem? (i := 1678) (by decide +kernel)⟩
theorem lw_p90 : lw_okq (⟨"ClockReachModel", "parts", "(I)Z"⟩, 67) := ⟨⟨by decide +kernel, by decide +kernel⟩, List.mem_of_getElem? (i := 1173) (by decide +kernel), List.mem_of_getElem? (i := 1681) (by decide +kernel), List.mem_of_getElem? (i := 1682) (by decide +kernel)⟩
theorem lw_p91 : lw_okq (⟨"ClockReachModel", "boundOf", "(III)I"⟩, 67) := ⟨⟨by decide +kernel, by decide +kernel⟩, List.mem_of_getElem? (i := 1173) (by decide +kernel), List.mem_of_getElem? (i := 1690) (by decide +kernel), List.mem_of_getElem? (i := 1691) (by decide +kernel)⟩
theorem lw_p92 : lw_okq (⟨"ClockReachModel", "hasTimes", "(IIII)Z"⟩, 67) := ⟨⟨by decide +kernel, by decide +kernel⟩, List.mem_of_getElem? (i := 1173) (by decide +kernel), List.mem_of_getElem? (i := 1703) (by decide +kernel), List.mem_of_getElem? (i := 1704) (by decide +kernel)⟩
theorem lw_p93 : lw_okq (⟨"ClockReachModel", "goesTo", "(I)I"⟩, 67) := ⟨⟨by decide +kernel, by decide +kernel⟩, List.mem_of_getElem? (i := 1173) (by decide +kernel), List.mem_of_getElem? (i := 1736) (by decide +kernel), List.mem_of_getElem? (i := 1737) (by decide +kernel)⟩
theorem lw_p94 : lw_okq (⟨"ClockReachModel", "hasPlace", "(II)Z"⟩, 67) := ⟨⟨by decide +kernel, by decide +kernel⟩, List.mem_of_getElem? (i := 1173) (by decide +kernel), List.mem_of_getElem? (i := 1744) (by decide +kernel), List.mem_of_getElem? (i := 1745) (by decide +kernel)⟩
theorem lw_p95 : lw_okq (⟨"ClockReachModel", "isStep", "(II)Z"⟩, 67) := ⟨⟨by decide +kernel, by decide +kernel⟩, List.mem_of_getElem? (i := 1173) (by decide +kernel), List.mem_of_getElem? (i := 1764) (by decide +kernel), List.mem_of_getElem? (i := 1765) (by decide +kernel)⟩
def lw_privs_6 : List (MethodName × Nat) := [(⟨"ClockReachModel", "delays", "([II)V"⟩, 67), (⟨"ClockReachModel", "forgets", "([II)V"⟩, 67), (⟨"ClockReachModel", "hasAll", "(I[IZ)Z"⟩, 67), (⟨"ClockReachModel", "goesBy", "(I)Z"⟩, 67), (⟨"ClockReachModel", "goesBack", "([II)V"⟩, 67), (⟨"ClockReachModel", "isState", "(I)Z"⟩, 67), (⟨"ClockReachModel", "isStuck", "(I)Z"⟩, 67), (⟨"ClockReachModel", "layAhead", "(I)Z"⟩, 67), (⟨"ClockReachModel", "isOver", "()Z"⟩, 67), (⟨"ClockReachModel", "keepsPiece", "(I)V"⟩, 67), (⟨"ClockReachModel", "parts", "(I)Z"⟩, 67), (⟨"ClockReachModel", "boundOf", "(III)I"⟩, 67), (⟨"ClockReachModel", "hasTimes", "(IIII)Z"⟩, 67), (⟨"ClockReachModel", "goesTo", "(I)I"⟩, 67), (⟨"ClockReachModel", "hasPlace", "(II)Z"⟩, 67), (⟨"ClockReachModel", "isStep", "(II)Z"⟩, 67)]
theorem lw_r6 : ∀ q ∈ lw_privs_6, lw_okq q := List.forall_mem_cons.mpr ⟨lw_p80, List.forall_mem_cons.mpr ⟨lw_p81, List.forall_mem_cons.mpr ⟨lw_p82, List.forall_mem_cons.mpr ⟨lw_p83, List.forall_mem_cons.mpr ⟨lw_p84, List.forall_mem_cons.mpr ⟨lw_p85, List.forall_mem_cons.mpr ⟨lw_p86, List.forall_mem_cons.mpr ⟨lw_p87, List.forall_mem_cons.mpr ⟨lw_p88, List.forall_mem_cons.mpr ⟨lw_p89, List.forall_mem_cons.mpr ⟨lw_p90, List.forall_mem_cons.mpr ⟨lw_p91, List.forall_mem_cons.mpr ⟨lw_p92, List.forall_mem_cons.mpr ⟨lw_p93, List.forall_mem_cons.mpr ⟨lw_p94, List.forall_mem_cons.mpr ⟨lw_p95, fun _ h => absurd h List.not_mem_nil⟩⟩⟩⟩⟩⟩⟩⟩⟩⟩⟩⟩⟩⟩⟩⟩
theorem lw_p96 : lw_okq (⟨"ClockReachModel", "layPath", "(I)V"⟩, 67) := ⟨⟨by decide +kernel, by decide +kernel⟩, List.mem_of_getElem? (i := 1173) (by decide +kernel), List.mem_of_getElem? (i := 1768) (by decide +kernel), List.mem_of_getElem? (i := 1769) (by decide +kernel)⟩
theorem lw_p97 : lw_okq (⟨"ClockReachModel", "laysLeast", "()Z"⟩, 67) := ⟨⟨by decide +kernel, by decide +kernel⟩, List.mem_of_getElem? (i := 1173) (by decide +kernel), List.mem_of_getElem? (i := 1776) (by decide +kernel), List.mem_of_getElem? (i := 1777) (by decide +kernel)⟩
theorem lw_p98 : lw_okq (⟨"ClockReachModel", "layGaps", "()V"⟩, 67) := ⟨⟨by decide +kernel, by decide +kernel⟩, List.mem_of_getElem? (i := 1173) (by decide +kernel), List.mem_of_getElem? (i := 1780) (by decide +kernel), List.mem_of_getElem? (i := 1781) (by decide +kernel)⟩
theorem lw_p99 : lw_okq (⟨"ClockReachModel", "layConditions", "(II)V"⟩, 67) := ⟨⟨by decide +kernel, by decide +kernel⟩, List.mem_of_getElem? (i := 1173) (by decide +kernel), List.mem_of_getElem? (i := 1784) (by decide +kernel), List.mem_of_getElem? (i := 1785) (by decide +kernel)⟩
theorem lw_p100 : lw_okq (⟨"ClockReachModel", "holdsApart", "(III)V"⟩, 67) := ⟨⟨by decide +kernel, by decide +kernel⟩, List.mem_of_getElem? (i := 1173) (by decide +kernel), List.mem_of_getElem? (i := 1788) (by decide +kernel), List.mem_of_getElem? (i := 1789) (by decide +kernel)⟩
theorem lw_p101 : lw_okq (⟨"ClockReachModel", "laysGreatest", "(I)Z"⟩, 67) := ⟨⟨by decide +kernel, by decide +kernel⟩, List.mem_of_getElem? (i := 1173) (by decide +kernel), List.mem_of_getElem? (i := 1803) (by decide +kernel), List.mem_of_getElem? (i := 1804) (by decide +kernel)⟩
theorem lw_p102 : lw_okq (⟨"ClockReachModel", "spanned", "(I)I"⟩, 67) := ⟨⟨by decide +kernel, by decide +kernel⟩, List.mem_of_getElem? (i := 1173) (by decide +kernel), List.mem_of_getElem? (i := 1812) (by decide +kernel), List.mem_of_getElem? (i := 1813) (by decide +kernel)⟩
theorem lw_p103 : lw_okq (⟨"ClockReachModel", "beginsPlay", "()Z"⟩, 67) := ⟨⟨by decide +kernel, by decide +kernel⟩, List.mem_of_getElem? (i := 1173) (by decide +kernel), List.mem_of_getElem? (i := 1824) (by decide +kernel), List.mem_of_getElem? (i := 1825) (by decide +kernel)⟩
theorem lw_p104 : lw_okq (⟨"ClockReachModel", "isHeld", "(II)Z"⟩, 67) := ⟨⟨by decide +kernel, by decide +kernel⟩, List.mem_of_getElem? (i := 1173) (by decide +kernel), List.mem_of_getElem? (i := 1828) (by decide +kernel), List.mem_of_getElem? (i := 1829) (by decide +kernel)⟩
theorem lw_p105 : lw_okq (⟨"ClockReachModel", "mayWait", "()I"⟩, 67) := ⟨⟨by decide +kernel, by decide +kernel⟩, List.mem_of_getElem? (i := 1173) (by decide +kernel), List.mem_of_getElem? (i := 1836) (by decide +kernel), List.mem_of_getElem? (i := 1837) (by decide +kernel)⟩
theorem lw_p106 : lw_okq (⟨"ClockReachModel", "passes", "(I)V"⟩, 67) := ⟨⟨by decide +kernel, by decide +kernel⟩, List.mem_of_getElem? (i := 1173) (by decide +kernel), List.mem_of_getElem? (i := 1840) (by decide +kernel), List.mem_of_getElem? (i := 1841) (by decide +kernel)⟩
theorem lw_p107 : lw_okq (⟨"ClockReachModel", "canTake", "(I)Z"⟩, 67) := ⟨⟨by decide +kernel, by decide +kernel⟩, List.mem_of_getElem? (i := 1173) (by decide +kernel), List.mem_of_getElem? (i := 1848) (by decide +kernel), List.mem_of_getElem? (i := 1849) (by decide +kernel)⟩
theorem lw_p108 : lw_okq (⟨"ClockReachModel", "take", "(I)V"⟩, 67) := ⟨⟨by decide +kernel, by decide +kernel⟩, List.mem_of_getElem? (i := 1173) (by decide +kernel), List.mem_of_getElem? (i := 1852) (by decide +kernel), List.mem_of_getElem? (i := 1853) (by decide +kernel)⟩
def lw_privs_7 : List (MethodName × Nat) := [(⟨"ClockReachModel", "layPath", "(I)V"⟩, 67), (⟨"ClockReachModel", "laysLeast", "()Z"⟩, 67), (⟨"ClockReachModel", "layGaps", "()V"⟩, 67), (⟨"ClockReachModel", "layConditions", "(II)V"⟩, 67), (⟨"ClockReachModel", "holdsApart", "(III)V"⟩, 67), (⟨"ClockReachModel", "laysGreatest", "(I)Z"⟩, 67), (⟨"ClockReachModel", "spanned", "(I)I"⟩, 67), (⟨"ClockReachModel", "beginsPlay", "()Z"⟩, 67), (⟨"ClockReachModel", "isHeld", "(II)Z"⟩, 67), (⟨"ClockReachModel", "mayWait", "()I"⟩, 67), (⟨"ClockReachModel", "passes", "(I)V"⟩, 67), (⟨"ClockReachModel", "canTake", "(I)Z"⟩, 67), (⟨"ClockReachModel", "take", "(I)V"⟩, 67)]
theorem lw_r7 : ∀ q ∈ lw_privs_7, lw_okq q := List.forall_mem_cons.mpr ⟨lw_p96, List.forall_mem_cons.mpr ⟨lw_p97, List.forall_mem_cons.mpr ⟨lw_p98, List.forall_mem_cons.mpr ⟨lw_p99, List.forall_mem_cons.mpr ⟨lw_p100, List.forall_mem_cons.mpr ⟨lw_p101, List.forall_mem_cons.mpr ⟨lw_p102, List.forall_mem_cons.mpr ⟨lw_p103, List.forall_mem_cons.mpr ⟨lw_p104, List.forall_mem_cons.mpr ⟨lw_p105, List.forall_mem_cons.mpr ⟨lw_p106, List.forall_mem_cons.mpr ⟨lw_p107, List.forall_mem_cons.mpr ⟨lw_p108, fun _ h => absurd h List.not_mem_nil⟩⟩⟩⟩⟩⟩⟩⟩⟩⟩⟩⟩⟩
def lw_privs : List (MethodName × Nat) := lw_privs_1 ++ (lw_privs_2 ++ (lw_privs_3 ++ (lw_privs_4 ++ (lw_privs_5 ++ (lw_privs_6 ++ (lw_privs_7))))))
def lw_tbl : List Cond := k2_sels lw_privs ++ tables_1
theorem lw_privs_ok : ∀ q ∈ lw_privs, lw_okq q := by
  show ∀ q ∈ lw_privs_1 ++ (lw_privs_2 ++ (lw_privs_3 ++ (lw_privs_4 ++ (lw_privs_5 ++ (lw_privs_6 ++ (lw_privs_7)))))), lw_okq q
  exact List.forall_mem_append.mpr ⟨lw_r1, List.forall_mem_append.mpr ⟨lw_r2, List.forall_mem_append.mpr ⟨lw_r3, List.forall_mem_append.mpr ⟨lw_r4, List.forall_mem_append.mpr ⟨lw_r5, List.forall_mem_append.mpr ⟨lw_r6, lw_r7⟩⟩⟩⟩⟩⟩
end
section
/-! ===== BEGIN words of one list among another's, by their places ===== -/
theorem goodIn_r {big : List Cond} (ws : List Cond) (ps : List Nat) (hp : ws = ps.filterMap (fun i => big[i]?)) (h : ws.all goodWord = true) : GoodIn big ws := by
  intro w hw
  have h1 := List.all_eq_true.mp h w hw
  rw [hp] at hw
  obtain ⟨i, -, hi⟩ := List.mem_filterMap.mp hw
  have hm : w ∈ big := by first | exact List.mem_of_getElem? hi | exact List.getElem?_mem hi
  exact ⟨hm, good_of_word h1⟩
theorem goodIn_app {big a b : List Cond} (ha : GoodIn big a) (hb : GoodIn big b) : GoodIn big (a ++ b) := fun w h => (List.mem_append.mp h).elim (ha w) (hb w)
theorem goodIn_ca {big a b : List Cond} {c : Cond} (ha : GoodIn big (c :: a)) (hb : GoodIn big b) : GoodIn big (c :: (a ++ b)) := fun w h => (List.mem_cons.mp h).elim (fun e => ha w (List.mem_cons.mpr (Or.inl e))) (fun h => (List.mem_append.mp h).elim (fun h => ha w (List.mem_cons.mpr (Or.inr h))) (hb w))
theorem goodIn_sub {big ws : List Cond} (hm : ∀ w ∈ ws, w ∈ big) (h : ws.all goodWord = true) : GoodIn big ws := fun w hw => ⟨hm w hw, good_of_word (List.all_eq_true.mp h w hw)⟩
def RX0 : String := "ClockReach$Automaton"
def TX0 : u_T := fun k => match k with
  | 0 => ("ClockReach$Automaton", "clocks", "I", false)
  | 1 => ("ClockReach$Automaton", "places", "I", false)
  | 2 => ("ClockReach$Automaton", "edges", "I", false)
  | 3 => ("ClockReach$Automaton", "start", "I", false)
  | 4 => ("ClockReach$Automaton", "hurried", "[Z", true)
  | 5 => ("ClockReach$Automaton", "sources", "[I", true)
  | 6 => ("ClockReach$Automaton", "targets", "[I", true)
  | 7 => ("ClockReach$Automaton", "resets", "[I", true)
  | 8 => ("ClockReach$Automaton", "counts", "[I", true)
  | 9 => ("ClockReach$Automaton", "conditionClocks", "[I", true)
  | 10 => ("ClockReach$Automaton", "hows", "[I", true)
  | 11 => ("ClockReach$Automaton", "numbers", "[I", true)
  | 12 => ("ClockReach$Automaton", "ceilings", "[I", true)
  | 13 => ("ClockReach$Automaton", "floors", "[I", true)
  | 14 => ("ClockReach$Automaton", "greatest", "[I", true)
  | 15 => ("ClockReach$Automaton", "lower", "[I", true)
  | _ => ("ClockReach$Automaton", "upper", "[I", true)
def tyX0 : Nat → FieldType := fun k => match k with
  | 0 => .int
  | 1 => .int
  | 2 => .int
  | 3 => .int
  | 4 => .array .boolean
  | 5 => .array .int
  | 6 => .array .int
  | 7 => .array .int
  | 8 => .array .int
  | 9 => .array .int
  | 10 => .array .int
  | 11 => .array .int
  | 12 => .array .int
  | 13 => .array .int
  | 14 => .array .int
  | 15 => .array .int
  | _ => .array .int
abbrev wsX00 : List Cond := u_ws RX0 TX0 17
theorem nmX0 : ∀ a, a < 17 → ∀ b, b < 17 → a ≠ b → (TX0 a).2.1 ≠ (TX0 b).2.1 := by decide +kernel
theorem tyX0_ok : ∀ k, k < 17 → parseFieldDescriptor (TX0 k).2.2.1 = some (tyX0 k) := by decide +kernel
abbrev cX0_init : ByteArray := prog_2_method_1_code
def yX0_init : MethodName := ⟨RX0, "<init>", "()V"⟩
abbrev cX0_hostOfPlace : ByteArray := prog_2_method_2_code
def yX0_hostOfPlace : MethodName := ⟨RX0, "hostOfPlace", "(I)I"⟩
abbrev cX0_slot : ByteArray := prog_2_method_3_code
def yX0_slot : MethodName := ⟨RX0, "slot", "(II)I"⟩
abbrev cX0_clear : ByteArray := prog_2_method_4_code
def yX0_clear : MethodName := ⟨RX0, "clear", "()V"⟩
abbrev cX0_addEdge : ByteArray := prog_2_method_5_code
def yX0_addEdge : MethodName := ⟨RX0, "addEdge", "(II)V"⟩
abbrev cX0_addCondition : ByteArray := prog_2_method_6_code
def yX0_addCondition : MethodName := ⟨RX0, "addCondition", "(IIII)V"⟩
abbrev cX0_setBounds : ByteArray := prog_2_method_7_code
def yX0_setBounds : MethodName := ⟨RX0, "setBounds", "(I)V"⟩
abbrev cX0_setNumber : ByteArray := prog_2_method_8_code
def yX0_setNumber : MethodName := ⟨RX0, "setNumber", "(II)V"⟩
abbrev cX0_measure : ByteArray := prog_2_method_9_code
def yX0_measure : MethodName := ⟨RX0, "measure", "()V"⟩
abbrev cX0_allConditions : ByteArray := prog_2_method_10_code
def yX0_allConditions : MethodName := ⟨RX0, "allConditions", "()I"⟩
abbrev cX0_edgesWith : ByteArray := prog_2_method_11_code
def yX0_edgesWith : MethodName := ⟨RX0, "edgesWith", "([II)I"⟩
abbrev cX0_narrowTo : ByteArray := prog_2_method_12_code
def yX0_narrowTo : MethodName := ⟨RX0, "narrowTo", "(LClockReach$Zone;II)Z"⟩
abbrev cX0_opensIn : ByteArray := prog_2_method_13_code
def yX0_opensIn : MethodName := ⟨RX0, "opensIn", "(LClockReach$Zone;I)Z"⟩
abbrev cX0_setBackIn : ByteArray := prog_2_method_14_code
def yX0_setBackIn : MethodName := ⟨RX0, "setBackIn", "(LClockReach$Zone;I)V"⟩
abbrev cX0_stayIn : ByteArray := prog_2_method_15_code
def yX0_stayIn : MethodName := ⟨RX0, "stayIn", "(LClockReach$Zone;I)V"⟩
abbrev cX0_holdsAt : ByteArray := prog_2_method_16_code
def yX0_holdsAt : MethodName := ⟨RX0, "holdsAt", "(I[I)Z"⟩
abbrev cX0_hurriedRings : ByteArray := prog_2_method_17_code
def yX0_hurriedRings : MethodName := ⟨RX0, "hurriedRings", "()I"⟩
abbrev cX0_hurriedBehind : ByteArray := prog_2_method_18_code
def yX0_hurriedBehind : MethodName := ⟨RX0, "hurriedBehind", "(I)I"⟩
def RX1 : String := "ClockReach$Graph"
def TX1 : u_T := fun k => match k with
  | 0 => ("ClockReach$Graph", "zones", "[LClockReach$Zone;", true)
  | 1 => ("ClockReach$Graph", "sites", "[I", true)
  | 2 => ("ClockReach$Graph", "parents", "[I", true)
  | 3 => ("ClockReach$Graph", "entries", "[I", true)
  | 4 => ("ClockReach$Graph", "depths", "[I", true)
  | 5 => ("ClockReach$Graph", "broods", "[I", true)
  | 6 => ("ClockReach$Graph", "count", "I", false)
  | 7 => ("ClockReach$Graph", "full", "Z", false)
  | 8 => ("ClockReach$Graph", "crossed", "I", false)
  | 9 => ("ClockReach$Graph", "way", "I", false)
  | 10 => ("ClockReach$Graph", "avoided", "I", false)
  | 11 => ("ClockReach$Graph", "goal", "I", false)
  | 12 => ("ClockReach$Graph", "found", "Z", false)
  | 13 => ("ClockReach$Graph", "most", "I", true)
  | 14 => ("ClockReach$Graph", "leaves", "Z", false)
  | 15 => ("ClockReach$Graph", "size", "I", false)
  | 16 => ("ClockReach$Graph", "high", "[I", true)
  | _ => ("ClockReach$Graph", "low", "[I", true)
def tyX1 : Nat → FieldType := fun k => match k with
  | 0 => .array (.object "ClockReach$Zone")
  | 1 => .array .int
  | 2 => .array .int
  | 3 => .array .int
  | 4 => .array .int
  | 5 => .array .int
  | 6 => .int
  | 7 => .boolean
  | 8 => .int
  | 9 => .int
  | 10 => .int
  | 11 => .int
  | 12 => .boolean
  | 13 => .int
  | 14 => .boolean
  | 15 => .int
  | 16 => .array .int
  | _ => .array .int
abbrev wsX10 : List Cond := u_ws RX1 TX1 18
theorem nmX1 : ∀ a, a < 18 → ∀ b, b < 18 → a ≠ b → (TX1 a).2.1 ≠ (TX1 b).2.1 := by decide +kernel
theorem tyX1_ok : ∀ k, k < 18 → parseFieldDescriptor (TX1 k).2.2.1 = some (tyX1 k) := by decide +kernel
abbrev cX1_init : ByteArray := prog_3_method_1_code
def yX1_init : MethodName := ⟨RX1, "<init>", "(II)V"⟩
abbrev cX1_plan : ByteArray := prog_3_method_2_code
def yX1_plan : MethodName := ⟨RX1, "plan", "(LClockReach$Automaton;IZI)V"⟩
abbrev cX1_open : ByteArray := prog_3_method_3_code
def yX1_open : MethodName := ⟨RX1, "open", "(LClockReach$Automaton;I[I)V"⟩
abbrev cX1_record : ByteArray := prog_3_method_4_code
def yX1_record : MethodName := ⟨RX1, "record", "(III)V"⟩
abbrev cX1_grow : ByteArray := prog_3_method_5_code
def yX1_grow : MethodName := ⟨RX1, "grow", "(LClockReach$Automaton;)V"⟩
abbrev cX1_step : ByteArray := prog_3_method_6_code
def yX1_step : MethodName := ⟨RX1, "step", "(LClockReach$Automaton;II)V"⟩
abbrev cX1_isKnown : ByteArray := prog_3_method_7_code
def yX1_isKnown : MethodName := ⟨RX1, "isKnown", "(LClockReach$Zone;I)Z"⟩
abbrev cX1_firstAt : ByteArray := prog_3_method_8_code
def yX1_firstAt : MethodName := ⟨RX1, "firstAt", "(I)I"⟩
abbrev cX1_allSites : ByteArray := prog_3_method_9_code
def yX1_allSites : MethodName := ⟨RX1, "allSites", "()I"⟩
abbrev cX1_loosestAt : ByteArray := prog_3_method_10_code
def yX1_loosestAt : MethodName := ⟨RX1, "loosestAt", "(III)I"⟩
def RX2 : String := "ClockReach$History"
def TX2 : u_T := fun k => match k with
  | 0 => ("ClockReach$History", "count", "I", false)
  | 1 => ("ClockReach$History", "codes", "[I", true)
  | _ => ("ClockReach$History", "olds", "[I", true)
def tyX2 : Nat → FieldType := fun k => match k with
  | 0 => .int
  | 1 => .array .int
  | _ => .array .int
abbrev wsX20 : List Cond := u_ws RX2 TX2 3
theorem nmX2 : ∀ a, a < 3 → ∀ b, b < 3 → a ≠ b → (TX2 a).2.1 ≠ (TX2 b).2.1 := by decide +kernel
theorem tyX2_ok : ∀ k, k < 3 → parseFieldDescriptor (TX2 k).2.2.1 = some (tyX2 k) := by decide +kernel
abbrev cX2_init : ByteArray := prog_4_method_1_code
def yX2_init : MethodName := ⟨RX2, "<init>", "()V"⟩
abbrev cX2_codeOfPlace : ByteArray := prog_4_method_2_code
def yX2_codeOfPlace : MethodName := ⟨RX2, "codeOfPlace", "(I)I"⟩
abbrev cX2_keep : ByteArray := prog_4_method_3_code
def yX2_keep : MethodName := ⟨RX2, "keep", "(II)V"⟩
abbrev cX2_takesBack : ByteArray := prog_4_method_4_code
def yX2_takesBack : MethodName := ⟨RX2, "takesBack", "(LClockReach$Automaton;)Z"⟩
def RX3 : String := "ClockReach$Play"
def TX3 : u_T := fun k => match k with
  | 0 => ("ClockReach$Play", "on", "Z", false)
  | 1 => ("ClockReach$Play", "site", "I", false)
  | 2 => ("ClockReach$Play", "time", "I", false)
  | 3 => ("ClockReach$Play", "times", "[I", true)
  | _ => ("ClockReach$Play", "behind", "[I", true)
def tyX3 : Nat → FieldType := fun k => match k with
  | 0 => .boolean
  | 1 => .int
  | 2 => .int
  | 3 => .array .int
  | _ => .array .int
abbrev wsX30 : List Cond := u_ws RX3 TX3 5
theorem nmX3 : ∀ a, a < 5 → ∀ b, b < 5 → a ≠ b → (TX3 a).2.1 ≠ (TX3 b).2.1 := by decide +kernel
theorem tyX3_ok : ∀ k, k < 5 → parseFieldDescriptor (TX3 k).2.2.1 = some (tyX3 k) := by decide +kernel
abbrev cX3_init : ByteArray := prog_5_method_1_code
def yX3_init : MethodName := ⟨RX3, "<init>", "()V"⟩
abbrev cX3_startsIn : ByteArray := prog_5_method_2_code
def yX3_startsIn : MethodName := ⟨RX3, "startsIn", "(LClockReach$Automaton;)Z"⟩
abbrev cX3_longestWait : ByteArray := prog_5_method_3_code
def yX3_longestWait : MethodName := ⟨RX3, "longestWait", "(LClockReach$Automaton;)I"⟩
abbrev cX3_pass : ByteArray := prog_5_method_4_code
def yX3_pass : MethodName := ⟨RX3, "pass", "(I)V"⟩
abbrev cX3_opens : ByteArray := prog_5_method_5_code
def yX3_opens : MethodName := ⟨RX3, "opens", "(LClockReach$Automaton;I)Z"⟩
abbrev cX3_cross : ByteArray := prog_5_method_6_code
def yX3_cross : MethodName := ⟨RX3, "cross", "(LClockReach$Automaton;I)V"⟩
abbrev cX3_openEdges : ByteArray := prog_5_method_7_code
def yX3_openEdges : MethodName := ⟨RX3, "openEdges", "(LClockReach$Automaton;)I"⟩
abbrev cX3_goesBy : ByteArray := prog_5_method_8_code
def yX3_goesBy : MethodName := ⟨RX3, "goesBy", "(LClockReach$Automaton;II)Z"⟩
def RX4 : String := "ClockReach$Reader"
def TX4 : u_T := fun k => match k with
  | 0 => ("ClockReach$Reader", "fault", "I", false)
  | 1 => ("ClockReach$Reader", "faultAt", "I", false)
  | 2 => ("ClockReach$Reader", "text", "[I", false)
  | 3 => ("ClockReach$Reader", "length", "I", false)
  | 4 => ("ClockReach$Reader", "position", "I", false)
  | 5 => ("ClockReach$Reader", "kind", "I", false)
  | 6 => ("ClockReach$Reader", "value", "I", false)
  | 7 => ("ClockReach$Reader", "tokenAt", "I", false)
  | 8 => ("ClockReach$Reader", "into", "LClockReach$Automaton;", false)
  | 9 => ("ClockReach$Reader", "words", "[I", true)
  | 10 => ("ClockReach$Reader", "clockNames", "[I", true)
  | _ => ("ClockReach$Reader", "placeNames", "[I", true)
def tyX4 : Nat → FieldType := fun k => match k with
  | 0 => .int
  | 1 => .int
  | 2 => .array .int
  | 3 => .int
  | 4 => .int
  | 5 => .int
  | 6 => .int
  | 7 => .int
  | 8 => .object "ClockReach$Automaton"
  | 9 => .array .int
  | 10 => .array .int
  | _ => .array .int
abbrev wsX40 : List Cond := u_ws RX4 TX4 12
theorem nmX4 : ∀ a, a < 12 → ∀ b, b < 12 → a ≠ b → (TX4 a).2.1 ≠ (TX4 b).2.1 := by decide +kernel
theorem tyX4_ok : ∀ k, k < 12 → parseFieldDescriptor (TX4 k).2.2.1 = some (tyX4 k) := by decide +kernel
abbrev cX4_init : ByteArray := prog_6_method_1_code
def yX4_init : MethodName := ⟨RX4, "<init>", "()V"⟩
abbrev cX4_code : ByteArray := prog_6_method_2_code
def yX4_code : MethodName := ⟨RX4, "code", "(Ljava/lang/String;)I"⟩
abbrev cX4_reads : ByteArray := prog_6_method_3_code
def yX4_reads : MethodName := ⟨RX4, "reads", "([IILClockReach$Automaton;)Z"⟩
abbrev cX4_refuse : ByteArray := prog_6_method_4_code
def yX4_refuse : MethodName := ⟨RX4, "refuse", "(I)Z"⟩
abbrev cX4_refuseToken : ByteArray := prog_6_method_5_code
def yX4_refuseToken : MethodName := ⟨RX4, "refuseToken", "()Z"⟩
abbrev cX4_readsStop : ByteArray := prog_6_method_6_code
def yX4_readsStop : MethodName := ⟨RX4, "readsStop", "()Z"⟩
abbrev cX4_readsClock : ByteArray := prog_6_method_7_code
def yX4_readsClock : MethodName := ⟨RX4, "readsClock", "()Z"⟩
abbrev cX4_readsPlace : ByteArray := prog_6_method_8_code
def yX4_readsPlace : MethodName := ⟨RX4, "readsPlace", "()Z"⟩
abbrev cX4_readsStart : ByteArray := prog_6_method_9_code
def yX4_readsStart : MethodName := ⟨RX4, "readsStart", "()Z"⟩
abbrev cX4_readsEdge : ByteArray := prog_6_method_10_code
def yX4_readsEdge : MethodName := ⟨RX4, "readsEdge", "()Z"⟩
abbrev cX4_readsResets : ByteArray := prog_6_method_11_code
def yX4_readsResets : MethodName := ⟨RX4, "readsResets", "(I)Z"⟩
abbrev cX4_readsConditions : ByteArray := prog_6_method_12_code
def yX4_readsConditions : MethodName := ⟨RX4, "readsConditions", "(III)Z"⟩
abbrev cX4_readHow : ByteArray := prog_6_method_13_code
def yX4_readHow : MethodName := ⟨RX4, "readHow", "(Z)I"⟩
abbrev cX4_isNewName : ByteArray := prog_6_method_14_code
def yX4_isNewName : MethodName := ⟨RX4, "isNewName", "()Z"⟩
abbrev cX4_toldName : ByteArray := prog_6_method_15_code
def yX4_toldName : MethodName := ⟨RX4, "toldName", "([II)I"⟩
abbrev cX4_indexOf : ByteArray := prog_6_method_16_code
def yX4_indexOf : MethodName := ⟨RX4, "indexOf", "([II)I"⟩
abbrev cX4_advance : ByteArray := prog_6_method_17_code
def yX4_advance : MethodName := ⟨RX4, "advance", "()V"⟩
abbrev cX4_scanWord : ByteArray := prog_6_method_18_code
def yX4_scanWord : MethodName := ⟨RX4, "scanWord", "()V"⟩
abbrev cX4_scanNumber : ByteArray := prog_6_method_19_code
def yX4_scanNumber : MethodName := ⟨RX4, "scanNumber", "()V"⟩
abbrev cX4_scanSign : ByteArray := prog_6_method_20_code
def yX4_scanSign : MethodName := ⟨RX4, "scanSign", "()V"⟩
def RX5 : String := "ClockReach$Remainder"
def TX5 : u_T := fun k => match k with
  | 0 => ("ClockReach$Remainder", "covers", "[LClockReach$Zone;", true)
  | 1 => ("ClockReach$Remainder", "count", "I", false)
  | 2 => ("ClockReach$Remainder", "made", "[LClockReach$Zone;", true)
  | 3 => ("ClockReach$Remainder", "used", "I", false)
  | 4 => ("ClockReach$Remainder", "pieces", "[LClockReach$Zone;", true)
  | 5 => ("ClockReach$Remainder", "cutting", "[I", true)
  | 6 => ("ClockReach$Remainder", "cells", "[I", true)
  | _ => ("ClockReach$Remainder", "scratch", "LClockReach$Zone;", true)
def tyX5 : Nat → FieldType := fun k => match k with
  | 0 => .array (.object "ClockReach$Zone")
  | 1 => .int
  | 2 => .array (.object "ClockReach$Zone")
  | 3 => .int
  | 4 => .array (.object "ClockReach$Zone")
  | 5 => .array .int
  | 6 => .array .int
  | _ => .object "ClockReach$Zone"
abbrev wsX50 : List Cond := u_ws RX5 TX5 8
theorem nmX5 : ∀ a, a < 8 → ∀ b, b < 8 → a ≠ b → (TX5 a).2.1 ≠ (TX5 b).2.1 := by decide +kernel
theorem tyX5_ok : ∀ k, k < 8 → parseFieldDescriptor (TX5 k).2.2.1 = some (tyX5 k) := by decide +kernel
abbrev cX5_init : ByteArray := prog_7_method_1_code
def yX5_init : MethodName := ⟨RX5, "<init>", "()V"⟩
abbrev cX5_clear : ByteArray := prog_7_method_2_code
def yX5_clear : MethodName := ⟨RX5, "clear", "()V"⟩
abbrev cX5_add : ByteArray := prog_7_method_3_code
def yX5_add : MethodName := ⟨RX5, "add", "(LClockReach$Zone;)V"⟩
abbrev cX5_addLeaving : ByteArray := prog_7_method_4_code
def yX5_addLeaving : MethodName := ⟨RX5, "addLeaving", "(LClockReach$Automaton;II)V"⟩
abbrev cX5_meet : ByteArray := prog_7_method_5_code
def yX5_meet : MethodName := ⟨RX5, "meet", "(LClockReach$Zone;LClockReach$Zone;)Z"⟩
abbrev cX5_leavesAny : ByteArray := prog_7_method_6_code
def yX5_leavesAny : MethodName := ⟨RX5, "leavesAny", "(LClockReach$Zone;)Z"⟩
abbrev cX5_nextCover : ByteArray := prog_7_method_7_code
def yX5_nextCover : MethodName := ⟨RX5, "nextCover", "(LClockReach$Zone;I)I"⟩
abbrev cX5_splits : ByteArray := prog_7_method_8_code
def yX5_splits : MethodName := ⟨RX5, "splits", "(I)Z"⟩
def RX6 : String := "ClockReach$Timing"
def TX6 : u_T := fun k => match k with
  | 0 => ("ClockReach$Timing", "path", "[I", true)
  | 1 => ("ClockReach$Timing", "length", "I", false)
  | 2 => ("ClockReach$Timing", "at", "[I", true)
  | 3 => ("ClockReach$Timing", "laters", "[I", true)
  | 4 => ("ClockReach$Timing", "earliers", "[I", true)
  | 5 => ("ClockReach$Timing", "gaps", "[I", true)
  | 6 => ("ClockReach$Timing", "rules", "I", false)
  | 7 => ("ClockReach$Timing", "since", "[I", true)
  | 8 => ("ClockReach$Timing", "zeros", "[I", true)
  | _ => ("ClockReach$Timing", "zone", "LClockReach$Zone;", true)
def tyX6 : Nat → FieldType := fun k => match k with
  | 0 => .array .int
  | 1 => .int
  | 2 => .array .int
  | 3 => .array .int
  | 4 => .array .int
  | 5 => .array .int
  | 6 => .int
  | 7 => .array .int
  | 8 => .array .int
  | _ => .object "ClockReach$Zone"
abbrev wsX60 : List Cond := u_ws RX6 TX6 10
theorem nmX6 : ∀ a, a < 10 → ∀ b, b < 10 → a ≠ b → (TX6 a).2.1 ≠ (TX6 b).2.1 := by decide +kernel
theorem tyX6_ok : ∀ k, k < 10 → parseFieldDescriptor (TX6 k).2.2.1 = some (tyX6 k) := by decide +kernel
abbrev cX6_init : ByteArray := prog_8_method_1_code
def yX6_init : MethodName := ⟨RX6, "<init>", "()V"⟩
abbrev cX6_loadRun : ByteArray := prog_8_method_2_code
def yX6_loadRun : MethodName := ⟨RX6, "loadRun", "(LClockReach$Graph;I)V"⟩
abbrev cX6_layRules : ByteArray := prog_8_method_3_code
def yX6_layRules : MethodName := ⟨RX6, "layRules", "(LClockReach$Automaton;)V"⟩
abbrev cX6_layConditions : ByteArray := prog_8_method_4_code
def yX6_layConditions : MethodName := ⟨RX6, "layConditions", "(LClockReach$Automaton;II)V"⟩
abbrev cX6_layRule : ByteArray := prog_8_method_5_code
def yX6_layRule : MethodName := ⟨RX6, "layRule", "(III)V"⟩
abbrev cX6_findsLeast : ByteArray := prog_8_method_6_code
def yX6_findsLeast : MethodName := ⟨RX6, "findsLeast", "()Z"⟩
abbrev cX6_findsGreatest : ByteArray := prog_8_method_7_code
def yX6_findsGreatest : MethodName := ⟨RX6, "findsGreatest", "(I)Z"⟩
abbrev cX6_clockBehind : ByteArray := prog_8_method_8_code
def yX6_clockBehind : MethodName := ⟨RX6, "clockBehind", "(LClockReach$Automaton;II)I"⟩
abbrev cX6_spanOf : ByteArray := prog_8_method_9_code
def yX6_spanOf : MethodName := ⟨RX6, "spanOf", "(LClockReach$Automaton;I)I"⟩
def RX7 : String := "ClockReach$Zone"
def TX7 : u_T := fun k => match k with
  | 0 => ("ClockReach$Zone", "cells", "[I", true)
  | _ => ("ClockReach$Zone", "size", "I", false)
def tyX7 : Nat → FieldType := fun k => match k with
  | 0 => .array .int
  | _ => .int
abbrev wsX70 : List Cond := u_ws RX7 TX7 2
theorem nmX7 : ∀ a, a < 2 → ∀ b, b < 2 → a ≠ b → (TX7 a).2.1 ≠ (TX7 b).2.1 := by decide +kernel
theorem tyX7_ok : ∀ k, k < 2 → parseFieldDescriptor (TX7 k).2.2.1 = some (tyX7 k) := by decide +kernel
abbrev cX7_init : ByteArray := prog_9_method_1_code
def yX7_init : MethodName := ⟨RX7, "<init>", "(I)V"⟩
abbrev cX7_ticks : ByteArray := prog_9_method_2_code
def yX7_ticks : MethodName := ⟨RX7, "ticks", "(I)I"⟩
abbrev cX7_wholePart : ByteArray := prog_9_method_3_code
def yX7_wholePart : MethodName := ⟨RX7, "wholePart", "(I)I"⟩
abbrev cX7_cellOf : ByteArray := prog_9_method_4_code
def yX7_cellOf : MethodName := ⟨RX7, "cellOf", "(II)I"⟩
abbrev cX7_setPoint : ByteArray := prog_9_method_5_code
def yX7_setPoint : MethodName := ⟨RX7, "setPoint", "(I[I)V"⟩
abbrev cX7_setAll : ByteArray := prog_9_method_6_code
def yX7_setAll : MethodName := ⟨RX7, "setAll", "(I)V"⟩
abbrev cX7_copyOf : ByteArray := prog_9_method_7_code
def yX7_copyOf : MethodName := ⟨RX7, "copyOf", "(LClockReach$Zone;)V"⟩
abbrev cX7_narrow : ByteArray := prog_9_method_8_code
def yX7_narrow : MethodName := ⟨RX7, "narrow", "(III)Z"⟩
abbrev cX7_setBack : ByteArray := prog_9_method_9_code
def yX7_setBack : MethodName := ⟨RX7, "setBack", "(I)V"⟩
abbrev cX7_delay : ByteArray := prog_9_method_10_code
def yX7_delay : MethodName := ⟨RX7, "delay", "()V"⟩
abbrev cX7_setPast : ByteArray := prog_9_method_11_code
def yX7_setPast : MethodName := ⟨RX7, "setPast", "()V"⟩
abbrev cX7_forget : ByteArray := prog_9_method_12_code
def yX7_forget : MethodName := ⟨RX7, "forget", "([I[I)V"⟩
abbrev cX7_close : ByteArray := prog_9_method_13_code
def yX7_close : MethodName := ⟨RX7, "close", "()V"⟩
abbrev cX7_holdsAll : ByteArray := prog_9_method_14_code
def yX7_holdsAll : MethodName := ⟨RX7, "holdsAll", "(LClockReach$Zone;)Z"⟩
abbrev cX7_equalTo : ByteArray := prog_9_method_15_code
def yX7_equalTo : MethodName := ⟨RX7, "equalTo", "(LClockReach$Zone;)Z"⟩
abbrev cX7_holdsTimes : ByteArray := prog_9_method_16_code
def yX7_holdsTimes : MethodName := ⟨RX7, "holdsTimes", "([I)Z"⟩
abbrev cX7_wholeValues : ByteArray := prog_9_method_17_code
def yX7_wholeValues : MethodName := ⟨RX7, "wholeValues", "([I)I"⟩
abbrev cX7_wholeFrom : ByteArray := prog_9_method_18_code
def yX7_wholeFrom : MethodName := ⟨RX7, "wholeFrom", "(LClockReach$Zone;I[I)I"⟩
def RX8 : String := "ClockReach"
def TX8 : u_T := fun k => match k with
  | 0 => ("ClockReach", "tape", "[I", true)
  | 1 => ("ClockReach", "taped", "I", false)
  | 2 => ("ClockReach", "reader", "LClockReach$Reader;", true)
  | 3 => ("ClockReach", "model", "LClockReach$Automaton;", false)
  | 4 => ("ClockReach", "draft", "LClockReach$Automaton;", false)
  | 5 => ("ClockReach", "history", "LClockReach$History;", true)
  | 6 => ("ClockReach", "shown", "LClockReach$Graph;", true)
  | 7 => ("ClockReach", "hasShown", "Z", false)
  | 8 => ("ClockReach", "tried", "LClockReach$Graph;", true)
  | 9 => ("ClockReach", "soon", "LClockReach$Graph;", true)
  | 10 => ("ClockReach", "soonStands", "Z", false)
  | 11 => ("ClockReach", "remainder", "LClockReach$Remainder;", true)
  | 12 => ("ClockReach", "timing", "LClockReach$Timing;", true)
  | 13 => ("ClockReach", "play", "LClockReach$Play;", true)
  | 14 => ("ClockReach", "beginUnits", "[I", true)
  | _ => ("ClockReach", "sample", "[I", true)
def tyX8 : Nat → FieldType := fun k => match k with
  | 0 => .array .int
  | 1 => .int
  | 2 => .object "ClockReach$Reader"
  | 3 => .object "ClockReach$Automaton"
  | 4 => .object "ClockReach$Automaton"
  | 5 => .object "ClockReach$History"
  | 6 => .object "ClockReach$Graph"
  | 7 => .boolean
  | 8 => .object "ClockReach$Graph"
  | 9 => .object "ClockReach$Graph"
  | 10 => .boolean
  | 11 => .object "ClockReach$Remainder"
  | 12 => .object "ClockReach$Timing"
  | 13 => .object "ClockReach$Play"
  | 14 => .array .int
  | _ => .array .int
abbrev wsX80 : List Cond := u_ws RX8 TX8 16
theorem nmX8 : ∀ a, a < 16 → ∀ b, b < 16 → a ≠ b → (TX8 a).2.1 ≠ (TX8 b).2.1 := by decide +kernel
theorem tyX8_ok : ∀ k, k < 16 → parseFieldDescriptor (TX8 k).2.2.1 = some (tyX8 k) := by decide +kernel
abbrev cX8_init : ByteArray := prog_1_method_1_code
def yX8_init : MethodName := ⟨RX8, "<init>", "()V"⟩
abbrev cX8_feed : ByteArray := prog_1_method_2_code
def yX8_feed : MethodName := ⟨RX8, "feed", "(IIIII)I"⟩
abbrev cX8_putBytes : ByteArray := prog_1_method_3_code
def yX8_putBytes : MethodName := ⟨RX8, "putBytes", "(I)V"⟩
abbrev cX8_end : ByteArray := prog_1_method_4_code
def yX8_end : MethodName := ⟨RX8, "end", "(I)I"⟩
abbrev cX8_automaton : ByteArray := prog_1_method_5_code
def yX8_automaton : MethodName := ⟨RX8, "automaton", "()I"⟩
abbrev cX8_dropViews : ByteArray := prog_1_method_6_code
def yX8_dropViews : MethodName := ⟨RX8, "dropViews", "()V"⟩
abbrev cX8_fault : ByteArray := prog_1_method_7_code
def yX8_fault : MethodName := ⟨RX8, "fault", "(I)I"⟩
abbrev cX8_about : ByteArray := prog_1_method_8_code
def yX8_about : MethodName := ⟨RX8, "about", "(I)I"⟩
abbrev cX8_bit : ByteArray := prog_1_method_9_code
def yX8_bit : MethodName := ⟨RX8, "bit", "(Z)I"⟩
abbrev cX8_place : ByteArray := prog_1_method_10_code
def yX8_place : MethodName := ⟨RX8, "place", "(II)I"⟩
abbrev cX8_isPlace : ByteArray := prog_1_method_11_code
def yX8_isPlace : MethodName := ⟨RX8, "isPlace", "(I)Z"⟩
abbrev cX8_isEdge : ByteArray := prog_1_method_12_code
def yX8_isEdge : MethodName := ⟨RX8, "isEdge", "(I)Z"⟩
abbrev cX8_isClock : ByteArray := prog_1_method_13_code
def yX8_isClock : MethodName := ⟨RX8, "isClock", "(I)Z"⟩
abbrev cX8_edge : ByteArray := prog_1_method_14_code
def yX8_edge : MethodName := ⟨RX8, "edge", "(II)I"⟩
abbrev cX8_condition : ByteArray := prog_1_method_15_code
def yX8_condition : MethodName := ⟨RX8, "condition", "(III)I"⟩
abbrev cX8_slotOf : ByteArray := prog_1_method_16_code
def yX8_slotOf : MethodName := ⟨RX8, "slotOf", "(II)I"⟩
abbrev cX8_limit : ByteArray := prog_1_method_17_code
def yX8_limit : MethodName := ⟨RX8, "limit", "(II)I"⟩
abbrev cX8_number : ByteArray := prog_1_method_18_code
def yX8_number : MethodName := ⟨RX8, "number", "(III)I"⟩
abbrev cX8_urgent : ByteArray := prog_1_method_19_code
def yX8_urgent : MethodName := ⟨RX8, "urgent", "(IZ)Z"⟩
abbrev cX8_undo : ByteArray := prog_1_method_20_code
def yX8_undo : MethodName := ⟨RX8, "undo", "()Z"⟩
abbrev cX8_graph : ByteArray := prog_1_method_21_code
def yX8_graph : MethodName := ⟨RX8, "graph", "(IZ)I"⟩
abbrev cX8_beginAtZero : ByteArray := prog_1_method_22_code
def yX8_beginAtZero : MethodName := ⟨RX8, "beginAtZero", "(LClockReach$Graph;)V"⟩
abbrev cX8_isState : ByteArray := prog_1_method_23_code
def yX8_isState : MethodName := ⟨RX8, "isState", "(I)Z"⟩
abbrev cX8_state : ByteArray := prog_1_method_24_code
def yX8_state : MethodName := ⟨RX8, "state", "(II)I"⟩
abbrev cX8_isStuck : ByteArray := prog_1_method_25_code
def yX8_isStuck : MethodName := ⟨RX8, "isStuck", "(I)Z"⟩
abbrev cX8_bound : ByteArray := prog_1_method_26_code
def yX8_bound : MethodName := ⟨RX8, "bound", "(IIII)I"⟩
abbrev cX8_within : ByteArray := prog_1_method_27_code
def yX8_within : MethodName := ⟨RX8, "within", "(II)I"⟩
abbrev cX8_has : ByteArray := prog_1_method_28_code
def yX8_has : MethodName := ⟨RX8, "has", "(IIII)I"⟩
abbrev cX8_first : ByteArray := prog_1_method_29_code
def yX8_first : MethodName := ⟨RX8, "first", "(I)I"⟩
abbrev cX8_reached : ByteArray := prog_1_method_30_code
def yX8_reached : MethodName := ⟨RX8, "reached", "()I"⟩
abbrev cX8_taken : ByteArray := prog_1_method_31_code
def yX8_taken : MethodName := ⟨RX8, "taken", "()I"⟩
abbrev cX8_overlap : ByteArray := prog_1_method_32_code
def yX8_overlap : MethodName := ⟨RX8, "overlap", "(II)I"⟩
abbrev cX8_covered : ByteArray := prog_1_method_33_code
def yX8_covered : MethodName := ⟨RX8, "covered", "(I)I"⟩
abbrev cX8_points : ByteArray := prog_1_method_34_code
def yX8_points : MethodName := ⟨RX8, "points", "(I)I"⟩
abbrev cX8_rings : ByteArray := prog_1_method_35_code
def yX8_rings : MethodName := ⟨RX8, "rings", "()I"⟩
abbrev cX8_from : ByteArray := prog_1_method_36_code
def yX8_from : MethodName := ⟨RX8, "from", "(IIIII)I"⟩
abbrev cX8_avoids : ByteArray := prog_1_method_37_code
def yX8_avoids : MethodName := ⟨RX8, "avoids", "(II)I"⟩
abbrev cX8_canReach : ByteArray := prog_1_method_38_code
def yX8_canReach : MethodName := ⟨RX8, "canReach", "(II)Z"⟩
abbrev cX8_isStep : ByteArray := prog_1_method_39_code
def yX8_isStep : MethodName := ⟨RX8, "isStep", "(II)Z"⟩
abbrev cX8_run : ByteArray := prog_1_method_40_code
def yX8_run : MethodName := ⟨RX8, "run", "(II)I"⟩
abbrev cX8_timesRun : ByteArray := prog_1_method_41_code
def yX8_timesRun : MethodName := ⟨RX8, "timesRun", "(I)Z"⟩
abbrev cX8_when : ByteArray := prog_1_method_42_code
def yX8_when : MethodName := ⟨RX8, "when", "(II)I"⟩
abbrev cX8_then : ByteArray := prog_1_method_43_code
def yX8_then : MethodName := ⟨RX8, "then", "(III)I"⟩
abbrev cX8_spans : ByteArray := prog_1_method_44_code
def yX8_spans : MethodName := ⟨RX8, "spans", "(II)I"⟩
abbrev cX8_tells : ByteArray := prog_1_method_45_code
def yX8_tells : MethodName := ⟨RX8, "tells", "(IIIIII)I"⟩
abbrev cX8_latest : ByteArray := prog_1_method_46_code
def yX8_latest : MethodName := ⟨RX8, "latest", "(III)I"⟩
abbrev cX8_soonest : ByteArray := prog_1_method_47_code
def yX8_soonest : MethodName := ⟨RX8, "soonest", "(II)I"⟩
abbrev cX8_lets : ByteArray := prog_1_method_48_code
def yX8_lets : MethodName := ⟨RX8, "lets", "(IIII)I"⟩
abbrev cX8_begin : ByteArray := prog_1_method_49_code
def yX8_begin : MethodName := ⟨RX8, "begin", "()I"⟩
abbrev cX8_waits : ByteArray := prog_1_method_50_code
def yX8_waits : MethodName := ⟨RX8, "waits", "(I)Z"⟩
abbrev cX8_takes : ByteArray := prog_1_method_51_code
def yX8_takes : MethodName := ⟨RX8, "takes", "(I)I"⟩
abbrev cX8_now : ByteArray := prog_1_method_52_code
def yX8_now : MethodName := ⟨RX8, "now", "(I)I"⟩
abbrev cX8_clock : ByteArray := prog_1_method_53_code
def yX8_clock : MethodName := ⟨RX8, "clock", "(I)I"⟩
abbrev cX8_replays : ByteArray := prog_1_method_54_code
def yX8_replays : MethodName := ⟨RX8, "replays", "(I)Z"⟩
def RX9 : String := "ClockReachModel"
def TX9 : u_T := fun k => match k with
  | 0 => ("ClockReachModel", "thrown", "I", false)
  | 1 => ("ClockReachModel", "clockName", "[I", true)
  | 2 => ("ClockReachModel", "placeName", "[I", true)
  | 3 => ("ClockReachModel", "urgent", "[I", true)
  | 4 => ("ClockReachModel", "untils", "[I", true)
  | 5 => ("ClockReachModel", "edgeFrom", "[I", true)
  | 6 => ("ClockReachModel", "edgeTo", "[I", true)
  | 7 => ("ClockReachModel", "whens", "[I", true)
  | 8 => ("ClockReachModel", "sets", "[I", true)
  | 9 => ("ClockReachModel", "ofClock", "[I", true)
  | 10 => ("ClockReachModel", "how", "[I", true)
  | 11 => ("ClockReachModel", "limit", "[I", true)
  | 12 => ("ClockReachModel", "clockMany", "[I", true)
  | 13 => ("ClockReachModel", "placeMany", "[I", true)
  | 14 => ("ClockReachModel", "edgeMany", "[I", true)
  | 15 => ("ClockReachModel", "begins", "[I", true)
  | 16 => ("ClockReachModel", "bank", "I", false)
  | 17 => ("ClockReachModel", "tape", "[I", true)
  | 18 => ("ClockReachModel", "taped", "I", false)
  | 19 => ("ClockReachModel", "size", "I", false)
  | 20 => ("ClockReachModel", "at", "I", false)
  | 21 => ("ClockReachModel", "behind", "I", false)
  | 22 => ("ClockReachModel", "token", "I", false)
  | 23 => ("ClockReachModel", "value", "I", false)
  | 24 => ("ClockReachModel", "faultKind", "I", false)
  | 25 => ("ClockReachModel", "faultPlace", "I", false)
  | 26 => ("ClockReachModel", "wrong", "I", false)
  | 27 => ("ClockReachModel", "wrongAt", "I", false)
  | 28 => ("ClockReachModel", "rb", "I", false)
  | 29 => ("ClockReachModel", "hasGraph", "Z", false)
  | 30 => ("ClockReachModel", "isPlayed", "Z", false)
  | 31 => ("ClockReachModel", "actOf", "[I", true)
  | 32 => ("ClockReachModel", "actWas", "[I", true)
  | 33 => ("ClockReachModel", "acts", "I", false)
  | 34 => ("ClockReachModel", "zone", "[I", true)
  | 35 => ("ClockReachModel", "z", "[I", true)
  | 36 => ("ClockReachModel", "y", "[I", true)
  | 37 => ("ClockReachModel", "cover", "[I", true)
  | 38 => ("ClockReachModel", "statePlace", "[I", true)
  | 39 => ("ClockReachModel", "stateFrom", "[I", true)
  | 40 => ("ClockReachModel", "stateBy", "[I", true)
  | 41 => ("ClockReachModel", "stateDeep", "[I", true)
  | 42 => ("ClockReachModel", "stateMany", "[I", true)
  | 43 => ("ClockReachModel", "takenBy", "[I", true)
  | 44 => ("ClockReachModel", "isFull", "[Z", true)
  | 45 => ("ClockReachModel", "graphWay", "I", false)
  | 46 => ("ClockReachModel", "side", "I", false)
  | 47 => ("ClockReachModel", "high", "[I", true)
  | 48 => ("ClockReachModel", "low", "[I", true)
  | 49 => ("ClockReachModel", "piece", "[I", true)
  | 50 => ("ClockReachModel", "pieceFrom", "[I", true)
  | 51 => ("ClockReachModel", "covers", "[I", true)
  | 52 => ("ClockReachModel", "pieces", "I", false)
  | 53 => ("ClockReachModel", "coverMany", "I", false)
  | 54 => ("ClockReachModel", "path", "[I", true)
  | 55 => ("ClockReachModel", "later", "[I", true)
  | 56 => ("ClockReachModel", "sooner", "[I", true)
  | 57 => ("ClockReachModel", "gap", "[I", true)
  | 58 => ("ClockReachModel", "setAt", "[I", true)
  | 59 => ("ClockReachModel", "time", "[I", true)
  | 60 => ("ClockReachModel", "span", "[I", true)
  | 61 => ("ClockReachModel", "pathMany", "I", false)
  | 62 => ("ClockReachModel", "gaps", "I", false)
  | 63 => ("ClockReachModel", "isBroken", "Z", false)
  | 64 => ("ClockReachModel", "clockTime", "[I", true)
  | 65 => ("ClockReachModel", "playPlace", "I", false)
  | _ => ("ClockReachModel", "played", "I", false)
def tyX9 : Nat → FieldType := fun k => match k with
  | 0 => .int
  | 1 => .array .int
  | 2 => .array .int
  | 3 => .array .int
  | 4 => .array .int
  | 5 => .array .int
  | 6 => .array .int
  | 7 => .array .int
  | 8 => .array .int
  | 9 => .array .int
  | 10 => .array .int
  | 11 => .array .int
  | 12 => .array .int
  | 13 => .array .int
  | 14 => .array .int
  | 15 => .array .int
  | 16 => .int
  | 17 => .array .int
  | 18 => .int
  | 19 => .int
  | 20 => .int
  | 21 => .int
  | 22 => .int
  | 23 => .int
  | 24 => .int
  | 25 => .int
  | 26 => .int
  | 27 => .int
  | 28 => .int
  | 29 => .boolean
  | 30 => .boolean
  | 31 => .array .int
  | 32 => .array .int
  | 33 => .int
  | 34 => .array .int
  | 35 => .array .int
  | 36 => .array .int
  | 37 => .array .int
  | 38 => .array .int
  | 39 => .array .int
  | 40 => .array .int
  | 41 => .array .int
  | 42 => .array .int
  | 43 => .array .int
  | 44 => .array .boolean
  | 45 => .int
  | 46 => .int
  | 47 => .array .int
  | 48 => .array .int
  | 49 => .array .int
  | 50 => .array .int
  | 51 => .array .int
  | 52 => .int
  | 53 => .int
  | 54 => .array .int
  | 55 => .array .int
  | 56 => .array .int
  | 57 => .array .int
  | 58 => .array .int
  | 59 => .array .int
  | 60 => .array .int
  | 61 => .int
  | 62 => .int
  | 63 => .boolean
  | 64 => .array .int
  | 65 => .int
  | _ => .int
abbrev wsX90 : List Cond := u_ws RX9 TX9 67
theorem nmX9 : ∀ a, a < 67 → ∀ b, b < 67 → a ≠ b → (TX9 a).2.1 ≠ (TX9 b).2.1 := by decide +kernel
theorem tyX9_ok : ∀ k, k < 67 → parseFieldDescriptor (TX9 k).2.2.1 = some (tyX9 k) := by decide +kernel
abbrev cX9_init : ByteArray := prog_11_method_1_code
def yX9_init : MethodName := ⟨RX9, "<init>", "()V"⟩
abbrev cX9_thrown : ByteArray := prog_11_method_2_code
def yX9_thrown : MethodName := ⟨RX9, "thrown", "()I"⟩
abbrev cX9_in : ByteArray := prog_11_method_3_code
def yX9_in : MethodName := ⟨RX9, "in", "(III)Z"⟩
abbrev cX9_isOf : ByteArray := prog_11_method_4_code
def yX9_isOf : MethodName := ⟨RX9, "isOf", "(II)Z"⟩
abbrev cX9_lesser : ByteArray := prog_11_method_5_code
def yX9_lesser : MethodName := ⟨RX9, "lesser", "(II)I"⟩
abbrev cX9_greater : ByteArray := prog_11_method_6_code
def yX9_greater : MethodName := ⟨RX9, "greater", "(II)I"⟩
abbrev cX9_four : ByteArray := prog_11_method_7_code
def yX9_four : MethodName := ⟨RX9, "four", "(I)V"⟩
abbrev cX9_feed : ByteArray := prog_11_method_8_code
def yX9_feed : MethodName := ⟨RX9, "feed", "(IIIII)I"⟩
abbrev cX9_end : ByteArray := prog_11_method_9_code
def yX9_end : MethodName := ⟨RX9, "end", "(I)I"⟩
abbrev cX9_byteAt : ByteArray := prog_11_method_10_code
def yX9_byteAt : MethodName := ⟨RX9, "byteAt", "(I)I"⟩
abbrev cX9_isSmall : ByteArray := prog_11_method_11_code
def yX9_isSmall : MethodName := ⟨RX9, "isSmall", "(I)Z"⟩
abbrev cX9_isDigit : ByteArray := prog_11_method_12_code
def yX9_isDigit : MethodName := ⟨RX9, "isDigit", "(I)Z"⟩
abbrev cX9_next : ByteArray := prog_11_method_13_code
def yX9_next : MethodName := ⟨RX9, "next", "()V"⟩
abbrev cX9_isGood : ByteArray := prog_11_method_14_code
def yX9_isGood : MethodName := ⟨RX9, "isGood", "()Z"⟩
abbrev cX9_fails : ByteArray := prog_11_method_15_code
def yX9_fails : MethodName := ⟨RX9, "fails", "(I)V"⟩
abbrev cX9_isWord : ByteArray := prog_11_method_16_code
def yX9_isWord : MethodName := ⟨RX9, "isWord", "(I)Z"⟩
abbrev cX9_isSign : ByteArray := prog_11_method_17_code
def yX9_isSign : MethodName := ⟨RX9, "isSign", "(I)Z"⟩
abbrev cX9_isKept : ByteArray := prog_11_method_18_code
def yX9_isKept : MethodName := ⟨RX9, "isKept", "()Z"⟩
abbrev cX9_clockCalled : ByteArray := prog_11_method_19_code
def yX9_clockCalled : MethodName := ⟨RX9, "clockCalled", "()I"⟩
abbrev cX9_placeCalled : ByteArray := prog_11_method_20_code
def yX9_placeCalled : MethodName := ⟨RX9, "placeCalled", "()I"⟩
abbrev cX9_mustBeName : ByteArray := prog_11_method_21_code
def yX9_mustBeName : MethodName := ⟨RX9, "mustBeName", "()V"⟩
abbrev cX9_freshName : ByteArray := prog_11_method_22_code
def yX9_freshName : MethodName := ⟨RX9, "freshName", "()I"⟩
abbrev cX9_toldClock : ByteArray := prog_11_method_23_code
def yX9_toldClock : MethodName := ⟨RX9, "toldClock", "()I"⟩
abbrev cX9_toldPlace : ByteArray := prog_11_method_24_code
def yX9_toldPlace : MethodName := ⟨RX9, "toldPlace", "()I"⟩
abbrev cX9_readCondition : ByteArray := prog_11_method_25_code
def yX9_readCondition : MethodName := ⟨RX9, "readCondition", "(IZ)V"⟩
abbrev cX9_readPlace : ByteArray := prog_11_method_26_code
def yX9_readPlace : MethodName := ⟨RX9, "readPlace", "()V"⟩
abbrev cX9_readEdge : ByteArray := prog_11_method_27_code
def yX9_readEdge : MethodName := ⟨RX9, "readEdge", "()V"⟩
abbrev cX9_readLine : ByteArray := prog_11_method_28_code
def yX9_readLine : MethodName := ⟨RX9, "readLine", "()V"⟩
abbrev cX9_automaton : ByteArray := prog_11_method_29_code
def yX9_automaton : MethodName := ⟨RX9, "automaton", "()I"⟩
abbrev cX9_fault : ByteArray := prog_11_method_30_code
def yX9_fault : MethodName := ⟨RX9, "fault", "(I)I"⟩
abbrev cX9_another : ByteArray := prog_11_method_31_code
def yX9_another : MethodName := ⟨RX9, "another", "()V"⟩
abbrev cX9_clocks : ByteArray := prog_11_method_32_code
def yX9_clocks : MethodName := ⟨RX9, "clocks", "()I"⟩
abbrev cX9_isClock : ByteArray := prog_11_method_33_code
def yX9_isClock : MethodName := ⟨RX9, "isClock", "(I)Z"⟩
abbrev cX9_isPlace : ByteArray := prog_11_method_34_code
def yX9_isPlace : MethodName := ⟨RX9, "isPlace", "(I)Z"⟩
abbrev cX9_isEdge : ByteArray := prog_11_method_35_code
def yX9_isEdge : MethodName := ⟨RX9, "isEdge", "(I)Z"⟩
abbrev cX9_outOf : ByteArray := prog_11_method_36_code
def yX9_outOf : MethodName := ⟨RX9, "outOf", "(I)I"⟩
abbrev cX9_into : ByteArray := prog_11_method_37_code
def yX9_into : MethodName := ⟨RX9, "into", "(I)I"⟩
abbrev cX9_setBy : ByteArray := prog_11_method_38_code
def yX9_setBy : MethodName := ⟨RX9, "setBy", "(I)I"⟩
abbrev cX9_isUrgent : ByteArray := prog_11_method_39_code
def yX9_isUrgent : MethodName := ⟨RX9, "isUrgent", "(I)Z"⟩
abbrev cX9_manyOf : ByteArray := prog_11_method_40_code
def yX9_manyOf : MethodName := ⟨RX9, "manyOf", "(I)I"⟩
abbrev cX9_spot : ByteArray := prog_11_method_41_code
def yX9_spot : MethodName := ⟨RX9, "spot", "(II)I"⟩
abbrev cX9_edgesOf : ByteArray := prog_11_method_42_code
def yX9_edgesOf : MethodName := ⟨RX9, "edgesOf", "(IZ)I"⟩
abbrev cX9_about : ByteArray := prog_11_method_43_code
def yX9_about : MethodName := ⟨RX9, "about", "(I)I"⟩
abbrev cX9_place : ByteArray := prog_11_method_44_code
def yX9_place : MethodName := ⟨RX9, "place", "(II)I"⟩
abbrev cX9_edge : ByteArray := prog_11_method_45_code
def yX9_edge : MethodName := ⟨RX9, "edge", "(II)I"⟩
abbrev cX9_isCondition : ByteArray := prog_11_method_46_code
def yX9_isCondition : MethodName := ⟨RX9, "isCondition", "(II)Z"⟩
abbrev cX9_condition : ByteArray := prog_11_method_47_code
def yX9_condition : MethodName := ⟨RX9, "condition", "(III)I"⟩
abbrev cX9_most : ByteArray := prog_11_method_48_code
def yX9_most : MethodName := ⟨RX9, "most", "(II)I"⟩
abbrev cX9_limit : ByteArray := prog_11_method_49_code
def yX9_limit : MethodName := ⟨RX9, "limit", "(II)I"⟩
abbrev cX9_keepAct : ByteArray := prog_11_method_50_code
def yX9_keepAct : MethodName := ⟨RX9, "keepAct", "(II)V"⟩
abbrev cX9_number : ByteArray := prog_11_method_51_code
def yX9_number : MethodName := ⟨RX9, "number", "(III)I"⟩
abbrev cX9_urgent : ByteArray := prog_11_method_52_code
def yX9_urgent : MethodName := ⟨RX9, "urgent", "(IZ)Z"⟩
abbrev cX9_undo : ByteArray := prog_11_method_53_code
def yX9_undo : MethodName := ⟨RX9, "undo", "()Z"⟩
abbrev cX9_together : ByteArray := prog_11_method_54_code
def yX9_together : MethodName := ⟨RX9, "together", "(II)I"⟩
abbrev cX9_closes : ByteArray := prog_11_method_55_code
def yX9_closes : MethodName := ⟨RX9, "closes", "([I)Z"⟩
abbrev cX9_tightens : ByteArray := prog_11_method_56_code
def yX9_tightens : MethodName := ⟨RX9, "tightens", "([IIII)V"⟩
abbrev cX9_holds : ByteArray := prog_11_method_57_code
def yX9_holds : MethodName := ⟨RX9, "holds", "([II)V"⟩
abbrev cX9_holdsAll : ByteArray := prog_11_method_58_code
def yX9_holdsAll : MethodName := ⟨RX9, "holdsAll", "([II)V"⟩
abbrev cX9_copies : ByteArray := prog_11_method_59_code
def yX9_copies : MethodName := ⟨RX9, "copies", "([II[II)V"⟩
abbrev cX9_goesBack : ByteArray := prog_11_method_60_code
def yX9_goesBack : MethodName := ⟨RX9, "goesBack", "([II)V"⟩
abbrev cX9_delays : ByteArray := prog_11_method_61_code
def yX9_delays : MethodName := ⟨RX9, "delays", "([II)V"⟩
abbrev cX9_layForgotten : ByteArray := prog_11_method_62_code
def yX9_layForgotten : MethodName := ⟨RX9, "layForgotten", "(I)V"⟩
abbrev cX9_forgets : ByteArray := prog_11_method_63_code
def yX9_forgets : MethodName := ⟨RX9, "forgets", "([II)V"⟩
abbrev cX9_spotOf : ByteArray := prog_11_method_64_code
def yX9_spotOf : MethodName := ⟨RX9, "spotOf", "(II)I"⟩
abbrev cX9_hasAll : ByteArray := prog_11_method_65_code
def yX9_hasAll : MethodName := ⟨RX9, "hasAll", "(I[IZ)Z"⟩
abbrev cX9_comes : ByteArray := prog_11_method_66_code
def yX9_comes : MethodName := ⟨RX9, "comes", "(IIIIIZI)V"⟩
abbrev cX9_goesBy : ByteArray := prog_11_method_67_code
def yX9_goesBy : MethodName := ⟨RX9, "goesBy", "(I)Z"⟩
abbrev cX9_explores : ByteArray := prog_11_method_68_code
def yX9_explores : MethodName := ⟨RX9, "explores", "(IIIZII)V"⟩
abbrev cX9_layPoint : ByteArray := prog_11_method_69_code
def yX9_layPoint : MethodName := ⟨RX9, "layPoint", "(III)V"⟩
abbrev cX9_hasPlace : ByteArray := prog_11_method_70_code
def yX9_hasPlace : MethodName := ⟨RX9, "hasPlace", "(II)Z"⟩
abbrev cX9_graph : ByteArray := prog_11_method_71_code
def yX9_graph : MethodName := ⟨RX9, "graph", "(IZ)I"⟩
abbrev cX9_isState : ByteArray := prog_11_method_72_code
def yX9_isState : MethodName := ⟨RX9, "isState", "(I)Z"⟩
abbrev cX9_state : ByteArray := prog_11_method_73_code
def yX9_state : MethodName := ⟨RX9, "state", "(II)I"⟩
abbrev cX9_boundOf : ByteArray := prog_11_method_74_code
def yX9_boundOf : MethodName := ⟨RX9, "boundOf", "(III)I"⟩
abbrev cX9_bound : ByteArray := prog_11_method_75_code
def yX9_bound : MethodName := ⟨RX9, "bound", "(IIII)I"⟩
abbrev cX9_within : ByteArray := prog_11_method_76_code
def yX9_within : MethodName := ⟨RX9, "within", "(II)I"⟩
abbrev cX9_hasTimes : ByteArray := prog_11_method_77_code
def yX9_hasTimes : MethodName := ⟨RX9, "hasTimes", "(IIII)Z"⟩
abbrev cX9_has : ByteArray := prog_11_method_78_code
def yX9_has : MethodName := ⟨RX9, "has", "(IIII)I"⟩
abbrev cX9_first : ByteArray := prog_11_method_79_code
def yX9_first : MethodName := ⟨RX9, "first", "(I)I"⟩
abbrev cX9_reached : ByteArray := prog_11_method_80_code
def yX9_reached : MethodName := ⟨RX9, "reached", "()I"⟩
abbrev cX9_taken : ByteArray := prog_11_method_81_code
def yX9_taken : MethodName := ⟨RX9, "taken", "()I"⟩
abbrev cX9_overlap : ByteArray := prog_11_method_82_code
def yX9_overlap : MethodName := ⟨RX9, "overlap", "(II)I"⟩
abbrev cX9_points : ByteArray := prog_11_method_83_code
def yX9_points : MethodName := ⟨RX9, "points", "(I)I"⟩
abbrev cX9_keepsPiece : ByteArray := prog_11_method_84_code
def yX9_keepsPiece : MethodName := ⟨RX9, "keepsPiece", "(I)V"⟩
abbrev cX9_parts : ByteArray := prog_11_method_85_code
def yX9_parts : MethodName := ⟨RX9, "parts", "(I)Z"⟩
abbrev cX9_isOver : ByteArray := prog_11_method_86_code
def yX9_isOver : MethodName := ⟨RX9, "isOver", "()Z"⟩
abbrev cX9_covered : ByteArray := prog_11_method_87_code
def yX9_covered : MethodName := ⟨RX9, "covered", "(I)I"⟩
abbrev cX9_layAhead : ByteArray := prog_11_method_88_code
def yX9_layAhead : MethodName := ⟨RX9, "layAhead", "(I)Z"⟩
abbrev cX9_isStuck : ByteArray := prog_11_method_89_code
def yX9_isStuck : MethodName := ⟨RX9, "isStuck", "(I)Z"⟩
abbrev cX9_rings : ByteArray := prog_11_method_90_code
def yX9_rings : MethodName := ⟨RX9, "rings", "()I"⟩
abbrev cX9_goesTo : ByteArray := prog_11_method_91_code
def yX9_goesTo : MethodName := ⟨RX9, "goesTo", "(I)I"⟩
abbrev cX9_from : ByteArray := prog_11_method_92_code
def yX9_from : MethodName := ⟨RX9, "from", "(IIIII)I"⟩
abbrev cX9_avoids : ByteArray := prog_11_method_93_code
def yX9_avoids : MethodName := ⟨RX9, "avoids", "(II)I"⟩
abbrev cX9_soonest : ByteArray := prog_11_method_94_code
def yX9_soonest : MethodName := ⟨RX9, "soonest", "(II)I"⟩
abbrev cX9_lets : ByteArray := prog_11_method_95_code
def yX9_lets : MethodName := ⟨RX9, "lets", "(IIII)I"⟩
abbrev cX9_layPath : ByteArray := prog_11_method_96_code
def yX9_layPath : MethodName := ⟨RX9, "layPath", "(I)V"⟩
abbrev cX9_holdsApart : ByteArray := prog_11_method_97_code
def yX9_holdsApart : MethodName := ⟨RX9, "holdsApart", "(III)V"⟩
abbrev cX9_layConditions : ByteArray := prog_11_method_98_code
def yX9_layConditions : MethodName := ⟨RX9, "layConditions", "(II)V"⟩
abbrev cX9_layGaps : ByteArray := prog_11_method_99_code
def yX9_layGaps : MethodName := ⟨RX9, "layGaps", "()V"⟩
abbrev cX9_timesOf : ByteArray := prog_11_method_100_code
def yX9_timesOf : MethodName := ⟨RX9, "timesOf", "(I)I"⟩
abbrev cX9_laysLeast : ByteArray := prog_11_method_101_code
def yX9_laysLeast : MethodName := ⟨RX9, "laysLeast", "()Z"⟩
abbrev cX9_laysGreatest : ByteArray := prog_11_method_102_code
def yX9_laysGreatest : MethodName := ⟨RX9, "laysGreatest", "(I)Z"⟩
abbrev cX9_isStep : ByteArray := prog_11_method_103_code
def yX9_isStep : MethodName := ⟨RX9, "isStep", "(II)Z"⟩
abbrev cX9_run : ByteArray := prog_11_method_104_code
def yX9_run : MethodName := ⟨RX9, "run", "(II)I"⟩
abbrev cX9_when : ByteArray := prog_11_method_105_code
def yX9_when : MethodName := ⟨RX9, "when", "(II)I"⟩
abbrev cX9_then : ByteArray := prog_11_method_106_code
def yX9_then : MethodName := ⟨RX9, "then", "(III)I"⟩
abbrev cX9_latest : ByteArray := prog_11_method_107_code
def yX9_latest : MethodName := ⟨RX9, "latest", "(III)I"⟩
abbrev cX9_spanned : ByteArray := prog_11_method_108_code
def yX9_spanned : MethodName := ⟨RX9, "spanned", "(I)I"⟩
abbrev cX9_spans : ByteArray := prog_11_method_109_code
def yX9_spans : MethodName := ⟨RX9, "spans", "(II)I"⟩
abbrev cX9_tells : ByteArray := prog_11_method_110_code
def yX9_tells : MethodName := ⟨RX9, "tells", "(IIIIII)I"⟩
abbrev cX9_isHeld : ByteArray := prog_11_method_111_code
def yX9_isHeld : MethodName := ⟨RX9, "isHeld", "(II)Z"⟩
abbrev cX9_beginsPlay : ByteArray := prog_11_method_112_code
def yX9_beginsPlay : MethodName := ⟨RX9, "beginsPlay", "()Z"⟩
abbrev cX9_begin : ByteArray := prog_11_method_113_code
def yX9_begin : MethodName := ⟨RX9, "begin", "()I"⟩
abbrev cX9_mayWait : ByteArray := prog_11_method_114_code
def yX9_mayWait : MethodName := ⟨RX9, "mayWait", "()I"⟩
abbrev cX9_passes : ByteArray := prog_11_method_115_code
def yX9_passes : MethodName := ⟨RX9, "passes", "(I)V"⟩
abbrev cX9_waits : ByteArray := prog_11_method_116_code
def yX9_waits : MethodName := ⟨RX9, "waits", "(I)Z"⟩
abbrev cX9_canTake : ByteArray := prog_11_method_117_code
def yX9_canTake : MethodName := ⟨RX9, "canTake", "(I)Z"⟩
abbrev cX9_take : ByteArray := prog_11_method_118_code
def yX9_take : MethodName := ⟨RX9, "take", "(I)V"⟩
abbrev cX9_takes : ByteArray := prog_11_method_119_code
def yX9_takes : MethodName := ⟨RX9, "takes", "(I)I"⟩
abbrev cX9_now : ByteArray := prog_11_method_120_code
def yX9_now : MethodName := ⟨RX9, "now", "(I)I"⟩
abbrev cX9_clock : ByteArray := prog_11_method_121_code
def yX9_clock : MethodName := ⟨RX9, "clock", "(I)I"⟩
abbrev cX9_replays : ByteArray := prog_11_method_122_code
def yX9_replays : MethodName := ⟨RX9, "replays", "(I)Z"⟩
def RJx145de : String := "java/io/Serializable"
def TJx145de : u_T := fun k => match k with
  | _ => ("", "", "", false)
def tyJx145de : Nat → FieldType := fun k => match k with
  | _ => .int
abbrev wsJx145de0 : List Cond := u_ws RJx145de TJx145de 0
theorem nmJx145de : ∀ a, a < 0 → ∀ b, b < 0 → a ≠ b → (TJx145de a).2.1 ≠ (TJx145de b).2.1 := by decide +kernel
theorem tyJx145de_ok : ∀ k, k < 0 → parseFieldDescriptor (TJx145de k).2.2.1 = some (tyJx145de k) := by decide +kernel
def RJx9f9b0 : String := "java/lang/CharSequence"
def TJx9f9b0 : u_T := fun k => match k with
  | _ => ("", "", "", false)
def tyJx9f9b0 : Nat → FieldType := fun k => match k with
  | _ => .int
abbrev wsJx9f9b00 : List Cond := u_ws RJx9f9b0 TJx9f9b0 0
theorem nmJx9f9b0 : ∀ a, a < 0 → ∀ b, b < 0 → a ≠ b → (TJx9f9b0 a).2.1 ≠ (TJx9f9b0 b).2.1 := by decide +kernel
theorem tyJx9f9b0_ok : ∀ k, k < 0 → parseFieldDescriptor (TJx9f9b0 k).2.2.1 = some (tyJx9f9b0 k) := by decide +kernel
def RJxb160c : String := "java/lang/Comparable"
def TJxb160c : u_T := fun k => match k with
  | _ => ("", "", "", false)
def tyJxb160c : Nat → FieldType := fun k => match k with
  | _ => .int
abbrev wsJxb160c0 : List Cond := u_ws RJxb160c TJxb160c 0
theorem nmJxb160c : ∀ a, a < 0 → ∀ b, b < 0 → a ≠ b → (TJxb160c a).2.1 ≠ (TJxb160c b).2.1 := by decide +kernel
theorem tyJxb160c_ok : ∀ k, k < 0 → parseFieldDescriptor (TJxb160c k).2.2.1 = some (tyJxb160c k) := by decide +kernel
def RJ9 : String := "java/lang/Math"
def TJ9 : u_T := fun k => match k with
  | _ => ("", "", "", false)
def tyJ9 : Nat → FieldType := fun k => match k with
  | _ => .int
abbrev wsJ90 : List Cond := u_ws RJ9 TJ9 0
theorem nmJ9 : ∀ a, a < 0 → ∀ b, b < 0 → a ≠ b → (TJ9 a).2.1 ≠ (TJ9 b).2.1 := by decide +kernel
theorem tyJ9_ok : ∀ k, k < 0 → parseFieldDescriptor (TJ9 k).2.2.1 = some (tyJ9 k) := by decide +kernel
abbrev cJ9_max_7cf53 : ByteArray := prog_16_method_65_code
def yJ9_max_7cf53 : MethodName := ⟨RJ9, "max", "(II)I"⟩
abbrev cJ9_min_7cf53 : ByteArray := prog_16_method_69_code
def yJ9_min_7cf53 : MethodName := ⟨RJ9, "min", "(II)I"⟩
def RJ0 : String := "java/lang/String"
def TJ0 : u_T := fun k => match k with
  | _ => ("", "", "", false)
def tyJ0 : Nat → FieldType := fun k => match k with
  | _ => .int
abbrev wsJ00 : List Cond := u_ws RJ0 TJ0 0
theorem nmJ0 : ∀ a, a < 0 → ∀ b, b < 0 → a ≠ b → (TJ0 a).2.1 ≠ (TJ0 b).2.1 := by decide +kernel
theorem tyJ0_ok : ∀ k, k < 0 → parseFieldDescriptor (TJ0 k).2.2.1 = some (tyJ0 k) := by decide +kernel
abbrev cJ0_length_8abf5 : ByteArray := prog_18_method_54_code
def yJ0_length_8abf5 : MethodName := ⟨RJ0, "length", "()I"⟩
abbrev cJ0_charAt_5068e : ByteArray := prog_18_method_56_code
def yJ0_charAt_5068e : MethodName := ⟨RJ0, "charAt", "(I)C"⟩
abbrev cJ0_coder_7d493 : ByteArray := prog_18_method_152_code
def yJ0_coder_7d493 : MethodName := ⟨RJ0, "coder", "()B"⟩
abbrev cJ0_isLatin1_aae02 : ByteArray := prog_18_method_154_code
def yJ0_isLatin1_aae02 : MethodName := ⟨RJ0, "isLatin1", "()Z"⟩
abbrev cJ0_checkIndex_df160 : ByteArray := prog_18_method_155_code
def yJ0_checkIndex_df160 : MethodName := ⟨RJ0, "checkIndex", "(II)V"⟩
def RJ1 : String := "java/lang/StringLatin1"
def TJ1 : u_T := fun k => match k with
  | _ => ("", "", "", false)
def tyJ1 : Nat → FieldType := fun k => match k with
  | _ => .int
abbrev wsJ10 : List Cond := u_ws RJ1 TJ1 0
theorem nmJ1 : ∀ a, a < 0 → ∀ b, b < 0 → a ≠ b → (TJ1 a).2.1 ≠ (TJ1 b).2.1 := by decide +kernel
theorem tyJ1_ok : ∀ k, k < 0 → parseFieldDescriptor (TJ1 k).2.2.1 = some (tyJ1 k) := by decide +kernel
abbrev cJ1_charAt_3b067 : ByteArray := prog_19_method_2_code
def yJ1_charAt_3b067 : MethodName := ⟨RJ1, "charAt", "([BI)C"⟩
def RJ2 : String := "java/lang/StringUTF16"
def TJ2 : u_T := fun k => match k with
  | _ => ("", "", "", false)
def tyJ2 : Nat → FieldType := fun k => match k with
  | _ => .int
abbrev wsJ20 : List Cond := u_ws RJ2 TJ2 0
theorem nmJ2 : ∀ a, a < 0 → ∀ b, b < 0 → a ≠ b → (TJ2 a).2.1 ≠ (TJ2 b).2.1 := by decide +kernel
theorem tyJ2_ok : ∀ k, k < 0 → parseFieldDescriptor (TJ2 k).2.2.1 = some (tyJ2 k) := by decide +kernel
abbrev cJ2_getChar_3b067 : ByteArray := prog_20_method_5_code
def yJ2_getChar_3b067 : MethodName := ⟨RJ2, "getChar", "([BI)C"⟩
abbrev cJ2_length_9d52b : ByteArray := prog_20_method_6_code
def yJ2_length_9d52b : MethodName := ⟨RJ2, "length", "([B)I"⟩
abbrev cJ2_charAt_3b067 : ByteArray := prog_20_method_83_code
def yJ2_charAt_3b067 : MethodName := ⟨RJ2, "charAt", "([BI)C"⟩
abbrev cJ2_checkIndex_2214a : ByteArray := prog_20_method_91_code
def yJ2_checkIndex_2214a : MethodName := ⟨RJ2, "checkIndex", "(I[B)V"⟩
def RJxfd54e : String := "java/lang/constant/Constable"
def TJxfd54e : u_T := fun k => match k with
  | _ => ("", "", "", false)
def tyJxfd54e : Nat → FieldType := fun k => match k with
  | _ => .int
abbrev wsJxfd54e0 : List Cond := u_ws RJxfd54e TJxfd54e 0
theorem nmJxfd54e : ∀ a, a < 0 → ∀ b, b < 0 → a ≠ b → (TJxfd54e a).2.1 ≠ (TJxfd54e b).2.1 := by decide +kernel
theorem tyJxfd54e_ok : ∀ k, k < 0 → parseFieldDescriptor (TJxfd54e k).2.2.1 = some (tyJxfd54e k) := by decide +kernel
def RJx3cf43 : String := "java/lang/constant/ConstantDesc"
def TJx3cf43 : u_T := fun k => match k with
  | _ => ("", "", "", false)
def tyJx3cf43 : Nat → FieldType := fun k => match k with
  | _ => .int
abbrev wsJx3cf430 : List Cond := u_ws RJx3cf43 TJx3cf43 0
theorem nmJx3cf43 : ∀ a, a < 0 → ∀ b, b < 0 → a ≠ b → (TJx3cf43 a).2.1 ≠ (TJx3cf43 b).2.1 := by decide +kernel
theorem tyJx3cf43_ok : ∀ k, k < 0 → parseFieldDescriptor (TJx3cf43 k).2.2.1 = some (tyJx3cf43 k) := by decide +kernel
def RJ3 : String := "jdk/internal/util/Preconditions"
def TJ3 : u_T := fun k => match k with
  | _ => ("", "", "", false)
def tyJ3 : Nat → FieldType := fun k => match k with
  | _ => .int
abbrev wsJ30 : List Cond := u_ws RJ3 TJ3 0
theorem nmJ3 : ∀ a, a < 0 → ∀ b, b < 0 → a ≠ b → (TJ3 a).2.1 ≠ (TJ3 b).2.1 := by decide +kernel
theorem tyJ3_ok : ∀ k, k < 0 → parseFieldDescriptor (TJ3 k).2.2.1 = some (tyJ3 k) := by decide +kernel
abbrev cJ3_checkIndex_8e157 : ByteArray := prog_25_method_11_code
def yJ3_checkIndex_8e157 : MethodName := ⟨RJ3, "checkIndex", "(IILjava/util/function/BiFunction;)I"⟩
def RL : String := "ClockReachLaw"
abbrev cL_clock : ByteArray := method_3_code
def yL_clock : MethodName := ⟨RL, "clock", "(LClockReach;I[J)I"⟩
abbrev cL_law : ByteArray := code
def yL_law : MethodName := ⟨RL, "law", "([I)Z"⟩
end
section
abbrev vwCl : List vw_C := [(RX0, TX0, 17), (RX1, TX1, 18), (RX2, TX2, 3), (RX3, TX3, 5), (RX4, TX4, 12), (RX5, TX5, 8), (RX6, TX6, 10), (RX7, TX7, 2), (RX8, TX8, 16), (RX9, TX9, 67)]
theorem fa_lt (a b : Int32) : a < b ↔ a.toInt < b.toInt := Int32.lt_iff_toInt_lt
theorem fa_le (a b : Int32) : a ≤ b ↔ a.toInt ≤ b.toInt := Int32.le_iff_toInt_le
theorem fa_eq (a b : Int32) : a = b ↔ a.toInt = b.toInt := ⟨fun h => by rw [h], fun h => Int32.toInt_inj.mp h⟩
/-- how a method begins: its world in the heap -/
def pu_B (D : va_G) (ws : va_W) (tys : List (ClassId × FieldType)) (sz : Nat) : State → Prop := fun U => U.heap.size = sz ∧ va_P D vwCl ws U.heap ∧ va_K D vwCl tys U ∧ va_D (fun _ => True) ws
/-- how it ends -/
def pu_E (D : va_G) (ws : va_W) (tys : List (ClassId × FieldType)) (A : Nat → Prop) (t : State) : Prop := va_P D vwCl ws t.heap ∧ va_K D vwCl tys t ∧ va_D A ws
theorem pu_bl {D : va_G} {ws : va_W} {tys : List (ClassId × FieldType)} {sz : Nat} {av : List Value} : FrameBlind (va_Pc av (pu_B D ws tys sz)) := by
  intro a U g mk q
  obtain ⟨q0, q1, qP, qK, qD⟩ := q
  exact ⟨q0, q1, qP, va_K.moved (u := U) (U := U.calling g mk a) (Vm.Alike.refl U.vm) qK, qD⟩
theorem pu_in {D : va_G} {ws : va_W} {tys : List (ClassId × FieldType)} {s : State} {H : Heap} {A : Nat → Prop} {av : List Value} (hP : va_P D vwCl ws H) (hK : va_K D vwCl tys s) (hD : va_D A ws) : ∀ U : State, U.heap = H → s.WarmedH U.vm → va_Pc av (pu_B D ws tys H.size) av.toArray U := fun U hU hW => ⟨rfl, by rw [hU], by rw [hU]; exact hP, va_K.moved hW.alike hK, hD.weaken (fun _ _ _ _ => trivial)⟩
theorem pu_keep {D : va_G} {ws : va_W} {H H1 : Heap} (hP : va_P D vwCl ws H) (hk : ∀ q : Nat, q < H.size → ¬ va_A [] H.size q → H1[q]? = H[q]?) : va_P D vwCl ws H1 := hP.kept (fun k q hq => hk q.1 (hP k q hq).lt (fun h => by
  rcases h with ⟨k, e, h⟩ | h
  · simp at h
  · exact absurd (hP k q hq).lt (by omega)))
theorem pu_fr {A : Nat → Prop} {H0 H : Heap} {locs : List Loc} (hS : va_S A H0 H locs) (hA : ∀ q, H0.size ≤ q → A q) : ∀ q, va_A [] H.size q → A q := fun q h => by
  rcases h with ⟨k, e, h⟩ | h
  · simp at h
  · exact hA q (Nat.le_trans hS.1 h)
theorem pu_P0 {D : va_G} {H : Heap} : va_P D vwCl [] H := fun k q h => by simp at h
theorem pu_D0 {A : Nat → Prop} : va_D A [] := ⟨fun i j p q h => by simp at h, fun k q h => by simp at h⟩
theorem pu_fs {N : Nat} {ty : Nat → FieldType} {fs : List Value} (h : (List.range N).all (fun j => decide (defaultValue (ty j) = vp_V fs j)) = true) : ∀ j, j < N → defaultValue (ty j) = vp_V fs j := fun j hj => of_decide_eq_true (List.all_eq_true.mp h j (List.mem_range.mpr hj))
abbrev wX (a : Nat → Nat) (k : Nat → ClassId) : va_W := [((a 0), .inr (8, [.ref (a 6), .int 0, .ref (a 4), .ref (a 1), .ref (a 5), .ref (a 2), .ref (a 10), .int 0, .ref (a 11), .ref (a 12), .int 0, .ref (a 13), .ref (a 14), .ref (a 3), .ref (a 15), .ref (a 16)])), ((a 1), .inr (0, [.int 0, .int 0, .int 0, .int (-1), .ref (a 20), .ref (a 21), .ref (a 22), .ref (a 23), .ref (a 7), .ref (a 24), .ref (a 25), .ref (a 26), .ref (a 27), .ref (a 28), .ref (a 29), .ref (a 30), .ref (a 31)])), ((a 2), .inr (2, [.int 0, .ref (a 60), .ref (a 61)])), ((a 3), .inr (3, [.int 0, .int 0, .int 0, .ref (a 62), .ref (a 63)])), ((a 4), .inr (4, [.int 0, .int (-1), .null, .int 0, .int 0, .int 0, .int 0, .int 0, .null, .ref (a 64), .ref (a 65), .ref (a 66)])), ((a 5), .inr (0, [.int 0, .int 0, .int 0, .int (-1), .ref (a 8), .ref (a 41), .ref (a 42), .ref (a 43), .ref (a 9), .ref (a 44), .ref (a 45), .ref (a 46), .ref (a 47), .ref (a 48), .ref (a 49), .ref (a 50), .ref (a 51)])), ((a 6), .inl ((k 0), 900, .inl (fun _ => 0))), ((a 7), .inl ((k 1), 22, .inl (fun _ => 0))), ((a 8), .inl ((k 2), 8, .inl (fun _ => 0))), ((a 9), .inl ((k 3), 22, .inl (fun _ => 0)))]
abbrev tX (k : Nat → ClassId) : List (ClassId × FieldType) := [(k 0, .int), (k 1, .int), (k 2, .boolean), (k 3, .int)]
abbrev wM (b : Nat → Nat) (j : Nat → ClassId) : va_W := [((b 0), .inr (9, [.int 0, .ref (b 10), .ref (b 11), .ref (b 12), .ref (b 13), .ref (b 14), .ref (b 15), .ref (b 16), .ref (b 17), .ref (b 18), .ref (b 19), .ref (b 20), .ref (b 1), .ref (b 2), .ref (b 3), .ref (b 4), .int 0, .ref (b 5), .int 0, .int 0, .int 0, .int 0, .int 0, .int 0, .int 0, .int (-1), .int 0, .int 0, .int 0, .int 0, .int 0, .ref (b 21), .ref (b 22), .int 0, .ref (b 23), .ref (b 24), .ref (b 25), .ref (b 26), .ref (b 27), .ref (b 28), .ref (b 29), .ref (b 30), .ref (b 31), .ref (b 32), .ref (b 33), .int 0, .int 0, .ref (b 34), .ref (b 35), .ref (b 36), .ref (b 37), .ref (b 38), .int 0, .int 0, .ref (b 39), .ref (b 40), .ref (b 41), .ref (b 42), .ref (b 43), .ref (b 44), .ref (b 45), .int 0, .int 0, .int 0, .ref (b 46), .int 0, .int 0])), ((b 1), .inl ((j 1), 2, .inl (fun _ => 0))), ((b 2), .inl ((j 2), 2, .inl (fun _ => 0))), ((b 3), .inl ((j 3), 2, .inl (fun _ => 0))), ((b 4), .inl ((j 4), 2, .inl (fun _ => -1))), ((b 5), .inl ((j 5), 900, .inl (fun _ => 0)))]
abbrev tM (j : Nat → ClassId) : List (ClassId × FieldType) := [(j 1, .int), (j 2, .int), (j 3, .int), (j 4, .int), (j 5, .int)]
end
section
theorem dX8_isPlace_0 : decode cX8_isPlace 0 = .ok (.iload_n 1, 1) := by decide +kernel
theorem dX8_isPlace_1 : decode cX8_isPlace 1 = .ok (.ifCond .lt 18, 3) := by decide +kernel
theorem dX8_isPlace_4 : decode cX8_isPlace 4 = .ok (.iload_n 1, 1) := by decide +kernel
theorem dX8_isPlace_5 : decode cX8_isPlace 5 = .ok (.aload_n 0, 1) := by decide +kernel
theorem dX8_isPlace_6 : decode cX8_isPlace 6 = .ok (.getfield 23, 3) := by decide +kernel
theorem dX8_isPlace_9 : decode cX8_isPlace 9 = .ok (.getfield 97, 3) := by decide +kernel
theorem dX8_isPlace_12 : decode cX8_isPlace 12 = .ok (.if_icmp .ge 7, 3) := by decide +kernel
theorem dX8_isPlace_19 : decode cX8_isPlace 19 = .ok (.iconst 0, 1) := by decide +kernel
theorem dX8_isPlace_20 : decode cX8_isPlace 20 = .ok (.ireturn, 1) := by decide +kernel
def vs_X8_isPlace : List Cond := .code yX8_isPlace cX8_isPlace 2 (some .boolean) :: ([.fieldLink RX8 23 "ClockReach" "model" "LClockReach$Automaton;", .fieldLink RX8 97 "ClockReach$Automaton" "places" "I"] ++ wsX80 ++ wsX00)
set_option maxHeartbeats 4000000 in
set_option maxRecDepth 100000 in
theorem c_X8_isPlace (l : Launch) (dC : Nat → ClassId) (dI : Nat → Nat → Nat) (sz : Nat) (a : Nat → Nat) (k : Nat → ClassId) (p0 : Int32) : Met l yX8_isPlace vs_X8_isPlace ({ frames := 0, cells := 0, slots := 0, locals := 0 }) (va_Pc [.ref (a 0), .int p0] (pu_B (dC, dI) (wX a k) (tX k) sz)) (va_Qi (fun (r : Int32) (_ : Unit) => r = 0) (fun _ _ => True) (va_A [] sz)) 0 0 (va_A [] sz) := by
  refine Met.ofW (cc := cX8_isPlace) (maxL := 2) (ret := (some .boolean)) (by decide) rfl ?_
  intro p e s m args below meth c s₁ B hml hv
  obtain ⟨rfl, rfl, hP, hK, hD0⟩ := hv
  have hx := B.exec
  have hb := B.bytes
  have hr := B.returns
  have hts := atoms_spec (ws := vs_X8_isPlace) B.pre
  have v_1 := hts (.fieldLink RX8 23 "ClockReach" "model" "LClockReach$Automaton;") (List.mem_of_getElem? (i := 1) rfl)
  have v_2 := hts (.fieldLink RX8 97 "ClockReach$Automaton" "places" "I") (List.mem_of_getElem? (i := 2) rfl)
  have hown : s.vm.findClass RX8 = some m.cls := findClass_of_methodNamed B.named
  have hlocks := B.notSynchronized
  have hiX0 : ∀ w ∈ wsX00, w ∈ vs_X8_isPlace := fun _ h => List.mem_cons_of_mem _ (List.mem_append_right _ h)
  have hiX8 : ∀ w ∈ wsX80, w ∈ vs_X8_isPlace := fun _ h => List.mem_cons_of_mem _ (List.mem_append_left _ (List.mem_append_right _ h))
  have hD := hD0
  have hA : ∀ q : Nat, s.heap.size ≤ q → va_A [] s.heap.size q := fun _ h => Or.inr h
  have hS : va_S (va_A [] s.heap.size) s.heap s.heap [] := va_S.rf
  have hl := lv_entry ([.ref (a 0), .int p0]) (n := 2) (Nat.le_of_ble_eq_true rfl)
  rw [lg_entry_eq]
  generalize (lg_sl ([.ref (a 0), .int p0]) ++ List.replicate (2 - (lg_sl ([.ref (a 0), .int p0])).length) Slot.unset).toArray = ls at hl ⊢
  have hl : lv_has ls 2 [(0, .ref (a 0)), (1, .int p0)] := hl
  refine lv_iload_n hx hb dX8_isPlace_0 rfl (lv_at hl 1 rfl) ?_
  refine lv_if_lt (tgt := 19) hx hb dX8_isPlace_1 (by decide) (fun c_1 => ?_) (fun c_1 => ?_)
  · refine lv_iconst (v := 0) hx hb dX8_isPlace_19 (by decide) ?_
    exact W.zret (v := 0) (ty := .boolean) hx hb hr rfl (fun t ht hW => ⟨⟨0, (), rfl, by first | rfl | decide | simp_all, trivial⟩, hS.F ht⟩) hS.2.2 dX8_isPlace_20
  · refine lv_iload_n hx hb dX8_isPlace_4 rfl (lv_at hl 1 rfl) ?_
    refine lv_aload_n hx hb dX8_isPlace_5 rfl (lv_at hl 0 rfl) ?_
    refine va_get (D := (dC, dI)) (ci := 8) (v := .ref (a 1)) (C := RX8) (T := TX8) (N := 16) hx hb hts hiX8 hown hK hP 0 rfl rfl 3 (by decide) v_1 (fun _ h9 => h9) rfl dX8_isPlace_6 ?_
    refine va_get (D := (dC, dI)) (ci := 0) (v := .int 0) (C := RX0) (T := TX0) (N := 17) hx hb hts hiX0 hown hK hP 1 rfl rfl 1 (by decide) v_2 (fun _ h9 => h9) rfl dX8_isPlace_9 ?_
    refine lv_icmp_ge (tgt := 19) hx hb dX8_isPlace_12 (by decide) (fun c_2 => ?_) (fun c_2 => ?_)
    · refine lv_iconst (v := 0) hx hb dX8_isPlace_19 (by decide) ?_
      exact W.zret (v := 0) (ty := .boolean) hx hb hr rfl (fun t ht hW => ⟨⟨0, (), rfl, by first | rfl | decide | simp_all, trivial⟩, hS.F ht⟩) hS.2.2 dX8_isPlace_20
    · have z_0 := c_1
      have z_1 := c_2
      exfalso
      simp only [fa_lt, fa_le, fa_eq] at z_0 z_1
      have y_0 : (0 : Int32).toInt = 0 := by decide
      omega
theorem dX8_isEdge_0 : decode cX8_isEdge 0 = .ok (.iload_n 1, 1) := by decide +kernel
theorem dX8_isEdge_1 : decode cX8_isEdge 1 = .ok (.ifCond .lt 18, 3) := by decide +kernel
theorem dX8_isEdge_4 : decode cX8_isEdge 4 = .ok (.iload_n 1, 1) := by decide +kernel
theorem dX8_isEdge_5 : decode cX8_isEdge 5 = .ok (.aload_n 0, 1) := by decide +kernel
theorem dX8_isEdge_6 : decode cX8_isEdge 6 = .ok (.getfield 23, 3) := by decide +kernel
theorem dX8_isEdge_9 : decode cX8_isEdge 9 = .ok (.getfield 119, 3) := by decide +kernel
theorem dX8_isEdge_12 : decode cX8_isEdge 12 = .ok (.if_icmp .ge 7, 3) := by decide +kernel
theorem dX8_isEdge_19 : decode cX8_isEdge 19 = .ok (.iconst 0, 1) := by decide +kernel
theorem dX8_isEdge_20 : decode cX8_isEdge 20 = .ok (.ireturn, 1) := by decide +kernel
def vs_X8_isEdge : List Cond := .code yX8_isEdge cX8_isEdge 2 (some .boolean) :: ([.fieldLink RX8 23 "ClockReach" "model" "LClockReach$Automaton;", .fieldLink RX8 119 "ClockReach$Automaton" "edges" "I"] ++ wsX80 ++ wsX00)
set_option maxHeartbeats 4000000 in
set_option maxRecDepth 100000 in
theorem c_X8_isEdge (l : Launch) (dC : Nat → ClassId) (dI : Nat → Nat → Nat) (sz : Nat) (a : Nat → Nat) (k : Nat → ClassId) (p0 : Int32) : Met l yX8_isEdge vs_X8_isEdge ({ frames := 0, cells := 0, slots := 0, locals := 0 }) (va_Pc [.ref (a 0), .int p0] (pu_B (dC, dI) (wX a k) (tX k) sz)) (va_Qi (fun (r : Int32) (_ : Unit) => r = 0) (fun _ _ => True) (va_A [] sz)) 0 0 (va_A [] sz) := by
  refine Met.ofW (cc := cX8_isEdge) (maxL := 2) (ret := (some .boolean)) (by decide) rfl ?_
  intro p e s m args below meth c s₁ B hml hv
  obtain ⟨rfl, rfl, hP, hK, hD0⟩ := hv
  have hx := B.exec
  have hb := B.bytes
  have hr := B.returns
  have hts := atoms_spec (ws := vs_X8_isEdge) B.pre
  have v_1 := hts (.fieldLink RX8 23 "ClockReach" "model" "LClockReach$Automaton;") (List.mem_of_getElem? (i := 1) rfl)
  have v_2 := hts (.fieldLink RX8 119 "ClockReach$Automaton" "edges" "I") (List.mem_of_getElem? (i := 2) rfl)
  have hown : s.vm.findClass RX8 = some m.cls := findClass_of_methodNamed B.named
  have hlocks := B.notSynchronized
  have hiX0 : ∀ w ∈ wsX00, w ∈ vs_X8_isEdge := fun _ h => List.mem_cons_of_mem _ (List.mem_append_right _ h)
  have hiX8 : ∀ w ∈ wsX80, w ∈ vs_X8_isEdge := fun _ h => List.mem_cons_of_mem _ (List.mem_append_left _ (List.mem_append_right _ h))
  have hD := hD0
  have hA : ∀ q : Nat, s.heap.size ≤ q → va_A [] s.heap.size q := fun _ h => Or.inr h
  have hS : va_S (va_A [] s.heap.size) s.heap s.heap [] := va_S.rf
  have hl := lv_entry ([.ref (a 0), .int p0]) (n := 2) (Nat.le_of_ble_eq_true rfl)
  rw [lg_entry_eq]
  generalize (lg_sl ([.ref (a 0), .int p0]) ++ List.replicate (2 - (lg_sl ([.ref (a 0), .int p0])).length) Slot.unset).toArray = ls at hl ⊢
  have hl : lv_has ls 2 [(0, .ref (a 0)), (1, .int p0)] := hl
  refine lv_iload_n hx hb dX8_isEdge_0 rfl (lv_at hl 1 rfl) ?_
  refine lv_if_lt (tgt := 19) hx hb dX8_isEdge_1 (by decide) (fun c_1 => ?_) (fun c_1 => ?_)
  · refine lv_iconst (v := 0) hx hb dX8_isEdge_19 (by decide) ?_
    exact W.zret (v := 0) (ty := .boolean) hx hb hr rfl (fun t ht hW => ⟨⟨0, (), rfl, by first | rfl | decide | simp_all, trivial⟩, hS.F ht⟩) hS.2.2 dX8_isEdge_20
  · refine lv_iload_n hx hb dX8_isEdge_4 rfl (lv_at hl 1 rfl) ?_
    refine lv_aload_n hx hb dX8_isEdge_5 rfl (lv_at hl 0 rfl) ?_
    refine va_get (D := (dC, dI)) (ci := 8) (v := .ref (a 1)) (C := RX8) (T := TX8) (N := 16) hx hb hts hiX8 hown hK hP 0 rfl rfl 3 (by decide) v_1 (fun _ h9 => h9) rfl dX8_isEdge_6 ?_
    refine va_get (D := (dC, dI)) (ci := 0) (v := .int 0) (C := RX0) (T := TX0) (N := 17) hx hb hts hiX0 hown hK hP 1 rfl rfl 2 (by decide) v_2 (fun _ h9 => h9) rfl dX8_isEdge_9 ?_
    refine lv_icmp_ge (tgt := 19) hx hb dX8_isEdge_12 (by decide) (fun c_2 => ?_) (fun c_2 => ?_)
    · refine lv_iconst (v := 0) hx hb dX8_isEdge_19 (by decide) ?_
      exact W.zret (v := 0) (ty := .boolean) hx hb hr rfl (fun t ht hW => ⟨⟨0, (), rfl, by first | rfl | decide | simp_all, trivial⟩, hS.F ht⟩) hS.2.2 dX8_isEdge_20
    · have z_0 := c_1
      have z_1 := c_2
      exfalso
      simp only [fa_lt, fa_le, fa_eq] at z_0 z_1
      have y_0 : (0 : Int32).toInt = 0 := by decide
      omega
theorem dX8_isClock_0 : decode cX8_isClock 0 = .ok (.iload_n 1, 1) := by decide +kernel
theorem dX8_isClock_1 : decode cX8_isClock 1 = .ok (.ifCond .lt 18, 3) := by decide +kernel
theorem dX8_isClock_4 : decode cX8_isClock 4 = .ok (.iload_n 1, 1) := by decide +kernel
theorem dX8_isClock_5 : decode cX8_isClock 5 = .ok (.aload_n 0, 1) := by decide +kernel
theorem dX8_isClock_6 : decode cX8_isClock 6 = .ok (.getfield 23, 3) := by decide +kernel
theorem dX8_isClock_9 : decode cX8_isClock 9 = .ok (.getfield 116, 3) := by decide +kernel
theorem dX8_isClock_12 : decode cX8_isClock 12 = .ok (.if_icmp .ge 7, 3) := by decide +kernel
theorem dX8_isClock_19 : decode cX8_isClock 19 = .ok (.iconst 0, 1) := by decide +kernel
theorem dX8_isClock_20 : decode cX8_isClock 20 = .ok (.ireturn, 1) := by decide +kernel
def vs_X8_isClock : List Cond := .code yX8_isClock cX8_isClock 2 (some .boolean) :: ([.fieldLink RX8 23 "ClockReach" "model" "LClockReach$Automaton;", .fieldLink RX8 116 "ClockReach$Automaton" "clocks" "I"] ++ wsX80 ++ wsX00)
set_option maxHeartbeats 4000000 in
set_option maxRecDepth 100000 in
theorem c_X8_isClock (l : Launch) (dC : Nat → ClassId) (dI : Nat → Nat → Nat) (sz : Nat) (a : Nat → Nat) (k : Nat → ClassId) (p0 : Int32) : Met l yX8_isClock vs_X8_isClock ({ frames := 0, cells := 0, slots := 0, locals := 0 }) (va_Pc [.ref (a 0), .int p0] (pu_B (dC, dI) (wX a k) (tX k) sz)) (va_Qi (fun (r : Int32) (_ : Unit) => r = 0) (fun _ _ => True) (va_A [] sz)) 0 0 (va_A [] sz) := by
  refine Met.ofW (cc := cX8_isClock) (maxL := 2) (ret := (some .boolean)) (by decide) rfl ?_
  intro p e s m args below meth c s₁ B hml hv
  obtain ⟨rfl, rfl, hP, hK, hD0⟩ := hv
  have hx := B.exec
  have hb := B.bytes
  have hr := B.returns
  have hts := atoms_spec (ws := vs_X8_isClock) B.pre
  have v_1 := hts (.fieldLink RX8 23 "ClockReach" "model" "LClockReach$Automaton;") (List.mem_of_getElem? (i := 1) rfl)
  have v_2 := hts (.fieldLink RX8 116 "ClockReach$Automaton" "clocks" "I") (List.mem_of_getElem? (i := 2) rfl)
  have hown : s.vm.findClass RX8 = some m.cls := findClass_of_methodNamed B.named
  have hlocks := B.notSynchronized
  have hiX0 : ∀ w ∈ wsX00, w ∈ vs_X8_isClock := fun _ h => List.mem_cons_of_mem _ (List.mem_append_right _ h)
  have hiX8 : ∀ w ∈ wsX80, w ∈ vs_X8_isClock := fun _ h => List.mem_cons_of_mem _ (List.mem_append_left _ (List.mem_append_right _ h))
  have hD := hD0
  have hA : ∀ q : Nat, s.heap.size ≤ q → va_A [] s.heap.size q := fun _ h => Or.inr h
  have hS : va_S (va_A [] s.heap.size) s.heap s.heap [] := va_S.rf
  have hl := lv_entry ([.ref (a 0), .int p0]) (n := 2) (Nat.le_of_ble_eq_true rfl)
  rw [lg_entry_eq]
  generalize (lg_sl ([.ref (a 0), .int p0]) ++ List.replicate (2 - (lg_sl ([.ref (a 0), .int p0])).length) Slot.unset).toArray = ls at hl ⊢
  have hl : lv_has ls 2 [(0, .ref (a 0)), (1, .int p0)] := hl
  refine lv_iload_n hx hb dX8_isClock_0 rfl (lv_at hl 1 rfl) ?_
  refine lv_if_lt (tgt := 19) hx hb dX8_isClock_1 (by decide) (fun c_1 => ?_) (fun c_1 => ?_)
  · refine lv_iconst (v := 0) hx hb dX8_isClock_19 (by decide) ?_
    exact W.zret (v := 0) (ty := .boolean) hx hb hr rfl (fun t ht hW => ⟨⟨0, (), rfl, by first | rfl | decide | simp_all, trivial⟩, hS.F ht⟩) hS.2.2 dX8_isClock_20
  · refine lv_iload_n hx hb dX8_isClock_4 rfl (lv_at hl 1 rfl) ?_
    refine lv_aload_n hx hb dX8_isClock_5 rfl (lv_at hl 0 rfl) ?_
    refine va_get (D := (dC, dI)) (ci := 8) (v := .ref (a 1)) (C := RX8) (T := TX8) (N := 16) hx hb hts hiX8 hown hK hP 0 rfl rfl 3 (by decide) v_1 (fun _ h9 => h9) rfl dX8_isClock_6 ?_
    refine va_get (D := (dC, dI)) (ci := 0) (v := .int 0) (C := RX0) (T := TX0) (N := 17) hx hb hts hiX0 hown hK hP 1 rfl rfl 0 (by decide) v_2 (fun _ h9 => h9) rfl dX8_isClock_9 ?_
    refine lv_icmp_ge (tgt := 19) hx hb dX8_isClock_12 (by decide) (fun c_2 => ?_) (fun c_2 => ?_)
    · refine lv_iconst (v := 0) hx hb dX8_isClock_19 (by decide) ?_
      exact W.zret (v := 0) (ty := .boolean) hx hb hr rfl (fun t ht hW => ⟨⟨0, (), rfl, by first | rfl | decide | simp_all, trivial⟩, hS.F ht⟩) hS.2.2 dX8_isClock_20
    · have z_0 := c_1
      have z_1 := c_2
      exfalso
      simp only [fa_lt, fa_le, fa_eq] at z_0 z_1
      have y_0 : (0 : Int32).toInt = 0 := by decide
      omega
theorem dX8_isState_0 : decode cX8_isState 0 = .ok (.aload_n 0, 1) := by decide +kernel
theorem dX8_isState_1 : decode cX8_isState 1 = .ok (.getfield 100, 3) := by decide +kernel
theorem dX8_isState_4 : decode cX8_isState 4 = .ok (.ifCond .eq 22, 3) := by decide +kernel
theorem dX8_isState_26 : decode cX8_isState 26 = .ok (.iconst 0, 1) := by decide +kernel
theorem dX8_isState_27 : decode cX8_isState 27 = .ok (.ireturn, 1) := by decide +kernel
def vs_X8_isState : List Cond := .code yX8_isState cX8_isState 2 (some .boolean) :: ([.fieldLink RX8 100 "ClockReach" "hasShown" "Z"] ++ wsX80)
set_option maxHeartbeats 4000000 in
set_option maxRecDepth 100000 in
theorem c_X8_isState (l : Launch) (dC : Nat → ClassId) (dI : Nat → Nat → Nat) (sz : Nat) (a : Nat → Nat) (k : Nat → ClassId) (p0 : Int32) : Met l yX8_isState vs_X8_isState ({ frames := 0, cells := 0, slots := 0, locals := 0 }) (va_Pc [.ref (a 0), .int p0] (pu_B (dC, dI) (wX a k) (tX k) sz)) (va_Qi (fun (r : Int32) (_ : Unit) => r = 0) (fun _ _ => True) (va_A [] sz)) 0 0 (va_A [] sz) := by
  refine Met.ofW (cc := cX8_isState) (maxL := 2) (ret := (some .boolean)) (by decide) rfl ?_
  intro p e s m args below meth c s₁ B hml hv
  obtain ⟨rfl, rfl, hP, hK, hD0⟩ := hv
  have hx := B.exec
  have hb := B.bytes
  have hr := B.returns
  have hts := atoms_spec (ws := vs_X8_isState) B.pre
  have v_1 := hts (.fieldLink RX8 100 "ClockReach" "hasShown" "Z") (List.mem_of_getElem? (i := 1) rfl)
  have hown : s.vm.findClass RX8 = some m.cls := findClass_of_methodNamed B.named
  have hlocks := B.notSynchronized
  have hiX8 : ∀ w ∈ wsX80, w ∈ vs_X8_isState := fun _ h => List.mem_cons_of_mem _ (List.mem_append_right _ h)
  have hD := hD0
  have hA : ∀ q : Nat, s.heap.size ≤ q → va_A [] s.heap.size q := fun _ h => Or.inr h
  have hS : va_S (va_A [] s.heap.size) s.heap s.heap [] := va_S.rf
  have hl := lv_entry ([.ref (a 0), .int p0]) (n := 2) (Nat.le_of_ble_eq_true rfl)
  rw [lg_entry_eq]
  generalize (lg_sl ([.ref (a 0), .int p0]) ++ List.replicate (2 - (lg_sl ([.ref (a 0), .int p0])).length) Slot.unset).toArray = ls at hl ⊢
  have hl : lv_has ls 2 [(0, .ref (a 0)), (1, .int p0)] := hl
  refine lv_aload_n hx hb dX8_isState_0 rfl (lv_at hl 0 rfl) ?_
  refine va_get (D := (dC, dI)) (ci := 8) (v := .int 0) (C := RX8) (T := TX8) (N := 16) hx hb hts hiX8 hown hK hP 0 rfl rfl 7 (by decide) v_1 (fun _ h9 => h9) rfl dX8_isState_1 ?_
  refine lv_if_eq (tgt := 26) hx hb dX8_isState_4 (by decide) (fun _ => ?_) (fun z => absurd z (by decide))
  refine lv_iconst (v := 0) hx hb dX8_isState_26 (by decide) ?_
  exact W.zret (v := 0) (ty := .boolean) hx hb hr rfl (fun t ht hW => ⟨⟨0, (), rfl, by first | rfl | decide | simp_all, trivial⟩, hS.F ht⟩) hS.2.2 dX8_isState_27
theorem dX8_place_0 : decode cX8_place 0 = .ok (.aload_n 0, 1) := by decide +kernel
theorem dX8_place_1 : decode cX8_place 1 = .ok (.iload_n 1, 1) := by decide +kernel
theorem dX8_place_2 : decode cX8_place 2 = .ok (.invokevirtual 140, 3) := by decide +kernel
theorem dX8_place_5 : decode cX8_place 5 = .ok (.ifCond .ne 5, 3) := by decide +kernel
theorem dX8_place_8 : decode cX8_place 8 = .ok (.iconst (-1), 1) := by decide +kernel
theorem dX8_place_9 : decode cX8_place 9 = .ok (.ireturn, 1) := by decide +kernel
def vs_X8_place : List Cond := .code yX8_place cX8_place 3 (some .int) :: ([.methodLink RX8 140 yX8_isPlace, .instanceMethod yX8_isPlace, .selects RX8 yX8_isPlace yX8_isPlace, .initialized RX8, .code yX8_isPlace cX8_isPlace 2 (some .boolean), .fieldLink RX8 23 "ClockReach" "model" "LClockReach$Automaton;", .fieldLink RX8 97 "ClockReach$Automaton" "places" "I"] ++ wsX80 ++ wsX00)
theorem g_X8_place_X8_isPlace : GoodIn vs_X8_place (wsV RX8 140 RX8 yX8_isPlace vs_X8_isPlace) := goodIn_r _ [1, 2, 3, 4, 5, 6, 7, 8, 9, 10, 11, 12, 13, 14, 15, 16, 17, 18, 19, 20, 21, 22, 23, 24, 25, 26, 27, 28, 29, 30, 31, 32, 33, 34, 35, 36, 37, 38, 39, 40] (by decide +kernel) (by decide +kernel)
set_option maxHeartbeats 4000000 in
set_option maxRecDepth 100000 in
theorem c_X8_place (l : Launch) (dC : Nat → ClassId) (dI : Nat → Nat → Nat) (sz : Nat) (a : Nat → Nat) (k : Nat → ClassId) (p0 : Int32) (p1 : Int32) : Met l yX8_place vs_X8_place ({ frames := 1, cells := 0, slots := 0, locals := 21 }) (va_Pc [.ref (a 0), .int p0, .int p1] (pu_B (dC, dI) (wX a k) (tX k) sz)) (va_Qi (fun (r : Int32) (_ : Unit) => r = -1) (fun _ _ => True) (va_A [] sz)) 0 0 (va_A [] sz) := by
  refine Met.ofW (cc := cX8_place) (maxL := 3) (ret := (some .int)) (by decide) rfl ?_
  intro p e s m args below meth c s₁ B hml hv
  obtain ⟨rfl, rfl, hP, hK, hD0⟩ := hv
  have hx := B.exec
  have hb := B.bytes
  have hr := B.returns
  have hts := atoms_spec (ws := vs_X8_place) B.pre
  have hown : s.vm.findClass RX8 = some m.cls := findClass_of_methodNamed B.named
  have hlocks := B.notSynchronized
  have hD := hD0
  have hA : ∀ q : Nat, s.heap.size ≤ q → va_A [] s.heap.size q := fun _ h => Or.inr h
  have hS : va_S (va_A [] s.heap.size) s.heap s.heap [] := va_S.rf
  have hl := lv_entry ([.ref (a 0), .int p0, .int p1]) (n := 3) (Nat.le_of_ble_eq_true rfl)
  rw [lg_entry_eq]
  generalize (lg_sl ([.ref (a 0), .int p0, .int p1]) ++ List.replicate (3 - (lg_sl ([.ref (a 0), .int p0, .int p1])).length) Slot.unset).toArray = ls at hl ⊢
  have hl : lv_has ls 3 [(0, .ref (a 0)), (1, .int p0), (2, .int p1)] := hl
  refine lv_aload_n hx hb dX8_place_0 rfl (lv_at hl 0 rfl) ?_
  refine lv_iload_n hx hb dX8_place_1 rfl (lv_at hl 1 rfl) ?_
  refine va_calli (va_runV (As := [.int p0]) (rest := []) ⟨hx, hb, hml, hown, hts⟩ (c_X8_isPlace l dC dI _ a k p0) (cwV 1 hts g_X8_place_X8_isPlace rfl rfl rfl (by decide +kernel) ⟨Nat.le_of_ble_eq_true rfl, Nat.le_of_ble_eq_true rfl⟩) ⟨pu_bl, va_recv hK hP (ci := 8) (q0 := 0) rfl rfl, pu_in hP hK hD⟩ rfl rfl hl.1 rfl (lv_room (Nat.le_of_ble_eq_true rfl)) dX8_place_2 ⟨Nat.le_of_ble_eq_true rfl, Nat.le_of_ble_eq_true rfl⟩) hS (fun q _ h => pu_fr hS hA q h) (pu_fr hS hA) (fun r_1 u t H1 locs ht hvm hw hB hz1 hk1 hS => ?_)
  have hP := pu_keep hP hk1
  clear hk1 hz1 hB ht hvm
  generalize H1 = H at hP hS ⊢
  obtain rfl : r_1 = 0 := hw
  refine lv_if_ne (tgt := 10) hx hb dX8_place_5 (by decide) (fun z => absurd z (by decide)) (fun _ => ?_)
  refine lv_iconst (v := (-1)) hx hb dX8_place_8 (by decide) ?_
  exact W.iret (v := (-1)) hx hb hr (fun t ht hW => ⟨⟨(-1), (), rfl, by first | rfl | decide | simp_all, trivial⟩, hS.F ht⟩) hS.2.2 dX8_place_9
theorem dX8_edge_0 : decode cX8_edge 0 = .ok (.aload_n 0, 1) := by decide +kernel
theorem dX8_edge_1 : decode cX8_edge 1 = .ok (.iload_n 1, 1) := by decide +kernel
theorem dX8_edge_2 : decode cX8_edge 2 = .ok (.invokevirtual 165, 3) := by decide +kernel
theorem dX8_edge_5 : decode cX8_edge 5 = .ok (.ifCond .ne 5, 3) := by decide +kernel
theorem dX8_edge_8 : decode cX8_edge 8 = .ok (.iconst (-1), 1) := by decide +kernel
theorem dX8_edge_9 : decode cX8_edge 9 = .ok (.ireturn, 1) := by decide +kernel
def vs_X8_edge : List Cond := .code yX8_edge cX8_edge 3 (some .int) :: ([.methodLink RX8 165 yX8_isEdge, .instanceMethod yX8_isEdge, .selects RX8 yX8_isEdge yX8_isEdge, .initialized RX8, .code yX8_isEdge cX8_isEdge 2 (some .boolean), .fieldLink RX8 23 "ClockReach" "model" "LClockReach$Automaton;", .fieldLink RX8 119 "ClockReach$Automaton" "edges" "I"] ++ wsX80 ++ wsX00)
theorem g_X8_edge_X8_isEdge : GoodIn vs_X8_edge (wsV RX8 165 RX8 yX8_isEdge vs_X8_isEdge) := goodIn_r _ [1, 2, 3, 4, 5, 6, 7, 8, 9, 10, 11, 12, 13, 14, 15, 16, 17, 18, 19, 20, 21, 22, 23, 24, 25, 26, 27, 28, 29, 30, 31, 32, 33, 34, 35, 36, 37, 38, 39, 40] (by decide +kernel) (by decide +kernel)
set_option maxHeartbeats 4000000 in
set_option maxRecDepth 100000 in
theorem c_X8_edge (l : Launch) (dC : Nat → ClassId) (dI : Nat → Nat → Nat) (sz : Nat) (a : Nat → Nat) (k : Nat → ClassId) (p0 : Int32) (p1 : Int32) : Met l yX8_edge vs_X8_edge ({ frames := 1, cells := 0, slots := 0, locals := 21 }) (va_Pc [.ref (a 0), .int p0, .int p1] (pu_B (dC, dI) (wX a k) (tX k) sz)) (va_Qi (fun (r : Int32) (_ : Unit) => r = -1) (fun _ _ => True) (va_A [] sz)) 0 0 (va_A [] sz) := by
  refine Met.ofW (cc := cX8_edge) (maxL := 3) (ret := (some .int)) (by decide) rfl ?_
  intro p e s m args below meth c s₁ B hml hv
  obtain ⟨rfl, rfl, hP, hK, hD0⟩ := hv
  have hx := B.exec
  have hb := B.bytes
  have hr := B.returns
  have hts := atoms_spec (ws := vs_X8_edge) B.pre
  have hown : s.vm.findClass RX8 = some m.cls := findClass_of_methodNamed B.named
  have hlocks := B.notSynchronized
  have hD := hD0
  have hA : ∀ q : Nat, s.heap.size ≤ q → va_A [] s.heap.size q := fun _ h => Or.inr h
  have hS : va_S (va_A [] s.heap.size) s.heap s.heap [] := va_S.rf
  have hl := lv_entry ([.ref (a 0), .int p0, .int p1]) (n := 3) (Nat.le_of_ble_eq_true rfl)
  rw [lg_entry_eq]
  generalize (lg_sl ([.ref (a 0), .int p0, .int p1]) ++ List.replicate (3 - (lg_sl ([.ref (a 0), .int p0, .int p1])).length) Slot.unset).toArray = ls at hl ⊢
  have hl : lv_has ls 3 [(0, .ref (a 0)), (1, .int p0), (2, .int p1)] := hl
  refine lv_aload_n hx hb dX8_edge_0 rfl (lv_at hl 0 rfl) ?_
  refine lv_iload_n hx hb dX8_edge_1 rfl (lv_at hl 1 rfl) ?_
  refine va_calli (va_runV (As := [.int p0]) (rest := []) ⟨hx, hb, hml, hown, hts⟩ (c_X8_isEdge l dC dI _ a k p0) (cwV 1 hts g_X8_edge_X8_isEdge rfl rfl rfl (by decide +kernel) ⟨Nat.le_of_ble_eq_true rfl, Nat.le_of_ble_eq_true rfl⟩) ⟨pu_bl, va_recv hK hP (ci := 8) (q0 := 0) rfl rfl, pu_in hP hK hD⟩ rfl rfl hl.1 rfl (lv_room (Nat.le_of_ble_eq_true rfl)) dX8_edge_2 ⟨Nat.le_of_ble_eq_true rfl, Nat.le_of_ble_eq_true rfl⟩) hS (fun q _ h => pu_fr hS hA q h) (pu_fr hS hA) (fun r_1 u t H1 locs ht hvm hw hB hz1 hk1 hS => ?_)
  have hP := pu_keep hP hk1
  clear hk1 hz1 hB ht hvm
  generalize H1 = H at hP hS ⊢
  obtain rfl : r_1 = 0 := hw
  refine lv_if_ne (tgt := 10) hx hb dX8_edge_5 (by decide) (fun z => absurd z (by decide)) (fun _ => ?_)
  refine lv_iconst (v := (-1)) hx hb dX8_edge_8 (by decide) ?_
  exact W.iret (v := (-1)) hx hb hr (fun t ht hW => ⟨⟨(-1), (), rfl, by first | rfl | decide | simp_all, trivial⟩, hS.F ht⟩) hS.2.2 dX8_edge_9
theorem dX8_limit_0 : decode cX8_limit 0 = .ok (.aload_n 0, 1) := by decide +kernel
theorem dX8_limit_1 : decode cX8_limit 1 = .ok (.iload_n 1, 1) := by decide +kernel
theorem dX8_limit_2 : decode cX8_limit 2 = .ok (.invokevirtual 187, 3) := by decide +kernel
theorem dX8_limit_5 : decode cX8_limit 5 = .ok (.ifCond .ne 5, 3) := by decide +kernel
theorem dX8_limit_8 : decode cX8_limit 8 = .ok (.iconst (-1), 1) := by decide +kernel
theorem dX8_limit_9 : decode cX8_limit 9 = .ok (.ireturn, 1) := by decide +kernel
def vs_X8_limit : List Cond := .code yX8_limit cX8_limit 3 (some .int) :: ([.methodLink RX8 187 yX8_isClock, .instanceMethod yX8_isClock, .selects RX8 yX8_isClock yX8_isClock, .initialized RX8, .code yX8_isClock cX8_isClock 2 (some .boolean), .fieldLink RX8 23 "ClockReach" "model" "LClockReach$Automaton;", .fieldLink RX8 116 "ClockReach$Automaton" "clocks" "I"] ++ wsX80 ++ wsX00)
theorem g_X8_limit_X8_isClock : GoodIn vs_X8_limit (wsV RX8 187 RX8 yX8_isClock vs_X8_isClock) := goodIn_r _ [1, 2, 3, 4, 5, 6, 7, 8, 9, 10, 11, 12, 13, 14, 15, 16, 17, 18, 19, 20, 21, 22, 23, 24, 25, 26, 27, 28, 29, 30, 31, 32, 33, 34, 35, 36, 37, 38, 39, 40] (by decide +kernel) (by decide +kernel)
set_option maxHeartbeats 4000000 in
set_option maxRecDepth 100000 in
theorem c_X8_limit (l : Launch) (dC : Nat → ClassId) (dI : Nat → Nat → Nat) (sz : Nat) (a : Nat → Nat) (k : Nat → ClassId) (p0 : Int32) (p1 : Int32) : Met l yX8_limit vs_X8_limit ({ frames := 1, cells := 0, slots := 0, locals := 21 }) (va_Pc [.ref (a 0), .int p0, .int p1] (pu_B (dC, dI) (wX a k) (tX k) sz)) (va_Qi (fun (r : Int32) (_ : Unit) => r = -1) (fun _ _ => True) (va_A [] sz)) 0 0 (va_A [] sz) := by
  refine Met.ofW (cc := cX8_limit) (maxL := 3) (ret := (some .int)) (by decide) rfl ?_
  intro p e s m args below meth c s₁ B hml hv
  obtain ⟨rfl, rfl, hP, hK, hD0⟩ := hv
  have hx := B.exec
  have hb := B.bytes
  have hr := B.returns
  have hts := atoms_spec (ws := vs_X8_limit) B.pre
  have hown : s.vm.findClass RX8 = some m.cls := findClass_of_methodNamed B.named
  have hlocks := B.notSynchronized
  have hD := hD0
  have hA : ∀ q : Nat, s.heap.size ≤ q → va_A [] s.heap.size q := fun _ h => Or.inr h
  have hS : va_S (va_A [] s.heap.size) s.heap s.heap [] := va_S.rf
  have hl := lv_entry ([.ref (a 0), .int p0, .int p1]) (n := 3) (Nat.le_of_ble_eq_true rfl)
  rw [lg_entry_eq]
  generalize (lg_sl ([.ref (a 0), .int p0, .int p1]) ++ List.replicate (3 - (lg_sl ([.ref (a 0), .int p0, .int p1])).length) Slot.unset).toArray = ls at hl ⊢
  have hl : lv_has ls 3 [(0, .ref (a 0)), (1, .int p0), (2, .int p1)] := hl
  refine lv_aload_n hx hb dX8_limit_0 rfl (lv_at hl 0 rfl) ?_
  refine lv_iload_n hx hb dX8_limit_1 rfl (lv_at hl 1 rfl) ?_
  refine va_calli (va_runV (As := [.int p0]) (rest := []) ⟨hx, hb, hml, hown, hts⟩ (c_X8_isClock l dC dI _ a k p0) (cwV 1 hts g_X8_limit_X8_isClock rfl rfl rfl (by decide +kernel) ⟨Nat.le_of_ble_eq_true rfl, Nat.le_of_ble_eq_true rfl⟩) ⟨pu_bl, va_recv hK hP (ci := 8) (q0 := 0) rfl rfl, pu_in hP hK hD⟩ rfl rfl hl.1 rfl (lv_room (Nat.le_of_ble_eq_true rfl)) dX8_limit_2 ⟨Nat.le_of_ble_eq_true rfl, Nat.le_of_ble_eq_true rfl⟩) hS (fun q _ h => pu_fr hS hA q h) (pu_fr hS hA) (fun r_1 u t H1 locs ht hvm hw hB hz1 hk1 hS => ?_)
  have hP := pu_keep hP hk1
  clear hk1 hz1 hB ht hvm
  generalize H1 = H at hP hS ⊢
  obtain rfl : r_1 = 0 := hw
  refine lv_if_ne (tgt := 10) hx hb dX8_limit_5 (by decide) (fun z => absurd z (by decide)) (fun _ => ?_)
  refine lv_iconst (v := (-1)) hx hb dX8_limit_8 (by decide) ?_
  exact W.iret (v := (-1)) hx hb hr (fun t ht hW => ⟨⟨(-1), (), rfl, by first | rfl | decide | simp_all, trivial⟩, hS.F ht⟩) hS.2.2 dX8_limit_9
end
