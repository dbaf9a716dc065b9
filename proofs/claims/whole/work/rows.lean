section
-- ===== PART A: goes FIRST, ahead of the names: the tables' words, and 'selects' of the private methods out of them =====
/-- a private method of a class that the tables say can be made, by its rows of tables_1 -/
def lw_okq (q : MethodName × Nat) : Prop := (q.1.cls ≠ "java/lang/invoke/MethodHandle" ∧ q.1.cls ≠ "java/lang/invoke/VarHandle") ∧ Cond.instantiable q.1.cls q.2 ∈ tables_1 ∧ Cond.privateMethod q.1 ∈ tables_1 ∧ Cond.instanceMethod q.1 ∈ tables_1
theorem lw_p0 : lw_okq (⟨"VetoHouse", "refuse", "(I)I"⟩, 12) := ⟨⟨by decide +kernel, by decide +kernel⟩, List.mem_of_getElem? (i := 21) (by decide +kernel), List.mem_of_getElem? (i := 270) (by decide +kernel), List.mem_of_getElem? (i := 271) (by decide +kernel)⟩
theorem lw_p1 : lw_okq (⟨"VetoHouse$Text", "endOfRun", "(III)I"⟩, 6) := ⟨⟨by decide +kernel, by decide +kernel⟩, List.mem_of_getElem? (i := 197) (by decide +kernel), List.mem_of_getElem? (i := 322) (by decide +kernel), List.mem_of_getElem? (i := 323) (by decide +kernel)⟩
theorem lw_p2 : lw_okq (⟨"VetoHouse$Text", "numberAt", "(II)I"⟩, 6) := ⟨⟨by decide +kernel, by decide +kernel⟩, List.mem_of_getElem? (i := 197) (by decide +kernel), List.mem_of_getElem? (i := 329) (by decide +kernel), List.mem_of_getElem? (i := 330) (by decide +kernel)⟩
theorem lw_p3 : lw_okq (⟨"VetoHouse$Text", "byteAt", "(I)I"⟩, 6) := ⟨⟨by decide +kernel, by decide +kernel⟩, List.mem_of_getElem? (i := 197) (by decide +kernel), List.mem_of_getElem? (i := 333) (by decide +kernel), List.mem_of_getElem? (i := 334) (by decide +kernel)⟩
theorem lw_p4 : lw_okq (⟨"VetoHouse$House", "takeItem", "(LVetoHouse$Text;Z)Z"⟩, 7) := ⟨⟨by decide +kernel, by decide +kernel⟩, List.mem_of_getElem? (i := 72) (by decide +kernel), List.mem_of_getElem? (i := 341) (by decide +kernel), List.mem_of_getElem? (i := 342) (by decide +kernel)⟩
theorem lw_p5 : lw_okq (⟨"VetoHouse$House", "takeDay", "(LVetoHouse$Text;)Z"⟩, 7) := ⟨⟨by decide +kernel, by decide +kernel⟩, List.mem_of_getElem? (i := 72) (by decide +kernel), List.mem_of_getElem? (i := 398) (by decide +kernel), List.mem_of_getElem? (i := 399) (by decide +kernel)⟩
theorem lw_p6 : lw_okq (⟨"VetoHouse$House", "takeDeputy", "(LVetoHouse$Text;)Z"⟩, 7) := ⟨⟨by decide +kernel, by decide +kernel⟩, List.mem_of_getElem? (i := 72) (by decide +kernel), List.mem_of_getElem? (i := 412) (by decide +kernel), List.mem_of_getElem? (i := 413) (by decide +kernel)⟩
theorem lw_p7 : lw_okq (⟨"VetoHouse$House", "takeLeaning", "(LVetoHouse$Text;Z)Z"⟩, 7) := ⟨⟨by decide +kernel, by decide +kernel⟩, List.mem_of_getElem? (i := 72) (by decide +kernel), List.mem_of_getElem? (i := 418) (by decide +kernel), List.mem_of_getElem? (i := 419) (by decide +kernel)⟩
theorem lw_p8 : lw_okq (⟨"VetoHouse$House", "takeForce", "(LVetoHouse$Text;)Z"⟩, 7) := ⟨⟨by decide +kernel, by decide +kernel⟩, List.mem_of_getElem? (i := 72) (by decide +kernel), List.mem_of_getElem? (i := 435) (by decide +kernel), List.mem_of_getElem? (i := 436) (by decide +kernel)⟩
theorem lw_p9 : lw_okq (⟨"VetoHouse", "moveIn", "(LVetoHouse$Sitting;I)I"⟩, 12) := ⟨⟨by decide +kernel, by decide +kernel⟩, List.mem_of_getElem? (i := 21) (by decide +kernel), List.mem_of_getElem? (i := 467) (by decide +kernel), List.mem_of_getElem? (i := 468) (by decide +kernel)⟩
theorem lw_p10 : lw_okq (⟨"VetoHouse", "stoppers", "(LVetoHouse$Sitting;I)I"⟩, 12) := ⟨⟨by decide +kernel, by decide +kernel⟩, List.mem_of_getElem? (i := 21) (by decide +kernel), List.mem_of_getElem? (i := 471) (by decide +kernel), List.mem_of_getElem? (i := 472) (by decide +kernel)⟩
theorem lw_p11 : lw_okq (⟨"VetoHouse", "wouldStop", "(IIIII)Z"⟩, 12) := ⟨⟨by decide +kernel, by decide +kernel⟩, List.mem_of_getElem? (i := 21) (by decide +kernel), List.mem_of_getElem? (i := 477) (by decide +kernel), List.mem_of_getElem? (i := 478) (by decide +kernel)⟩
theorem lw_p12 : lw_okq (⟨"VetoHouse", "kindAt", "(I)LVetoHouse$Plain;"⟩, 12) := ⟨⟨by decide +kernel, by decide +kernel⟩, List.mem_of_getElem? (i := 21) (by decide +kernel), List.mem_of_getElem? (i := 481) (by decide +kernel), List.mem_of_getElem? (i := 482) (by decide +kernel)⟩
theorem lw_p13 : lw_okq (⟨"VetoHouse", "costOf", "(LVetoHouse$Deputy;)I"⟩, 12) := ⟨⟨by decide +kernel, by decide +kernel⟩, List.mem_of_getElem? (i := 21) (by decide +kernel), List.mem_of_getElem? (i := 537) (by decide +kernel), List.mem_of_getElem? (i := 538) (by decide +kernel)⟩
theorem lw_p14 : lw_okq (⟨"VetoHouse", "joyFor", "(LVetoHouse$Deputy;I)I"⟩, 12) := ⟨⟨by decide +kernel, by decide +kernel⟩, List.mem_of_getElem? (i := 21) (by decide +kernel), List.mem_of_getElem? (i := 582) (by decide +kernel), List.mem_of_getElem? (i := 583) (by decide +kernel)⟩
theorem lw_p15 : lw_okq (⟨"VetoHouse", "bestBundle", "(II)I"⟩, 12) := ⟨⟨by decide +kernel, by decide +kernel⟩, List.mem_of_getElem? (i := 21) (by decide +kernel), List.mem_of_getElem? (i := 598) (by decide +kernel), List.mem_of_getElem? (i := 599) (by decide +kernel)⟩
def lw_privs_1 : List (MethodName × Nat) := [(⟨"VetoHouse", "refuse", "(I)I"⟩, 12), (⟨"VetoHouse$Text", "endOfRun", "(III)I"⟩, 6), (⟨"VetoHouse$Text", "numberAt", "(II)I"⟩, 6), (⟨"VetoHouse$Text", "byteAt", "(I)I"⟩, 6), (⟨"VetoHouse$House", "takeItem", "(LVetoHouse$Text;Z)Z"⟩, 7), (⟨"VetoHouse$House", "takeDay", "(LVetoHouse$Text;)Z"⟩, 7), (⟨"VetoHouse$House", "takeDeputy", "(LVetoHouse$Text;)Z"⟩, 7), (⟨"VetoHouse$House", "takeLeaning", "(LVetoHouse$Text;Z)Z"⟩, 7), (⟨"VetoHouse$House", "takeForce", "(LVetoHouse$Text;)Z"⟩, 7), (⟨"VetoHouse", "moveIn", "(LVetoHouse$Sitting;I)I"⟩, 12), (⟨"VetoHouse", "stoppers", "(LVetoHouse$Sitting;I)I"⟩, 12), (⟨"VetoHouse", "wouldStop", "(IIIII)Z"⟩, 12), (⟨"VetoHouse", "kindAt", "(I)LVetoHouse$Plain;"⟩, 12), (⟨"VetoHouse", "costOf", "(LVetoHouse$Deputy;)I"⟩, 12), (⟨"VetoHouse", "joyFor", "(LVetoHouse$Deputy;I)I"⟩, 12), (⟨"VetoHouse", "bestBundle", "(II)I"⟩, 12)]
theorem lw_r1 : ∀ q ∈ lw_privs_1, lw_okq q := List.forall_mem_cons.mpr ⟨lw_p0, List.forall_mem_cons.mpr ⟨lw_p1, List.forall_mem_cons.mpr ⟨lw_p2, List.forall_mem_cons.mpr ⟨lw_p3, List.forall_mem_cons.mpr ⟨lw_p4, List.forall_mem_cons.mpr ⟨lw_p5, List.forall_mem_cons.mpr ⟨lw_p6, List.forall_mem_cons.mpr ⟨lw_p7, List.forall_mem_cons.mpr ⟨lw_p8, List.forall_mem_cons.mpr ⟨lw_p9, List.forall_mem_cons.mpr ⟨lw_p10, List.forall_mem_cons.mpr ⟨lw_p11, List.forall_mem_cons.mpr ⟨lw_p12, List.forall_mem_cons.mpr ⟨lw_p13, List.forall_mem_cons.mpr ⟨lw_p14, List.forall_mem_cons.mpr ⟨lw_p15, fun _ h => absurd h List.not_mem_nil⟩⟩⟩⟩⟩⟩⟩⟩⟩⟩⟩⟩⟩⟩⟩⟩
theorem lw_p16 : lw_okq (⟨"VetoHouse", "costOfAll", "(I)I"⟩, 12) := ⟨⟨by decide +kernel, by decide +kernel⟩, List.mem_of_getElem? (i := 21) (by decide +kernel), List.mem_of_getElem? (i := 602) (by decide +kernel), List.mem_of_getElem? (i := 603) (by decide +kernel)⟩
theorem lw_p17 : lw_okq (⟨"VetoHouse", "gladOf", "(I)I"⟩, 12) := ⟨⟨by decide +kernel, by decide +kernel⟩, List.mem_of_getElem? (i := 21) (by decide +kernel), List.mem_of_getElem? (i := 622) (by decide +kernel), List.mem_of_getElem? (i := 623) (by decide +kernel)⟩
theorem lw_p18 : lw_okq (⟨"VetoHouse", "pairRests", "(IIII)Z"⟩, 12) := ⟨⟨by decide +kernel, by decide +kernel⟩, List.mem_of_getElem? (i := 21) (by decide +kernel), List.mem_of_getElem? (i := 630) (by decide +kernel), List.mem_of_getElem? (i := 631) (by decide +kernel)⟩
theorem lw_p19 : lw_okq (⟨"VetoHouse", "stoppedBetween", "(IIII)Z"⟩, 12) := ⟨⟨by decide +kernel, by decide +kernel⟩, List.mem_of_getElem? (i := 21) (by decide +kernel), List.mem_of_getElem? (i := 634) (by decide +kernel), List.mem_of_getElem? (i := 635) (by decide +kernel)⟩
theorem lw_p20 : lw_okq (⟨"VetoHouse", "kindsThatFit", "(ILVetoHouse$Deputy;)I"⟩, 12) := ⟨⟨by decide +kernel, by decide +kernel⟩, List.mem_of_getElem? (i := 21) (by decide +kernel), List.mem_of_getElem? (i := 658) (by decide +kernel), List.mem_of_getElem? (i := 659) (by decide +kernel)⟩
theorem lw_p21 : lw_okq (⟨"VetoHouse", "notesFit", "(IIII)Z"⟩, 12) := ⟨⟨by decide +kernel, by decide +kernel⟩, List.mem_of_getElem? (i := 21) (by decide +kernel), List.mem_of_getElem? (i := 662) (by decide +kernel), List.mem_of_getElem? (i := 663) (by decide +kernel)⟩
theorem lw_p22 : lw_okq (⟨"VetoHouse", "kindsThatStop", "(LVetoHouse$Deputy;I)I"⟩, 12) := ⟨⟨by decide +kernel, by decide +kernel⟩, List.mem_of_getElem? (i := 21) (by decide +kernel), List.mem_of_getElem? (i := 678) (by decide +kernel), List.mem_of_getElem? (i := 679) (by decide +kernel)⟩
theorem lw_p23 : lw_okq (⟨"VetoHouse", "howMany", "(I)I"⟩, 12) := ⟨⟨by decide +kernel, by decide +kernel⟩, List.mem_of_getElem? (i := 21) (by decide +kernel), List.mem_of_getElem? (i := 718) (by decide +kernel), List.mem_of_getElem? (i := 719) (by decide +kernel)⟩
theorem lw_p24 : lw_okq (⟨"VetoHouse", "deputyIntoDigest", "(JI)J"⟩, 12) := ⟨⟨by decide +kernel, by decide +kernel⟩, List.mem_of_getElem? (i := 21) (by decide +kernel), List.mem_of_getElem? (i := 728) (by decide +kernel), List.mem_of_getElem? (i := 729) (by decide +kernel)⟩
theorem lw_p25 : lw_okq (⟨"VetoHouse", "noteIntoDigest", "(JI)J"⟩, 12) := ⟨⟨by decide +kernel, by decide +kernel⟩, List.mem_of_getElem? (i := 21) (by decide +kernel), List.mem_of_getElem? (i := 732) (by decide +kernel), List.mem_of_getElem? (i := 733) (by decide +kernel)⟩
theorem lw_p26 : lw_okq (⟨"VetoHouseModel", "bad", "(I)I"⟩, 19) := ⟨⟨by decide +kernel, by decide +kernel⟩, List.mem_of_getElem? (i := 736) (by decide +kernel), List.mem_of_getElem? (i := 812) (by decide +kernel), List.mem_of_getElem? (i := 813) (by decide +kernel)⟩
theorem lw_p27 : lw_okq (⟨"VetoHouseModel", "many", "()I"⟩, 19) := ⟨⟨by decide +kernel, by decide +kernel⟩, List.mem_of_getElem? (i := 736) (by decide +kernel), List.mem_of_getElem? (i := 816) (by decide +kernel), List.mem_of_getElem? (i := 817) (by decide +kernel)⟩
theorem lw_p28 : lw_okq (⟨"VetoHouseModel", "full", "()I"⟩, 19) := ⟨⟨by decide +kernel, by decide +kernel⟩, List.mem_of_getElem? (i := 736) (by decide +kernel), List.mem_of_getElem? (i := 830) (by decide +kernel), List.mem_of_getElem? (i := 831) (by decide +kernel)⟩
theorem lw_p29 : lw_okq (⟨"VetoHouseModel", "free", "()I"⟩, 19) := ⟨⟨by decide +kernel, by decide +kernel⟩, List.mem_of_getElem? (i := 736) (by decide +kernel), List.mem_of_getElem? (i := 841) (by decide +kernel), List.mem_of_getElem? (i := 842) (by decide +kernel)⟩
theorem lw_p30 : lw_okq (⟨"VetoHouseModel", "no", "()I"⟩, 19) := ⟨⟨by decide +kernel, by decide +kernel⟩, List.mem_of_getElem? (i := 736) (by decide +kernel), List.mem_of_getElem? (i := 845) (by decide +kernel), List.mem_of_getElem? (i := 846) (by decide +kernel)⟩
theorem lw_p31 : lw_okq (⟨"VetoHouseModel", "layHand", "()V"⟩, 19) := ⟨⟨by decide +kernel, by decide +kernel⟩, List.mem_of_getElem? (i := 736) (by decide +kernel), List.mem_of_getElem? (i := 849) (by decide +kernel), List.mem_of_getElem? (i := 850) (by decide +kernel)⟩
def lw_privs_2 : List (MethodName × Nat) := [(⟨"VetoHouse", "costOfAll", "(I)I"⟩, 12), (⟨"VetoHouse", "gladOf", "(I)I"⟩, 12), (⟨"VetoHouse", "pairRests", "(IIII)Z"⟩, 12), (⟨"VetoHouse", "stoppedBetween", "(IIII)Z"⟩, 12), (⟨"VetoHouse", "kindsThatFit", "(ILVetoHouse$Deputy;)I"⟩, 12), (⟨"VetoHouse", "notesFit", "(IIII)Z"⟩, 12), (⟨"VetoHouse", "kindsThatStop", "(LVetoHouse$Deputy;I)I"⟩, 12), (⟨"VetoHouse", "howMany", "(I)I"⟩, 12), (⟨"VetoHouse", "deputyIntoDigest", "(JI)J"⟩, 12), (⟨"VetoHouse", "noteIntoDigest", "(JI)J"⟩, 12), (⟨"VetoHouseModel", "bad", "(I)I"⟩, 19), (⟨"VetoHouseModel", "many", "()I"⟩, 19), (⟨"VetoHouseModel", "full", "()I"⟩, 19), (⟨"VetoHouseModel", "free", "()I"⟩, 19), (⟨"VetoHouseModel", "no", "()I"⟩, 19), (⟨"VetoHouseModel", "layHand", "()V"⟩, 19)]
theorem lw_r2 : ∀ q ∈ lw_privs_2, lw_okq q := List.forall_mem_cons.mpr ⟨lw_p16, List.forall_mem_cons.mpr ⟨lw_p17, List.forall_mem_cons.mpr ⟨lw_p18, List.forall_mem_cons.mpr ⟨lw_p19, List.forall_mem_cons.mpr ⟨lw_p20, List.forall_mem_cons.mpr ⟨lw_p21, List.forall_mem_cons.mpr ⟨lw_p22, List.forall_mem_cons.mpr ⟨lw_p23, List.forall_mem_cons.mpr ⟨lw_p24, List.forall_mem_cons.mpr ⟨lw_p25, List.forall_mem_cons.mpr ⟨lw_p26, List.forall_mem_cons.mpr ⟨lw_p27, List.forall_mem_cons.mpr ⟨lw_p28, List.forall_mem_cons.mpr ⟨lw_p29, List.forall_mem_cons.mpr ⟨lw_p30, List.forall_mem_cons.mpr ⟨lw_p31, fun _ h => absurd h List.not_mem_nil⟩⟩⟩⟩⟩⟩⟩⟩⟩⟩⟩⟩⟩⟩⟩⟩
theorem lw_p32 : lw_okq (⟨"VetoHouseModel", "get", "(II)I"⟩, 19) := ⟨⟨by decide +kernel, by decide +kernel⟩, List.mem_of_getElem? (i := 736) (by decide +kernel), List.mem_of_getElem? (i := 853) (by decide +kernel), List.mem_of_getElem? (i := 854) (by decide +kernel)⟩
theorem lw_p33 : lw_okq (⟨"VetoHouseModel", "keep", "()V"⟩, 19) := ⟨⟨by decide +kernel, by decide +kernel⟩, List.mem_of_getElem? (i := 736) (by decide +kernel), List.mem_of_getElem? (i := 857) (by decide +kernel), List.mem_of_getElem? (i := 858) (by decide +kernel)⟩
theorem lw_p34 : lw_okq (⟨"VetoHouseModel", "stopping", "(I)I"⟩, 19) := ⟨⟨by decide +kernel, by decide +kernel⟩, List.mem_of_getElem? (i := 736) (by decide +kernel), List.mem_of_getElem? (i := 861) (by decide +kernel), List.mem_of_getElem? (i := 862) (by decide +kernel)⟩
theorem lw_p35 : lw_okq (⟨"VetoHouseModel", "stopsOf", "(II)Z"⟩, 19) := ⟨⟨by decide +kernel, by decide +kernel⟩, List.mem_of_getElem? (i := 736) (by decide +kernel), List.mem_of_getElem? (i := 868) (by decide +kernel), List.mem_of_getElem? (i := 869) (by decide +kernel)⟩
theorem lw_p36 : lw_okq (⟨"VetoHouseModel", "joyOf", "(II)I"⟩, 19) := ⟨⟨by decide +kernel, by decide +kernel⟩, List.mem_of_getElem? (i := 736) (by decide +kernel), List.mem_of_getElem? (i := 872) (by decide +kernel), List.mem_of_getElem? (i := 873) (by decide +kernel)⟩
theorem lw_p37 : lw_okq (⟨"VetoHouseModel", "goEnd", "(I)V"⟩, 19) := ⟨⟨by decide +kernel, by decide +kernel⟩, List.mem_of_getElem? (i := 736) (by decide +kernel), List.mem_of_getElem? (i := 879) (by decide +kernel), List.mem_of_getElem? (i := 880) (by decide +kernel)⟩
theorem lw_p38 : lw_okq (⟨"VetoHouseModel", "isDeputy", "(I)Z"⟩, 19) := ⟨⟨by decide +kernel, by decide +kernel⟩, List.mem_of_getElem? (i := 736) (by decide +kernel), List.mem_of_getElem? (i := 891) (by decide +kernel), List.mem_of_getElem? (i := 892) (by decide +kernel)⟩
theorem lw_p39 : lw_okq (⟨"VetoHouseModel", "costOf", "(I)I"⟩, 19) := ⟨⟨by decide +kernel, by decide +kernel⟩, List.mem_of_getElem? (i := 736) (by decide +kernel), List.mem_of_getElem? (i := 895) (by decide +kernel), List.mem_of_getElem? (i := 896) (by decide +kernel)⟩
theorem lw_p40 : lw_okq (⟨"VetoHouseModel", "mostFree", "()I"⟩, 19) := ⟨⟨by decide +kernel, by decide +kernel⟩, List.mem_of_getElem? (i := 736) (by decide +kernel), List.mem_of_getElem? (i := 928) (by decide +kernel), List.mem_of_getElem? (i := 929) (by decide +kernel)⟩
theorem lw_p41 : lw_okq (⟨"VetoHouseModel", "costOfAll", "(I)I"⟩, 19) := ⟨⟨by decide +kernel, by decide +kernel⟩, List.mem_of_getElem? (i := 736) (by decide +kernel), List.mem_of_getElem? (i := 938) (by decide +kernel), List.mem_of_getElem? (i := 939) (by decide +kernel)⟩
theorem lw_p42 : lw_okq (⟨"VetoHouseModel", "isStopped", "(IIII)Z"⟩, 19) := ⟨⟨by decide +kernel, by decide +kernel⟩, List.mem_of_getElem? (i := 736) (by decide +kernel), List.mem_of_getElem? (i := 958) (by decide +kernel), List.mem_of_getElem? (i := 959) (by decide +kernel)⟩
theorem lw_p43 : lw_okq (⟨"VetoHouseModel", "kindsOf", "(I)I"⟩, 19) := ⟨⟨by decide +kernel, by decide +kernel⟩, List.mem_of_getElem? (i := 736) (by decide +kernel), List.mem_of_getElem? (i := 978) (by decide +kernel), List.mem_of_getElem? (i := 979) (by decide +kernel)⟩
theorem lw_p44 : lw_okq (⟨"VetoHouseModel", "areSo", "(I)Z"⟩, 19) := ⟨⟨by decide +kernel, by decide +kernel⟩, List.mem_of_getElem? (i := 736) (by decide +kernel), List.mem_of_getElem? (i := 982) (by decide +kernel), List.mem_of_getElem? (i := 983) (by decide +kernel)⟩
theorem lw_p45 : lw_okq (⟨"VetoHouseModel", "fraction", "(JJ)V"⟩, 19) := ⟨⟨by decide +kernel, by decide +kernel⟩, List.mem_of_getElem? (i := 736) (by decide +kernel), List.mem_of_getElem? (i := 1001) (by decide +kernel), List.mem_of_getElem? (i := 1002) (by decide +kernel)⟩
theorem lw_p46 : lw_okq (⟨"VetoHouseModel", "lookAt", "(I)V"⟩, 19) := ⟨⟨by decide +kernel, by decide +kernel⟩, List.mem_of_getElem? (i := 736) (by decide +kernel), List.mem_of_getElem? (i := 1029) (by decide +kernel), List.mem_of_getElem? (i := 1030) (by decide +kernel)⟩
theorem lw_p47 : lw_okq (⟨"VetoHouseModel", "takesHouse", "()Z"⟩, 19) := ⟨⟨by decide +kernel, by decide +kernel⟩, List.mem_of_getElem? (i := 736) (by decide +kernel), List.mem_of_getElem? (i := 1043) (by decide +kernel), List.mem_of_getElem? (i := 1044) (by decide +kernel)⟩
def lw_privs_3 : List (MethodName × Nat) := [(⟨"VetoHouseModel", "get", "(II)I"⟩, 19), (⟨"VetoHouseModel", "keep", "()V"⟩, 19), (⟨"VetoHouseModel", "stopping", "(I)I"⟩, 19), (⟨"VetoHouseModel", "stopsOf", "(II)Z"⟩, 19), (⟨"VetoHouseModel", "joyOf", "(II)I"⟩, 19), (⟨"VetoHouseModel", "goEnd", "(I)V"⟩, 19), (⟨"VetoHouseModel", "isDeputy", "(I)Z"⟩, 19), (⟨"VetoHouseModel", "costOf", "(I)I"⟩, 19), (⟨"VetoHouseModel", "mostFree", "()I"⟩, 19), (⟨"VetoHouseModel", "costOfAll", "(I)I"⟩, 19), (⟨"VetoHouseModel", "isStopped", "(IIII)Z"⟩, 19), (⟨"VetoHouseModel", "kindsOf", "(I)I"⟩, 19), (⟨"VetoHouseModel", "areSo", "(I)Z"⟩, 19), (⟨"VetoHouseModel", "fraction", "(JJ)V"⟩, 19), (⟨"VetoHouseModel", "lookAt", "(I)V"⟩, 19), (⟨"VetoHouseModel", "takesHouse", "()Z"⟩, 19)]
theorem lw_r3 : ∀ q ∈ lw_privs_3, lw_okq q := List.forall_mem_cons.mpr ⟨lw_p32, List.forall_mem_cons.mpr ⟨lw_p33, List.forall_mem_cons.mpr ⟨lw_p34, List.forall_mem_cons.mpr ⟨lw_p35, List.forall_mem_cons.mpr ⟨lw_p36, List.forall_mem_cons.mpr ⟨lw_p37, List.forall_mem_cons.mpr ⟨lw_p38, List.forall_mem_cons.mpr ⟨lw_p39, List.forall_mem_cons.mpr ⟨lw_p40, List.forall_mem_cons.mpr ⟨lw_p41, List.forall_mem_cons.mpr ⟨lw_p42, List.forall_mem_cons.mpr ⟨lw_p43, List.forall_mem_cons.mpr ⟨lw_p44, List.forall_mem_cons.mpr ⟨lw_p45, List.forall_mem_cons.mpr ⟨lw_p46, List.forall_mem_cons.mpr ⟨lw_p47, fun _ h => absurd h List.not_mem_nil⟩⟩⟩⟩⟩⟩⟩⟩⟩⟩⟩⟩⟩⟩⟩⟩
theorem lw_p48 : lw_okq (⟨"VetoHouseModel", "spells", "(IIIIIII)Z"⟩, 19) := ⟨⟨by decide +kernel, by decide +kernel⟩, List.mem_of_getElem? (i := 736) (by decide +kernel), List.mem_of_getElem? (i := 1047) (by decide +kernel), List.mem_of_getElem? (i := 1048) (by decide +kernel)⟩
theorem lw_p49 : lw_okq (⟨"VetoHouseModel", "goBehind", "()V"⟩, 19) := ⟨⟨by decide +kernel, by decide +kernel⟩, List.mem_of_getElem? (i := 736) (by decide +kernel), List.mem_of_getElem? (i := 1051) (by decide +kernel), List.mem_of_getElem? (i := 1052) (by decide +kernel)⟩
theorem lw_p50 : lw_okq (⟨"VetoHouseModel", "takes", "(III)Z"⟩, 19) := ⟨⟨by decide +kernel, by decide +kernel⟩, List.mem_of_getElem? (i := 736) (by decide +kernel), List.mem_of_getElem? (i := 1055) (by decide +kernel), List.mem_of_getElem? (i := 1056) (by decide +kernel)⟩
theorem lw_p51 : lw_okq (⟨"VetoHouseModel", "takesItem", "()Z"⟩, 19) := ⟨⟨by decide +kernel, by decide +kernel⟩, List.mem_of_getElem? (i := 736) (by decide +kernel), List.mem_of_getElem? (i := 1059) (by decide +kernel), List.mem_of_getElem? (i := 1060) (by decide +kernel)⟩
theorem lw_p52 : lw_okq (⟨"VetoHouseModel", "takesDeputy", "()Z"⟩, 19) := ⟨⟨by decide +kernel, by decide +kernel⟩, List.mem_of_getElem? (i := 736) (by decide +kernel), List.mem_of_getElem? (i := 1063) (by decide +kernel), List.mem_of_getElem? (i := 1064) (by decide +kernel)⟩
theorem lw_p53 : lw_okq (⟨"VetoHouseModel", "takesMind", "(I)Z"⟩, 19) := ⟨⟨by decide +kernel, by decide +kernel⟩, List.mem_of_getElem? (i := 736) (by decide +kernel), List.mem_of_getElem? (i := 1067) (by decide +kernel), List.mem_of_getElem? (i := 1068) (by decide +kernel)⟩
theorem lw_p54 : lw_okq (⟨"VetoHouseModel", "takesLaws", "(I)Z"⟩, 19) := ⟨⟨by decide +kernel, by decide +kernel⟩, List.mem_of_getElem? (i := 736) (by decide +kernel), List.mem_of_getElem? (i := 1071) (by decide +kernel), List.mem_of_getElem? (i := 1072) (by decide +kernel)⟩
theorem lw_p55 : lw_okq (⟨"VetoHouseModel", "counted", "(I)I"⟩, 19) := ⟨⟨by decide +kernel, by decide +kernel⟩, List.mem_of_getElem? (i := 736) (by decide +kernel), List.mem_of_getElem? (i := 1095) (by decide +kernel), List.mem_of_getElem? (i := 1096) (by decide +kernel)⟩
theorem lw_p56 : lw_okq (⟨"VetoHouseModel", "sums", "(JII)J"⟩, 19) := ⟨⟨by decide +kernel, by decide +kernel⟩, List.mem_of_getElem? (i := 736) (by decide +kernel), List.mem_of_getElem? (i := 1105) (by decide +kernel), List.mem_of_getElem? (i := 1106) (by decide +kernel)⟩
def lw_privs_4 : List (MethodName × Nat) := [(⟨"VetoHouseModel", "spells", "(IIIIIII)Z"⟩, 19), (⟨"VetoHouseModel", "goBehind", "()V"⟩, 19), (⟨"VetoHouseModel", "takes", "(III)Z"⟩, 19), (⟨"VetoHouseModel", "takesItem", "()Z"⟩, 19), (⟨"VetoHouseModel", "takesDeputy", "()Z"⟩, 19), (⟨"VetoHouseModel", "takesMind", "(I)Z"⟩, 19), (⟨"VetoHouseModel", "takesLaws", "(I)Z"⟩, 19), (⟨"VetoHouseModel", "counted", "(I)I"⟩, 19), (⟨"VetoHouseModel", "sums", "(JII)J"⟩, 19)]
theorem lw_r4 : ∀ q ∈ lw_privs_4, lw_okq q := List.forall_mem_cons.mpr ⟨lw_p48, List.forall_mem_cons.mpr ⟨lw_p49, List.forall_mem_cons.mpr ⟨lw_p50, List.forall_mem_cons.mpr ⟨lw_p51, List.forall_mem_cons.mpr ⟨lw_p52, List.forall_mem_cons.mpr ⟨lw_p53, List.forall_mem_cons.mpr ⟨lw_p54, List.forall_mem_cons.mpr ⟨lw_p55, List.forall_mem_cons.mpr ⟨lw_p56, fun _ h => absurd h List.not_mem_nil⟩⟩⟩⟩⟩⟩⟩⟩⟩
def lw_privs : List (MethodName × Nat) := lw_privs_1 ++ (lw_privs_2 ++ (lw_privs_3 ++ (lw_privs_4)))
def lw_tbl : List Cond := k2_sels lw_privs ++ tables_1
theorem lw_privs_ok : ∀ q ∈ lw_privs, lw_okq q := by
  show ∀ q ∈ lw_privs_1 ++ (lw_privs_2 ++ (lw_privs_3 ++ (lw_privs_4))), lw_okq q
  exact List.forall_mem_append.mpr ⟨lw_r1, List.forall_mem_append.mpr ⟨lw_r2, List.forall_mem_append.mpr ⟨lw_r3, lw_r4⟩⟩⟩
end
section
/-! ===== BEGIN printed: names, fields, word lists, decode rows ===== -/
def RX0 : String := "VetoHouse$Deputy"
def TX0 : u_T := fun k => match k with
  | 0 => ("VetoHouse$Deputy", "kind", "I", false)
  | 1 => ("VetoHouse$Deputy", "love", "I", false)
  | 2 => ("VetoHouse$Deputy", "hate", "I", false)
  | _ => ("VetoHouse$Deputy", "price", "I", false)
def tyX0 : Nat → FieldType := fun k => match k with
  | 0 => .int
  | 1 => .int
  | 2 => .int
  | _ => .int
abbrev wsX00 : List Cond := u_ws RX0 TX0 4
theorem nmX0 : ∀ a, a < 4 → ∀ b, b < 4 → a ≠ b → (TX0 a).2.1 ≠ (TX0 b).2.1 := by decide +kernel
theorem tyX0_ok : ∀ k, k < 4 → parseFieldDescriptor (TX0 k).2.2.1 = some (tyX0 k) := by decide +kernel
abbrev cX0_init : ByteArray := prog_2_method_1_code
def yX0_init : MethodName := ⟨RX0, "<init>", "()V"⟩
abbrev cX0_copyFrom : ByteArray := prog_2_method_2_code
def yX0_copyFrom : MethodName := ⟨RX0, "copyFrom", "(LVetoHouse$Deputy;)V"⟩
def RX1 : String := "VetoHouse$House"
def TX1 : u_T := fun k => match k with
  | 0 => ("VetoHouse$House", "sitting", "LVetoHouse$Sitting;", true)
  | 1 => ("VetoHouse$House", "deputies", "[LVetoHouse$Deputy;", true)
  | 2 => ("VetoHouse$House", "notes", "[LVetoHouse$Note;", true)
  | 3 => ("VetoHouse$House", "past", "[LVetoHouse$Sitting;", true)
  | 4 => ("VetoHouse$House", "deputyCount", "I", false)
  | 5 => ("VetoHouse$House", "noteCount", "I", false)
  | _ => ("VetoHouse$House", "pastCount", "I", false)
def tyX1 : Nat → FieldType := fun k => match k with
  | 0 => .object "VetoHouse$Sitting"
  | 1 => .array (.object "VetoHouse$Deputy")
  | 2 => .array (.object "VetoHouse$Note")
  | 3 => .array (.object "VetoHouse$Sitting")
  | 4 => .int
  | 5 => .int
  | _ => .int
abbrev wsX10 : List Cond := u_ws RX1 TX1 7
theorem nmX1 : ∀ a, a < 7 → ∀ b, b < 7 → a ≠ b → (TX1 a).2.1 ≠ (TX1 b).2.1 := by decide +kernel
theorem tyX1_ok : ∀ k, k < 7 → parseFieldDescriptor (TX1 k).2.2.1 = some (tyX1 k) := by decide +kernel
abbrev cX1_init : ByteArray := prog_3_method_1_code
def yX1_init : MethodName := ⟨RX1, "<init>", "()V"⟩
abbrev cX1_startOn : ByteArray := prog_3_method_2_code
def yX1_startOn : MethodName := ⟨RX1, "startOn", "(I)V"⟩
abbrev cX1_copyFrom : ByteArray := prog_3_method_3_code
def yX1_copyFrom : MethodName := ⟨RX1, "copyFrom", "(LVetoHouse$House;)V"⟩
abbrev cX1_deputyAt : ByteArray := prog_3_method_4_code
def yX1_deputyAt : MethodName := ⟨RX1, "deputyAt", "(I)LVetoHouse$Deputy;"⟩
abbrev cX1_noteAt : ByteArray := prog_3_method_5_code
def yX1_noteAt : MethodName := ⟨RX1, "noteAt", "(I)LVetoHouse$Note;"⟩
abbrev cX1_addDeputy : ByteArray := prog_3_method_6_code
def yX1_addDeputy : MethodName := ⟨RX1, "addDeputy", "(IIII)V"⟩
abbrev cX1_addNote : ByteArray := prog_3_method_7_code
def yX1_addNote : MethodName := ⟨RX1, "addNote", "(IIII)V"⟩
abbrev cX1_remember : ByteArray := prog_3_method_8_code
def yX1_remember : MethodName := ⟨RX1, "remember", "()V"⟩
abbrev cX1_goBack : ByteArray := prog_3_method_9_code
def yX1_goBack : MethodName := ⟨RX1, "goBack", "()V"⟩
abbrev cX1_readFrom : ByteArray := prog_3_method_10_code
def yX1_readFrom : MethodName := ⟨RX1, "readFrom", "(LVetoHouse$Text;)I"⟩
abbrev cX1_takeItem : ByteArray := prog_3_method_11_code
def yX1_takeItem : MethodName := ⟨RX1, "takeItem", "(LVetoHouse$Text;Z)Z"⟩
abbrev cX1_takeDay : ByteArray := prog_3_method_12_code
def yX1_takeDay : MethodName := ⟨RX1, "takeDay", "(LVetoHouse$Text;)Z"⟩
abbrev cX1_takeDeputy : ByteArray := prog_3_method_13_code
def yX1_takeDeputy : MethodName := ⟨RX1, "takeDeputy", "(LVetoHouse$Text;)Z"⟩
abbrev cX1_takeLeaning : ByteArray := prog_3_method_14_code
def yX1_takeLeaning : MethodName := ⟨RX1, "takeLeaning", "(LVetoHouse$Text;Z)Z"⟩
abbrev cX1_takeForce : ByteArray := prog_3_method_15_code
def yX1_takeForce : MethodName := ⟨RX1, "takeForce", "(LVetoHouse$Text;)Z"⟩
def RX2 : String := "VetoHouse$Kept"
def TX2 : u_T := fun k => match k with
  | _ => ("", "", "", false)
def tyX2 : Nat → FieldType := fun k => match k with
  | _ => .int
abbrev wsX20 : List Cond := u_ws RX2 TX2 0
theorem nmX2 : ∀ a, a < 0 → ∀ b, b < 0 → a ≠ b → (TX2 a).2.1 ≠ (TX2 b).2.1 := by decide +kernel
theorem tyX2_ok : ∀ k, k < 0 → parseFieldDescriptor (TX2 k).2.2.1 = some (tyX2 k) := by decide +kernel
abbrev cX2_init : ByteArray := prog_4_method_1_code
def yX2_init : MethodName := ⟨RX2, "<init>", "()V"⟩
abbrev cX2_refuses : ByteArray := prog_4_method_2_code
def yX2_refuses : MethodName := ⟨RX2, "refuses", "(III)Z"⟩
abbrev cX2_costAt : ByteArray := prog_4_method_3_code
def yX2_costAt : MethodName := ⟨RX2, "costAt", "(I)I"⟩
def RX3 : String := "VetoHouse$Late"
def TX3 : u_T := fun k => match k with
  | _ => ("", "", "", false)
def tyX3 : Nat → FieldType := fun k => match k with
  | _ => .int
abbrev wsX30 : List Cond := u_ws RX3 TX3 0
theorem nmX3 : ∀ a, a < 0 → ∀ b, b < 0 → a ≠ b → (TX3 a).2.1 ≠ (TX3 b).2.1 := by decide +kernel
theorem tyX3_ok : ∀ k, k < 0 → parseFieldDescriptor (TX3 k).2.2.1 = some (tyX3 k) := by decide +kernel
abbrev cX3_init : ByteArray := prog_5_method_1_code
def yX3_init : MethodName := ⟨RX3, "<init>", "()V"⟩
abbrev cX3_refuses : ByteArray := prog_5_method_2_code
def yX3_refuses : MethodName := ⟨RX3, "refuses", "(III)Z"⟩
def RX4 : String := "VetoHouse$Note"
def TX4 : u_T := fun k => match k with
  | 0 => ("VetoHouse$Note", "deputy", "I", false)
  | 1 => ("VetoHouse$Note", "bundle", "I", false)
  | 2 => ("VetoHouse$Note", "day", "I", false)
  | _ => ("VetoHouse$Note", "stopped", "I", false)
def tyX4 : Nat → FieldType := fun k => match k with
  | 0 => .int
  | 1 => .int
  | 2 => .int
  | _ => .int
abbrev wsX40 : List Cond := u_ws RX4 TX4 4
theorem nmX4 : ∀ a, a < 4 → ∀ b, b < 4 → a ≠ b → (TX4 a).2.1 ≠ (TX4 b).2.1 := by decide +kernel
theorem tyX4_ok : ∀ k, k < 4 → parseFieldDescriptor (TX4 k).2.2.1 = some (tyX4 k) := by decide +kernel
abbrev cX4_init : ByteArray := prog_6_method_1_code
def yX4_init : MethodName := ⟨RX4, "<init>", "()V"⟩
abbrev cX4_copyFrom : ByteArray := prog_6_method_2_code
def yX4_copyFrom : MethodName := ⟨RX4, "copyFrom", "(LVetoHouse$Note;)V"⟩
def RX5 : String := "VetoHouse$Plain"
def TX5 : u_T := fun k => match k with
  | _ => ("", "", "", false)
def tyX5 : Nat → FieldType := fun k => match k with
  | _ => .int
abbrev wsX50 : List Cond := u_ws RX5 TX5 0
theorem nmX5 : ∀ a, a < 0 → ∀ b, b < 0 → a ≠ b → (TX5 a).2.1 ≠ (TX5 b).2.1 := by decide +kernel
theorem tyX5_ok : ∀ k, k < 0 → parseFieldDescriptor (TX5 k).2.2.1 = some (tyX5 k) := by decide +kernel
abbrev cX5_init : ByteArray := prog_7_method_1_code
def yX5_init : MethodName := ⟨RX5, "<init>", "()V"⟩
abbrev cX5_joyBy : ByteArray := prog_7_method_2_code
def yX5_joyBy : MethodName := ⟨RX5, "joyBy", "(II)I"⟩
abbrev cX5_refuses : ByteArray := prog_7_method_3_code
def yX5_refuses : MethodName := ⟨RX5, "refuses", "(III)Z"⟩
abbrev cX5_costAt : ByteArray := prog_7_method_4_code
def yX5_costAt : MethodName := ⟨RX5, "costAt", "(I)I"⟩
def RX6 : String := "VetoHouse$Poor"
def TX6 : u_T := fun k => match k with
  | _ => ("", "", "", false)
def tyX6 : Nat → FieldType := fun k => match k with
  | _ => .int
abbrev wsX60 : List Cond := u_ws RX6 TX6 0
theorem nmX6 : ∀ a, a < 0 → ∀ b, b < 0 → a ≠ b → (TX6 a).2.1 ≠ (TX6 b).2.1 := by decide +kernel
theorem tyX6_ok : ∀ k, k < 0 → parseFieldDescriptor (TX6 k).2.2.1 = some (tyX6 k) := by decide +kernel
abbrev cX6_init : ByteArray := prog_8_method_1_code
def yX6_init : MethodName := ⟨RX6, "<init>", "()V"⟩
abbrev cX6_costAt : ByteArray := prog_8_method_2_code
def yX6_costAt : MethodName := ⟨RX6, "costAt", "(I)I"⟩
def RX7 : String := "VetoHouse$Proud"
def TX7 : u_T := fun k => match k with
  | _ => ("", "", "", false)
def tyX7 : Nat → FieldType := fun k => match k with
  | _ => .int
abbrev wsX70 : List Cond := u_ws RX7 TX7 0
theorem nmX7 : ∀ a, a < 0 → ∀ b, b < 0 → a ≠ b → (TX7 a).2.1 ≠ (TX7 b).2.1 := by decide +kernel
theorem tyX7_ok : ∀ k, k < 0 → parseFieldDescriptor (TX7 k).2.2.1 = some (tyX7 k) := by decide +kernel
abbrev cX7_init : ByteArray := prog_9_method_1_code
def yX7_init : MethodName := ⟨RX7, "<init>", "()V"⟩
abbrev cX7_refuses : ByteArray := prog_9_method_2_code
def yX7_refuses : MethodName := ⟨RX7, "refuses", "(III)Z"⟩
def RX8 : String := "VetoHouse$Sitting"
def TX8 : u_T := fun k => match k with
  | 0 => ("VetoHouse$Sitting", "day", "I", false)
  | 1 => ("VetoHouse$Sitting", "passed", "I", false)
  | 2 => ("VetoHouse$Sitting", "force", "I", false)
  | 3 => ("VetoHouse$Sitting", "bought", "I", false)
  | 4 => ("VetoHouse$Sitting", "locked", "I", false)
  | _ => ("VetoHouse$Sitting", "spent", "I", false)
def tyX8 : Nat → FieldType := fun k => match k with
  | 0 => .int
  | 1 => .int
  | 2 => .int
  | 3 => .int
  | 4 => .int
  | _ => .int
abbrev wsX80 : List Cond := u_ws RX8 TX8 6
theorem nmX8 : ∀ a, a < 6 → ∀ b, b < 6 → a ≠ b → (TX8 a).2.1 ≠ (TX8 b).2.1 := by decide +kernel
theorem tyX8_ok : ∀ k, k < 6 → parseFieldDescriptor (TX8 k).2.2.1 = some (tyX8 k) := by decide +kernel
abbrev cX8_init : ByteArray := prog_10_method_1_code
def yX8_init : MethodName := ⟨RX8, "<init>", "()V"⟩
abbrev cX8_startOn : ByteArray := prog_10_method_2_code
def yX8_startOn : MethodName := ⟨RX8, "startOn", "(I)V"⟩
abbrev cX8_copyFrom : ByteArray := prog_10_method_3_code
def yX8_copyFrom : MethodName := ⟨RX8, "copyFrom", "(LVetoHouse$Sitting;)V"⟩
abbrev cX8_close : ByteArray := prog_10_method_4_code
def yX8_close : MethodName := ⟨RX8, "close", "()V"⟩
abbrev cX8_freeLaws : ByteArray := prog_10_method_5_code
def yX8_freeLaws : MethodName := ⟨RX8, "freeLaws", "()I"⟩
def RX9 : String := "VetoHouse$Text"
def TX9 : u_T := fun k => match k with
  | 0 => ("VetoHouse$Text", "bytes", "[B", true)
  | 1 => ("VetoHouse$Text", "length", "I", false)
  | 2 => ("VetoHouse$Text", "start", "I", false)
  | 3 => ("VetoHouse$Text", "behind", "I", false)
  | 4 => ("VetoHouse$Text", "sort", "I", false)
  | _ => ("VetoHouse$Text", "value", "I", false)
def tyX9 : Nat → FieldType := fun k => match k with
  | 0 => .array .byte
  | 1 => .int
  | 2 => .int
  | 3 => .int
  | 4 => .int
  | _ => .int
abbrev wsX90 : List Cond := u_ws RX9 TX9 6
theorem nmX9 : ∀ a, a < 6 → ∀ b, b < 6 → a ≠ b → (TX9 a).2.1 ≠ (TX9 b).2.1 := by decide +kernel
theorem tyX9_ok : ∀ k, k < 6 → parseFieldDescriptor (TX9 k).2.2.1 = some (tyX9 k) := by decide +kernel
abbrev cX9_init : ByteArray := prog_11_method_1_code
def yX9_init : MethodName := ⟨RX9, "<init>", "()V"⟩
abbrev cX9_append : ByteArray := prog_11_method_2_code
def yX9_append : MethodName := ⟨RX9, "append", "(I)V"⟩
abbrev cX9_rewind : ByteArray := prog_11_method_3_code
def yX9_rewind : MethodName := ⟨RX9, "rewind", "()V"⟩
abbrev cX9_step : ByteArray := prog_11_method_4_code
def yX9_step : MethodName := ⟨RX9, "step", "()V"⟩
abbrev cX9_isAtEnd : ByteArray := prog_11_method_5_code
def yX9_isAtEnd : MethodName := ⟨RX9, "isAtEnd", "()Z"⟩
abbrev cX9_isWord : ByteArray := prog_11_method_6_code
def yX9_isWord : MethodName := ⟨RX9, "isWord", "(Ljava/lang/String;)Z"⟩
abbrev cX9_takeNumber : ByteArray := prog_11_method_7_code
def yX9_takeNumber : MethodName := ⟨RX9, "takeNumber", "(I)I"⟩
abbrev cX9_takeLaws : ByteArray := prog_11_method_8_code
def yX9_takeLaws : MethodName := ⟨RX9, "takeLaws", "()I"⟩
abbrev cX9_takeMark : ByteArray := prog_11_method_9_code
def yX9_takeMark : MethodName := ⟨RX9, "takeMark", "()Z"⟩
abbrev cX9_endOfRun : ByteArray := prog_11_method_10_code
def yX9_endOfRun : MethodName := ⟨RX9, "endOfRun", "(III)I"⟩
abbrev cX9_numberAt : ByteArray := prog_11_method_11_code
def yX9_numberAt : MethodName := ⟨RX9, "numberAt", "(II)I"⟩
abbrev cX9_byteAt : ByteArray := prog_11_method_12_code
def yX9_byteAt : MethodName := ⟨RX9, "byteAt", "(I)I"⟩
def RX10 : String := "VetoHouse$Timid"
def TX10 : u_T := fun k => match k with
  | _ => ("", "", "", false)
def tyX10 : Nat → FieldType := fun k => match k with
  | _ => .int
abbrev wsX100 : List Cond := u_ws RX10 TX10 0
theorem nmX10 : ∀ a, a < 0 → ∀ b, b < 0 → a ≠ b → (TX10 a).2.1 ≠ (TX10 b).2.1 := by decide +kernel
theorem tyX10_ok : ∀ k, k < 0 → parseFieldDescriptor (TX10 k).2.2.1 = some (tyX10 k) := by decide +kernel
abbrev cX10_init : ByteArray := prog_12_method_1_code
def yX10_init : MethodName := ⟨RX10, "<init>", "()V"⟩
abbrev cX10_joyBy : ByteArray := prog_12_method_2_code
def yX10_joyBy : MethodName := ⟨RX10, "joyBy", "(II)I"⟩
def RX11 : String := "VetoHouse"
def TX11 : u_T := fun k => match k with
  | 0 => ("VetoHouse", "kinds", "[LVetoHouse$Plain;", true)
  | 1 => ("VetoHouse", "now", "LVetoHouse$House;", true)
  | 2 => ("VetoHouse", "draft", "LVetoHouse$House;", true)
  | 3 => ("VetoHouse", "images", "[LVetoHouse$House;", true)
  | 4 => ("VetoHouse", "kept", "[Z", true)
  | 5 => ("VetoHouse", "trial", "LVetoHouse$Sitting;", true)
  | 6 => ("VetoHouse", "text", "LVetoHouse$Text;", true)
  | 7 => ("VetoHouse", "above", "J", false)
  | 8 => ("VetoHouse", "below", "J", false)
  | 9 => ("VetoHouse", "bads", "I", false)
  | 10 => ("VetoHouse", "noes", "I", false)
  | _ => ("VetoHouse", "fulls", "I", false)
def tyX11 : Nat → FieldType := fun k => match k with
  | 0 => .array (.object "VetoHouse$Plain")
  | 1 => .object "VetoHouse$House"
  | 2 => .object "VetoHouse$House"
  | 3 => .array (.object "VetoHouse$House")
  | 4 => .array .boolean
  | 5 => .object "VetoHouse$Sitting"
  | 6 => .object "VetoHouse$Text"
  | 7 => .long
  | 8 => .long
  | 9 => .int
  | 10 => .int
  | _ => .int
abbrev wsX110 : List Cond := u_ws RX11 TX11 12
theorem nmX11 : ∀ a, a < 12 → ∀ b, b < 12 → a ≠ b → (TX11 a).2.1 ≠ (TX11 b).2.1 := by decide +kernel
theorem tyX11_ok : ∀ k, k < 12 → parseFieldDescriptor (TX11 k).2.2.1 = some (tyX11 k) := by decide +kernel
abbrev cX11_init : ByteArray := prog_1_method_1_code
def yX11_init : MethodName := ⟨RX11, "<init>", "()V"⟩
abbrev cX11_house : ByteArray := prog_1_method_2_code
def yX11_house : MethodName := ⟨RX11, "house", "(I)I"⟩
abbrev cX11_deputy : ByteArray := prog_1_method_3_code
def yX11_deputy : MethodName := ⟨RX11, "deputy", "(IIII)I"⟩
abbrev cX11_type : ByteArray := prog_1_method_4_code
def yX11_type : MethodName := ⟨RX11, "type", "(I)I"⟩
abbrev cX11_clear : ByteArray := prog_1_method_5_code
def yX11_clear : MethodName := ⟨RX11, "clear", "()I"⟩
abbrev cX11_read : ByteArray := prog_1_method_6_code
def yX11_read : MethodName := ⟨RX11, "read", "()I"⟩
abbrev cX11_moves : ByteArray := prog_1_method_7_code
def yX11_moves : MethodName := ⟨RX11, "moves", "(I)I"⟩
abbrev cX11_end : ByteArray := prog_1_method_8_code
def yX11_end : MethodName := ⟨RX11, "end", "()I"⟩
abbrev cX11_buy : ByteArray := prog_1_method_9_code
def yX11_buy : MethodName := ⟨RX11, "buy", "(I)I"⟩
abbrev cX11_lock : ByteArray := prog_1_method_10_code
def yX11_lock : MethodName := ⟨RX11, "lock", "(I)I"⟩
abbrev cX11_undo : ByteArray := prog_1_method_11_code
def yX11_undo : MethodName := ⟨RX11, "undo", "()I"⟩
abbrev cX11_of : ByteArray := prog_1_method_12_code
def yX11_of : MethodName := ⟨RX11, "of", "(II)I"⟩
abbrev cX11_joy : ByteArray := prog_1_method_13_code
def yX11_joy : MethodName := ⟨RX11, "joy", "(II)I"⟩
abbrev cX11_acts : ByteArray := prog_1_method_14_code
def yX11_acts : MethodName := ⟨RX11, "acts", "(I)I"⟩
abbrev cX11_stops : ByteArray := prog_1_method_15_code
def yX11_stops : MethodName := ⟨RX11, "stops", "(I)I"⟩
abbrev cX11_most : ByteArray := prog_1_method_16_code
def yX11_most : MethodName := ⟨RX11, "most", "()I"⟩
abbrev cX11_money : ByteArray := prog_1_method_17_code
def yX11_money : MethodName := ⟨RX11, "money", "(II)I"⟩
abbrev cX11_tied : ByteArray := prog_1_method_18_code
def yX11_tied : MethodName := ⟨RX11, "tied", "(I)I"⟩
abbrev cX11_alone : ByteArray := prog_1_method_19_code
def yX11_alone : MethodName := ⟨RX11, "alone", "()I"⟩
abbrev cX11_league : ByteArray := prog_1_method_20_code
def yX11_league : MethodName := ⟨RX11, "league", "()I"⟩
abbrev cX11_courts : ByteArray := prog_1_method_21_code
def yX11_courts : MethodName := ⟨RX11, "courts", "(I)I"⟩
abbrev cX11_gone : ByteArray := prog_1_method_22_code
def yX11_gone : MethodName := ⟨RX11, "gone", "(I)I"⟩
abbrev cX11_note : ByteArray := prog_1_method_23_code
def yX11_note : MethodName := ⟨RX11, "note", "(IIII)I"⟩
abbrev cX11_forget : ByteArray := prog_1_method_24_code
def yX11_forget : MethodName := ⟨RX11, "forget", "()I"⟩
abbrev cX11_is : ByteArray := prog_1_method_25_code
def yX11_is : MethodName := ⟨RX11, "is", "(I)I"⟩
abbrev cX11_holds : ByteArray := prog_1_method_26_code
def yX11_holds : MethodName := ⟨RX11, "holds", "(II)I"⟩
abbrev cX11_tryNext : ByteArray := prog_1_method_27_code
def yX11_tryNext : MethodName := ⟨RX11, "tryNext", "(I)I"⟩
abbrev cX11_away : ByteArray := prog_1_method_28_code
def yX11_away : MethodName := ⟨RX11, "away", "(II)I"⟩
abbrev cX11_diets : ByteArray := prog_1_method_29_code
def yX11_diets : MethodName := ⟨RX11, "diets", "(II)I"⟩
abbrev cX11_part : ByteArray := prog_1_method_30_code
def yX11_part : MethodName := ⟨RX11, "part", "(I)J"⟩
abbrev cX11_image : ByteArray := prog_1_method_31_code
def yX11_image : MethodName := ⟨RX11, "image", "(I)I"⟩
abbrev cX11_from : ByteArray := prog_1_method_32_code
def yX11_from : MethodName := ⟨RX11, "from", "(I)I"⟩
abbrev cX11_status : ByteArray := prog_1_method_33_code
def yX11_status : MethodName := ⟨RX11, "status", "(I)I"⟩
abbrev cX11_count : ByteArray := prog_1_method_34_code
def yX11_count : MethodName := ⟨RX11, "count", "(I)I"⟩
abbrev cX11_digest : ByteArray := prog_1_method_35_code
def yX11_digest : MethodName := ⟨RX11, "digest", "()J"⟩
abbrev cX11_within : ByteArray := prog_1_method_36_code
def yX11_within : MethodName := ⟨RX11, "within", "(II)Z"⟩
abbrev cX11_isBundle : ByteArray := prog_1_method_37_code
def yX11_isBundle : MethodName := ⟨RX11, "isBundle", "(I)Z"⟩
abbrev cX11_oneIf : ByteArray := prog_1_method_38_code
def yX11_oneIf : MethodName := ⟨RX11, "oneIf", "(Z)I"⟩
abbrev cX11_bitOf : ByteArray := prog_1_method_39_code
def yX11_bitOf : MethodName := ⟨RX11, "bitOf", "(I)I"⟩
abbrev cX11_refuse : ByteArray := prog_1_method_40_code
def yX11_refuse : MethodName := ⟨RX11, "refuse", "(I)I"⟩
abbrev cX11_kindAt : ByteArray := prog_1_method_41_code
def yX11_kindAt : MethodName := ⟨RX11, "kindAt", "(I)LVetoHouse$Plain;"⟩
abbrev cX11_costOf : ByteArray := prog_1_method_42_code
def yX11_costOf : MethodName := ⟨RX11, "costOf", "(LVetoHouse$Deputy;)I"⟩
abbrev cX11_costOfAll : ByteArray := prog_1_method_43_code
def yX11_costOfAll : MethodName := ⟨RX11, "costOfAll", "(I)I"⟩
abbrev cX11_joyFor : ByteArray := prog_1_method_44_code
def yX11_joyFor : MethodName := ⟨RX11, "joyFor", "(LVetoHouse$Deputy;I)I"⟩
abbrev cX11_gladOf : ByteArray := prog_1_method_45_code
def yX11_gladOf : MethodName := ⟨RX11, "gladOf", "(I)I"⟩
abbrev cX11_wouldStop : ByteArray := prog_1_method_46_code
def yX11_wouldStop : MethodName := ⟨RX11, "wouldStop", "(IIIII)Z"⟩
abbrev cX11_stoppers : ByteArray := prog_1_method_47_code
def yX11_stoppers : MethodName := ⟨RX11, "stoppers", "(LVetoHouse$Sitting;I)I"⟩
abbrev cX11_moveIn : ByteArray := prog_1_method_48_code
def yX11_moveIn : MethodName := ⟨RX11, "moveIn", "(LVetoHouse$Sitting;I)I"⟩
abbrev cX11_bestBundle : ByteArray := prog_1_method_49_code
def yX11_bestBundle : MethodName := ⟨RX11, "bestBundle", "(II)I"⟩
abbrev cX11_stoppedBetween : ByteArray := prog_1_method_50_code
def yX11_stoppedBetween : MethodName := ⟨RX11, "stoppedBetween", "(IIII)Z"⟩
abbrev cX11_pairRests : ByteArray := prog_1_method_51_code
def yX11_pairRests : MethodName := ⟨RX11, "pairRests", "(IIII)Z"⟩
abbrev cX11_notesFit : ByteArray := prog_1_method_52_code
def yX11_notesFit : MethodName := ⟨RX11, "notesFit", "(IIII)Z"⟩
abbrev cX11_kindsThatFit : ByteArray := prog_1_method_53_code
def yX11_kindsThatFit : MethodName := ⟨RX11, "kindsThatFit", "(ILVetoHouse$Deputy;)I"⟩
abbrev cX11_kindsThatStop : ByteArray := prog_1_method_54_code
def yX11_kindsThatStop : MethodName := ⟨RX11, "kindsThatStop", "(LVetoHouse$Deputy;I)I"⟩
abbrev cX11_howMany : ByteArray := prog_1_method_55_code
def yX11_howMany : MethodName := ⟨RX11, "howMany", "(I)I"⟩
abbrev cX11_deputyIntoDigest : ByteArray := prog_1_method_56_code
def yX11_deputyIntoDigest : MethodName := ⟨RX11, "deputyIntoDigest", "(JI)J"⟩
abbrev cX11_noteIntoDigest : ByteArray := prog_1_method_57_code
def yX11_noteIntoDigest : MethodName := ⟨RX11, "noteIntoDigest", "(JI)J"⟩
def RX12 : String := "VetoHouseModel"
def TX12 : u_T := fun k => match k with
  | 0 => ("VetoHouseModel", "now", "[I", true)
  | 1 => ("VetoHouseModel", "kept", "[I", true)
  | 2 => ("VetoHouseModel", "isKept", "[Z", true)
  | 3 => ("VetoHouseModel", "refused", "[I", true)
  | 4 => ("VetoHouseModel", "above", "J", false)
  | 5 => ("VetoHouseModel", "below", "J", false)
  | 6 => ("VetoHouseModel", "kinds", "[I", true)
  | 7 => ("VetoHouseModel", "loves", "[I", true)
  | 8 => ("VetoHouseModel", "hates", "[I", true)
  | 9 => ("VetoHouseModel", "silent", "I", false)
  | 10 => ("VetoHouseModel", "today", "I", false)
  | 11 => ("VetoHouseModel", "bytes", "[I", true)
  | 12 => ("VetoHouseModel", "bytesLong", "I", false)
  | 13 => ("VetoHouseModel", "tokenAt", "I", false)
  | 14 => ("VetoHouseModel", "tokenLong", "I", false)
  | 15 => ("VetoHouseModel", "token", "I", false)
  | 16 => ("VetoHouseModel", "value", "I", false)
  | 17 => ("VetoHouseModel", "anew", "[I", true)
  | _ => ("VetoHouseModel", "values", "[I", true)
def tyX12 : Nat → FieldType := fun k => match k with
  | 0 => .array .int
  | 1 => .array .int
  | 2 => .array .boolean
  | 3 => .array .int
  | 4 => .long
  | 5 => .long
  | 6 => .array .int
  | 7 => .array .int
  | 8 => .array .int
  | 9 => .int
  | 10 => .int
  | 11 => .array .int
  | 12 => .int
  | 13 => .int
  | 14 => .int
  | 15 => .int
  | 16 => .int
  | 17 => .array .int
  | _ => .array .int
abbrev wsX120 : List Cond := u_ws RX12 TX12 19
theorem nmX12 : ∀ a, a < 19 → ∀ b, b < 19 → a ≠ b → (TX12 a).2.1 ≠ (TX12 b).2.1 := by decide +kernel
theorem tyX12_ok : ∀ k, k < 19 → parseFieldDescriptor (TX12 k).2.2.1 = some (tyX12 k) := by decide +kernel
abbrev cX12_init : ByteArray := prog_14_method_1_code
def yX12_init : MethodName := ⟨RX12, "<init>", "()V"⟩
abbrev cX12_in : ByteArray := prog_14_method_3_code
def yX12_in : MethodName := ⟨RX12, "in", "(JJJ)Z"⟩
abbrev cX12_bad : ByteArray := prog_14_method_4_code
def yX12_bad : MethodName := ⟨RX12, "bad", "(I)I"⟩
abbrev cX12_no : ByteArray := prog_14_method_5_code
def yX12_no : MethodName := ⟨RX12, "no", "()I"⟩
abbrev cX12_full : ByteArray := prog_14_method_6_code
def yX12_full : MethodName := ⟨RX12, "full", "()I"⟩
abbrev cX12_bits : ByteArray := prog_14_method_7_code
def yX12_bits : MethodName := ⟨RX12, "bits", "(I)I"⟩
abbrev cX12_has : ByteArray := prog_14_method_8_code
def yX12_has : MethodName := ⟨RX12, "has", "(II)Z"⟩
abbrev cX12_begin : ByteArray := prog_14_method_9_code
def yX12_begin : MethodName := ⟨RX12, "begin", "([II)V"⟩
abbrev cX12_many : ByteArray := prog_14_method_10_code
def yX12_many : MethodName := ⟨RX12, "many", "()I"⟩
abbrev cX12_isDeputy : ByteArray := prog_14_method_11_code
def yX12_isDeputy : MethodName := ⟨RX12, "isDeputy", "(I)Z"⟩
abbrev cX12_isBundle : ByteArray := prog_14_method_12_code
def yX12_isBundle : MethodName := ⟨RX12, "isBundle", "(I)Z"⟩
abbrev cX12_get : ByteArray := prog_14_method_13_code
def yX12_get : MethodName := ⟨RX12, "get", "(II)I"⟩
abbrev cX12_house : ByteArray := prog_14_method_14_code
def yX12_house : MethodName := ⟨RX12, "house", "(I)I"⟩
abbrev cX12_layDeputy : ByteArray := prog_14_method_15_code
def yX12_layDeputy : MethodName := ⟨RX12, "layDeputy", "([IIIII)V"⟩
abbrev cX12_deputy : ByteArray := prog_14_method_16_code
def yX12_deputy : MethodName := ⟨RX12, "deputy", "(IIII)I"⟩
abbrev cX12_layHand : ByteArray := prog_14_method_17_code
def yX12_layHand : MethodName := ⟨RX12, "layHand", "()V"⟩
abbrev cX12_joyOf : ByteArray := prog_14_method_18_code
def yX12_joyOf : MethodName := ⟨RX12, "joyOf", "(II)I"⟩
abbrev cX12_stopsOf : ByteArray := prog_14_method_19_code
def yX12_stopsOf : MethodName := ⟨RX12, "stopsOf", "(II)Z"⟩
abbrev cX12_stopping : ByteArray := prog_14_method_20_code
def yX12_stopping : MethodName := ⟨RX12, "stopping", "(I)I"⟩
abbrev cX12_costOf : ByteArray := prog_14_method_21_code
def yX12_costOf : MethodName := ⟨RX12, "costOf", "(I)I"⟩
abbrev cX12_free : ByteArray := prog_14_method_22_code
def yX12_free : MethodName := ⟨RX12, "free", "()I"⟩
abbrev cX12_keep : ByteArray := prog_14_method_23_code
def yX12_keep : MethodName := ⟨RX12, "keep", "()V"⟩
abbrev cX12_goEnd : ByteArray := prog_14_method_24_code
def yX12_goEnd : MethodName := ⟨RX12, "goEnd", "(I)V"⟩
abbrev cX12_moves : ByteArray := prog_14_method_25_code
def yX12_moves : MethodName := ⟨RX12, "moves", "(I)I"⟩
abbrev cX12_end : ByteArray := prog_14_method_26_code
def yX12_end : MethodName := ⟨RX12, "end", "()I"⟩
abbrev cX12_buy : ByteArray := prog_14_method_27_code
def yX12_buy : MethodName := ⟨RX12, "buy", "(I)I"⟩
abbrev cX12_lock : ByteArray := prog_14_method_28_code
def yX12_lock : MethodName := ⟨RX12, "lock", "(I)I"⟩
abbrev cX12_undo : ByteArray := prog_14_method_29_code
def yX12_undo : MethodName := ⟨RX12, "undo", "()I"⟩
abbrev cX12_of : ByteArray := prog_14_method_30_code
def yX12_of : MethodName := ⟨RX12, "of", "(II)I"⟩
abbrev cX12_joy : ByteArray := prog_14_method_31_code
def yX12_joy : MethodName := ⟨RX12, "joy", "(II)I"⟩
abbrev cX12_acts : ByteArray := prog_14_method_32_code
def yX12_acts : MethodName := ⟨RX12, "acts", "(I)I"⟩
abbrev cX12_stops : ByteArray := prog_14_method_33_code
def yX12_stops : MethodName := ⟨RX12, "stops", "(I)I"⟩
abbrev cX12_mostFree : ByteArray := prog_14_method_34_code
def yX12_mostFree : MethodName := ⟨RX12, "mostFree", "()I"⟩
abbrev cX12_most : ByteArray := prog_14_method_35_code
def yX12_most : MethodName := ⟨RX12, "most", "()I"⟩
abbrev cX12_costOfAll : ByteArray := prog_14_method_36_code
def yX12_costOfAll : MethodName := ⟨RX12, "costOfAll", "(I)I"⟩
abbrev cX12_money : ByteArray := prog_14_method_37_code
def yX12_money : MethodName := ⟨RX12, "money", "(II)I"⟩
abbrev cX12_tied : ByteArray := prog_14_method_38_code
def yX12_tied : MethodName := ⟨RX12, "tied", "(I)I"⟩
abbrev cX12_alone : ByteArray := prog_14_method_39_code
def yX12_alone : MethodName := ⟨RX12, "alone", "()I"⟩
abbrev cX12_league : ByteArray := prog_14_method_40_code
def yX12_league : MethodName := ⟨RX12, "league", "()I"⟩
abbrev cX12_isStopped : ByteArray := prog_14_method_41_code
def yX12_isStopped : MethodName := ⟨RX12, "isStopped", "(IIII)Z"⟩
abbrev cX12_courts : ByteArray := prog_14_method_42_code
def yX12_courts : MethodName := ⟨RX12, "courts", "(I)I"⟩
abbrev cX12_gone : ByteArray := prog_14_method_43_code
def yX12_gone : MethodName := ⟨RX12, "gone", "(I)I"⟩
abbrev cX12_note : ByteArray := prog_14_method_44_code
def yX12_note : MethodName := ⟨RX12, "note", "(IIII)I"⟩
abbrev cX12_forget : ByteArray := prog_14_method_45_code
def yX12_forget : MethodName := ⟨RX12, "forget", "()I"⟩
abbrev cX12_areSo : ByteArray := prog_14_method_46_code
def yX12_areSo : MethodName := ⟨RX12, "areSo", "(I)Z"⟩
abbrev cX12_kindsOf : ByteArray := prog_14_method_47_code
def yX12_kindsOf : MethodName := ⟨RX12, "kindsOf", "(I)I"⟩
abbrev cX12_is : ByteArray := prog_14_method_48_code
def yX12_is : MethodName := ⟨RX12, "is", "(I)I"⟩
abbrev cX12_holds : ByteArray := prog_14_method_49_code
def yX12_holds : MethodName := ⟨RX12, "holds", "(II)I"⟩
abbrev cX12_tryNext : ByteArray := prog_14_method_50_code
def yX12_tryNext : MethodName := ⟨RX12, "tryNext", "(I)I"⟩
abbrev cX12_fraction : ByteArray := prog_14_method_51_code
def yX12_fraction : MethodName := ⟨RX12, "fraction", "(JJ)V"⟩
abbrev cX12_away : ByteArray := prog_14_method_52_code
def yX12_away : MethodName := ⟨RX12, "away", "(II)I"⟩
abbrev cX12_diets : ByteArray := prog_14_method_53_code
def yX12_diets : MethodName := ⟨RX12, "diets", "(II)I"⟩
abbrev cX12_type : ByteArray := prog_14_method_54_code
def yX12_type : MethodName := ⟨RX12, "type", "(I)I"⟩
abbrev cX12_clear : ByteArray := prog_14_method_55_code
def yX12_clear : MethodName := ⟨RX12, "clear", "()I"⟩
abbrev cX12_isSmall : ByteArray := prog_14_method_56_code
def yX12_isSmall : MethodName := ⟨RX12, "isSmall", "(I)Z"⟩
abbrev cX12_isFigure : ByteArray := prog_14_method_57_code
def yX12_isFigure : MethodName := ⟨RX12, "isFigure", "(I)Z"⟩
abbrev cX12_lookAt : ByteArray := prog_14_method_58_code
def yX12_lookAt : MethodName := ⟨RX12, "lookAt", "(I)V"⟩
abbrev cX12_goBehind : ByteArray := prog_14_method_59_code
def yX12_goBehind : MethodName := ⟨RX12, "goBehind", "()V"⟩
abbrev cX12_spells : ByteArray := prog_14_method_60_code
def yX12_spells : MethodName := ⟨RX12, "spells", "(IIIIIII)Z"⟩
abbrev cX12_takes : ByteArray := prog_14_method_61_code
def yX12_takes : MethodName := ⟨RX12, "takes", "(III)Z"⟩
abbrev cX12_takesHouse : ByteArray := prog_14_method_62_code
def yX12_takesHouse : MethodName := ⟨RX12, "takesHouse", "()Z"⟩
abbrev cX12_takesDeputy : ByteArray := prog_14_method_63_code
def yX12_takesDeputy : MethodName := ⟨RX12, "takesDeputy", "()Z"⟩
abbrev cX12_takesLaws : ByteArray := prog_14_method_64_code
def yX12_takesLaws : MethodName := ⟨RX12, "takesLaws", "(I)Z"⟩
abbrev cX12_takesMind : ByteArray := prog_14_method_65_code
def yX12_takesMind : MethodName := ⟨RX12, "takesMind", "(I)Z"⟩
abbrev cX12_takesItem : ByteArray := prog_14_method_66_code
def yX12_takesItem : MethodName := ⟨RX12, "takesItem", "()Z"⟩
abbrev cX12_read : ByteArray := prog_14_method_67_code
def yX12_read : MethodName := ⟨RX12, "read", "()I"⟩
abbrev cX12_part : ByteArray := prog_14_method_68_code
def yX12_part : MethodName := ⟨RX12, "part", "(I)J"⟩
abbrev cX12_image : ByteArray := prog_14_method_69_code
def yX12_image : MethodName := ⟨RX12, "image", "(I)I"⟩
abbrev cX12_from : ByteArray := prog_14_method_70_code
def yX12_from : MethodName := ⟨RX12, "from", "(I)I"⟩
abbrev cX12_status : ByteArray := prog_14_method_71_code
def yX12_status : MethodName := ⟨RX12, "status", "(I)I"⟩
abbrev cX12_counted : ByteArray := prog_14_method_72_code
def yX12_counted : MethodName := ⟨RX12, "counted", "(I)I"⟩
abbrev cX12_count : ByteArray := prog_14_method_73_code
def yX12_count : MethodName := ⟨RX12, "count", "(I)I"⟩
abbrev cX12_sums : ByteArray := prog_14_method_74_code
def yX12_sums : MethodName := ⟨RX12, "sums", "(JII)J"⟩
abbrev cX12_digest : ByteArray := prog_14_method_75_code
def yX12_digest : MethodName := ⟨RX12, "digest", "()J"⟩
def RJ6 : String := "java/lang/Integer"
def TJ6 : u_T := fun k => match k with
  | _ => ("", "", "", false)
def tyJ6 : Nat → FieldType := fun k => match k with
  | _ => .int
abbrev wsJ60 : List Cond := u_ws RJ6 TJ6 0
theorem nmJ6 : ∀ a, a < 0 → ∀ b, b < 0 → a ≠ b → (TJ6 a).2.1 ≠ (TJ6 b).2.1 := by decide +kernel
theorem tyJ6_ok : ∀ k, k < 0 → parseFieldDescriptor (TJ6 k).2.2.1 = some (tyJ6 k) := by decide +kernel
abbrev cJ6_bitCount_0f7a4 : ByteArray := prog_15_method_49_code
def yJ6_bitCount_0f7a4 : MethodName := ⟨RJ6, "bitCount", "(I)I"⟩
def RJ9 : String := "java/lang/Math"
def TJ9 : u_T := fun k => match k with
  | _ => ("", "", "", false)
def tyJ9 : Nat → FieldType := fun k => match k with
  | _ => .int
abbrev wsJ90 : List Cond := u_ws RJ9 TJ9 0
theorem nmJ9 : ∀ a, a < 0 → ∀ b, b < 0 → a ≠ b → (TJ9 a).2.1 ≠ (TJ9 b).2.1 := by decide +kernel
theorem tyJ9_ok : ∀ k, k < 0 → parseFieldDescriptor (TJ9 k).2.2.1 = some (tyJ9 k) := by decide +kernel
abbrev cJ9_max_7cf53 : ByteArray := prog_16_method_65_code
def yJ9_max_7cf53 : MethodName := ⟨RJ9, "max", "(II)I"⟩
def RJ0 : String := "java/lang/String"
def TJ0 : u_T := fun k => match k with
  | _ => ("", "", "", false)
def tyJ0 : Nat → FieldType := fun k => match k with
  | _ => .int
abbrev wsJ00 : List Cond := u_ws RJ0 TJ0 0
theorem nmJ0 : ∀ a, a < 0 → ∀ b, b < 0 → a ≠ b → (TJ0 a).2.1 ≠ (TJ0 b).2.1 := by decide +kernel
theorem tyJ0_ok : ∀ k, k < 0 → parseFieldDescriptor (TJ0 k).2.2.1 = some (tyJ0 k) := by decide +kernel
abbrev cJ0_length_8abf5 : ByteArray := prog_17_method_54_code
def yJ0_length_8abf5 : MethodName := ⟨RJ0, "length", "()I"⟩
abbrev cJ0_charAt_5068e : ByteArray := prog_17_method_56_code
def yJ0_charAt_5068e : MethodName := ⟨RJ0, "charAt", "(I)C"⟩
abbrev cJ0_coder_7d493 : ByteArray := prog_17_method_152_code
def yJ0_coder_7d493 : MethodName := ⟨RJ0, "coder", "()B"⟩
abbrev cJ0_isLatin1_aae02 : ByteArray := prog_17_method_154_code
def yJ0_isLatin1_aae02 : MethodName := ⟨RJ0, "isLatin1", "()Z"⟩
abbrev cJ0_checkIndex_df160 : ByteArray := prog_17_method_155_code
def yJ0_checkIndex_df160 : MethodName := ⟨RJ0, "checkIndex", "(II)V"⟩
def RJ1 : String := "java/lang/StringLatin1"
def TJ1 : u_T := fun k => match k with
  | _ => ("", "", "", false)
def tyJ1 : Nat → FieldType := fun k => match k with
  | _ => .int
abbrev wsJ10 : List Cond := u_ws RJ1 TJ1 0
theorem nmJ1 : ∀ a, a < 0 → ∀ b, b < 0 → a ≠ b → (TJ1 a).2.1 ≠ (TJ1 b).2.1 := by decide +kernel
theorem tyJ1_ok : ∀ k, k < 0 → parseFieldDescriptor (TJ1 k).2.2.1 = some (tyJ1 k) := by decide +kernel
abbrev cJ1_charAt_3b067 : ByteArray := prog_18_method_2_code
def yJ1_charAt_3b067 : MethodName := ⟨RJ1, "charAt", "([BI)C"⟩
def RJ2 : String := "java/lang/StringUTF16"
def TJ2 : u_T := fun k => match k with
  | _ => ("", "", "", false)
def tyJ2 : Nat → FieldType := fun k => match k with
  | _ => .int
abbrev wsJ20 : List Cond := u_ws RJ2 TJ2 0
theorem nmJ2 : ∀ a, a < 0 → ∀ b, b < 0 → a ≠ b → (TJ2 a).2.1 ≠ (TJ2 b).2.1 := by decide +kernel
theorem tyJ2_ok : ∀ k, k < 0 → parseFieldDescriptor (TJ2 k).2.2.1 = some (tyJ2 k) := by decide +kernel
abbrev cJ2_getChar_3b067 : ByteArray := prog_19_method_5_code
def yJ2_getChar_3b067 : MethodName := ⟨RJ2, "getChar", "([BI)C"⟩
abbrev cJ2_length_9d52b : ByteArray := prog_19_method_6_code
def yJ2_length_9d52b : MethodName := ⟨RJ2, "length", "([B)I"⟩
abbrev cJ2_charAt_3b067 : ByteArray := prog_19_method_83_code
def yJ2_charAt_3b067 : MethodName := ⟨RJ2, "charAt", "([BI)C"⟩
abbrev cJ2_checkIndex_2214a : ByteArray := prog_19_method_91_code
def yJ2_checkIndex_2214a : MethodName := ⟨RJ2, "checkIndex", "(I[B)V"⟩
def RJ3 : String := "jdk/internal/util/Preconditions"
def TJ3 : u_T := fun k => match k with
  | _ => ("", "", "", false)
def tyJ3 : Nat → FieldType := fun k => match k with
  | _ => .int
abbrev wsJ30 : List Cond := u_ws RJ3 TJ3 0
theorem nmJ3 : ∀ a, a < 0 → ∀ b, b < 0 → a ≠ b → (TJ3 a).2.1 ≠ (TJ3 b).2.1 := by decide +kernel
theorem tyJ3_ok : ∀ k, k < 0 → parseFieldDescriptor (TJ3 k).2.2.1 = some (tyJ3 k) := by decide +kernel
abbrev cJ3_checkIndex_8e157 : ByteArray := prog_20_method_11_code
def yJ3_checkIndex_8e157 : MethodName := ⟨RJ3, "checkIndex", "(IILjava/util/function/BiFunction;)I"⟩
def RL : String := "VetoHouseLaw"
abbrev cL_law : ByteArray := code
def yL_law : MethodName := ⟨RL, "law", "([I)Z"⟩
abbrev vwCl : List vw_C := [(RX0, TX0, 4), (RX1, TX1, 7), (RX2, TX2, 0), (RX3, TX3, 0), (RX4, TX4, 4), (RX5, TX5, 0), (RX6, TX6, 0), (RX7, TX7, 0), (RX8, TX8, 6), (RX9, TX9, 6), (RX10, TX10, 0), (RX11, TX11, 12), (RX12, TX12, 19)]
end
section
/-! the tables' words, by their places -/
abbrev zT (w : Cond) : Prop := w ∈ lw_tbl ∧ goodWord w = true
theorem tw_0 : zT (Jvm.Cond.initialized "VetoHouseLaw") := ⟨List.mem_append_right _ (List.mem_of_getElem? (i := 0) (by decide +kernel)), rfl⟩
theorem tw_1 : zT (Jvm.Cond.initialized "VetoHouse") := ⟨List.mem_append_right _ (List.mem_of_getElem? (i := 1) (by decide +kernel)), rfl⟩
theorem tw_2 : zT (Jvm.Cond.initialized "VetoHouse$Plain") := ⟨List.mem_append_right _ (List.mem_of_getElem? (i := 2) (by decide +kernel)), rfl⟩
theorem tw_3 : zT (Jvm.Cond.initialized "VetoHouse$Proud") := ⟨List.mem_append_right _ (List.mem_of_getElem? (i := 3) (by decide +kernel)), rfl⟩
theorem tw_4 : zT (Jvm.Cond.initialized "VetoHouse$Timid") := ⟨List.mem_append_right _ (List.mem_of_getElem? (i := 4) (by decide +kernel)), rfl⟩
theorem tw_5 : zT (Jvm.Cond.initialized "VetoHouse$Poor") := ⟨List.mem_append_right _ (List.mem_of_getElem? (i := 5) (by decide +kernel)), rfl⟩
theorem tw_6 : zT (Jvm.Cond.initialized "VetoHouse$Late") := ⟨List.mem_append_right _ (List.mem_of_getElem? (i := 6) (by decide +kernel)), rfl⟩
theorem tw_7 : zT (Jvm.Cond.initialized "VetoHouse$Kept") := ⟨List.mem_append_right _ (List.mem_of_getElem? (i := 7) (by decide +kernel)), rfl⟩
theorem tw_8 : zT (Jvm.Cond.initialized "VetoHouse$House") := ⟨List.mem_append_right _ (List.mem_of_getElem? (i := 8) (by decide +kernel)), rfl⟩
theorem tw_9 : zT (Jvm.Cond.initialized "VetoHouse$Sitting") := ⟨List.mem_append_right _ (List.mem_of_getElem? (i := 9) (by decide +kernel)), rfl⟩
theorem tw_10 : zT (Jvm.Cond.initialized "VetoHouse$Deputy") := ⟨List.mem_append_right _ (List.mem_of_getElem? (i := 10) (by decide +kernel)), rfl⟩
theorem tw_11 : zT (Jvm.Cond.initialized "VetoHouse$Note") := ⟨List.mem_append_right _ (List.mem_of_getElem? (i := 11) (by decide +kernel)), rfl⟩
theorem tw_12 : zT (Jvm.Cond.initialized "VetoHouse$Text") := ⟨List.mem_append_right _ (List.mem_of_getElem? (i := 12) (by decide +kernel)), rfl⟩
theorem tw_13 : zT (Jvm.Cond.initialized "VetoHouseModel") := ⟨List.mem_append_right _ (List.mem_of_getElem? (i := 13) (by decide +kernel)), rfl⟩
theorem tw_14 : zT (Jvm.Cond.initialized "java/lang/Math") := ⟨List.mem_append_right _ (List.mem_of_getElem? (i := 14) (by decide +kernel)), rfl⟩
theorem tw_15 : zT (Jvm.Cond.initialized "java/lang/String") := ⟨List.mem_append_right _ (List.mem_of_getElem? (i := 15) (by decide +kernel)), rfl⟩
theorem tw_16 : zT (Jvm.Cond.initialized "java/lang/StringLatin1") := ⟨List.mem_append_right _ (List.mem_of_getElem? (i := 16) (by decide +kernel)), rfl⟩
theorem tw_17 : zT (Jvm.Cond.initialized "jdk/internal/util/Preconditions") := ⟨List.mem_append_right _ (List.mem_of_getElem? (i := 17) (by decide +kernel)), rfl⟩
theorem tw_18 : zT (Jvm.Cond.initialized "java/lang/StringUTF16") := ⟨List.mem_append_right _ (List.mem_of_getElem? (i := 18) (by decide +kernel)), rfl⟩
theorem tw_19 : zT (Jvm.Cond.initialized "java/lang/Integer") := ⟨List.mem_append_right _ (List.mem_of_getElem? (i := 19) (by decide +kernel)), rfl⟩
theorem tw_20 : zT (Jvm.Cond.classLink "VetoHouseLaw" (7 : Nat) "VetoHouse") := ⟨List.mem_append_right _ (List.mem_of_getElem? (i := 20) (by decide +kernel)), rfl⟩
theorem tw_21 : zT (Jvm.Cond.instantiable "VetoHouse" (12 : Nat)) := ⟨List.mem_append_right _ (List.mem_of_getElem? (i := 21) (by decide +kernel)), rfl⟩
theorem tw_22 : zT (Jvm.Cond.methodLink "VetoHouseLaw" (9 : Nat) ({ cls := "VetoHouse", name := "<init>", desc := "()V" } : Jvm.MethodName)) := ⟨List.mem_append_right _ (List.mem_of_getElem? (i := 22) (by decide +kernel)), rfl⟩
theorem tw_23 : zT (Jvm.Cond.instanceMethod ({ cls := "VetoHouse", name := "<init>", desc := "()V" } : Jvm.MethodName)) := ⟨List.mem_append_right _ (List.mem_of_getElem? (i := 23) (by decide +kernel)), rfl⟩
theorem tw_24 : zT (Jvm.Cond.code ({ cls := "VetoHouse", name := "<init>", desc := "()V" } : Jvm.MethodName) prog_1_method_1_code (1 : Nat) (Option.none : Option Jvm.ClassFile.FieldType)) := ⟨List.mem_append_right _ (List.mem_of_getElem? (i := 24) (by decide +kernel)), rfl⟩
theorem tw_25 : zT (Jvm.Cond.methodLink "VetoHouse" (1 : Nat) ({ cls := "java/lang/Object", name := "<init>", desc := "()V" } : Jvm.MethodName)) := ⟨List.mem_append_right _ (List.mem_of_getElem? (i := 25) (by decide +kernel)), rfl⟩
theorem tw_26 : zT (Jvm.Cond.instanceMethod ({ cls := "java/lang/Object", name := "<init>", desc := "()V" } : Jvm.MethodName)) := ⟨List.mem_append_right _ (List.mem_of_getElem? (i := 26) (by decide +kernel)), rfl⟩
theorem tw_27 : zT (Jvm.Cond.code ({ cls := "java/lang/Object", name := "<init>", desc := "()V" } : Jvm.MethodName) object_method_1_code (1 : Nat) (Option.none : Option Jvm.ClassFile.FieldType)) := ⟨List.mem_append_right _ (List.mem_of_getElem? (i := 27) (by decide +kernel)), rfl⟩
theorem tw_28 : zT (Jvm.Cond.classLink "VetoHouse" (7 : Nat) "VetoHouse$Plain") := ⟨List.mem_append_right _ (List.mem_of_getElem? (i := 28) (by decide +kernel)), rfl⟩
theorem tw_30 : zT (Jvm.Cond.instantiable "VetoHouse$Plain" (0 : Nat)) := ⟨List.mem_append_right _ (List.mem_of_getElem? (i := 30) (by decide +kernel)), rfl⟩
theorem tw_32 : zT (Jvm.Cond.instanceMethod ({ cls := "VetoHouse$Plain", name := "<init>", desc := "()V" } : Jvm.MethodName)) := ⟨List.mem_append_right _ (List.mem_of_getElem? (i := 32) (by decide +kernel)), rfl⟩
theorem tw_33 : zT (Jvm.Cond.code ({ cls := "VetoHouse$Plain", name := "<init>", desc := "()V" } : Jvm.MethodName) prog_7_method_1_code (1 : Nat) (Option.none : Option Jvm.ClassFile.FieldType)) := ⟨List.mem_append_right _ (List.mem_of_getElem? (i := 33) (by decide +kernel)), rfl⟩
theorem tw_34 : zT (Jvm.Cond.methodLink "VetoHouse$Plain" (1 : Nat) ({ cls := "java/lang/Object", name := "<init>", desc := "()V" } : Jvm.MethodName)) := ⟨List.mem_append_right _ (List.mem_of_getElem? (i := 34) (by decide +kernel)), rfl⟩
theorem tw_35 : zT (Jvm.Cond.superclass "VetoHouse$Plain" "java/lang/Object") := ⟨List.mem_append_right _ (List.mem_of_getElem? (i := 35) (by decide +kernel)), rfl⟩
theorem tw_36 : zT (Jvm.Cond.classLink "VetoHouse" (10 : Nat) "VetoHouse$Proud") := ⟨List.mem_append_right _ (List.mem_of_getElem? (i := 36) (by decide +kernel)), rfl⟩
theorem tw_37 : zT (Jvm.Cond.instantiable "VetoHouse$Proud" (0 : Nat)) := ⟨List.mem_append_right _ (List.mem_of_getElem? (i := 37) (by decide +kernel)), rfl⟩
theorem tw_39 : zT (Jvm.Cond.instanceMethod ({ cls := "VetoHouse$Proud", name := "<init>", desc := "()V" } : Jvm.MethodName)) := ⟨List.mem_append_right _ (List.mem_of_getElem? (i := 39) (by decide +kernel)), rfl⟩
theorem tw_40 : zT (Jvm.Cond.code ({ cls := "VetoHouse$Proud", name := "<init>", desc := "()V" } : Jvm.MethodName) prog_9_method_1_code (1 : Nat) (Option.none : Option Jvm.ClassFile.FieldType)) := ⟨List.mem_append_right _ (List.mem_of_getElem? (i := 40) (by decide +kernel)), rfl⟩
theorem tw_42 : zT (Jvm.Cond.superclass "VetoHouse$Proud" "VetoHouse$Plain") := ⟨List.mem_append_right _ (List.mem_of_getElem? (i := 42) (by decide +kernel)), rfl⟩
theorem tw_43 : zT (Jvm.Cond.classLink "VetoHouse" (13 : Nat) "VetoHouse$Timid") := ⟨List.mem_append_right _ (List.mem_of_getElem? (i := 43) (by decide +kernel)), rfl⟩
theorem tw_44 : zT (Jvm.Cond.instantiable "VetoHouse$Timid" (0 : Nat)) := ⟨List.mem_append_right _ (List.mem_of_getElem? (i := 44) (by decide +kernel)), rfl⟩
theorem tw_46 : zT (Jvm.Cond.instanceMethod ({ cls := "VetoHouse$Timid", name := "<init>", desc := "()V" } : Jvm.MethodName)) := ⟨List.mem_append_right _ (List.mem_of_getElem? (i := 46) (by decide +kernel)), rfl⟩
theorem tw_47 : zT (Jvm.Cond.code ({ cls := "VetoHouse$Timid", name := "<init>", desc := "()V" } : Jvm.MethodName) prog_12_method_1_code (1 : Nat) (Option.none : Option Jvm.ClassFile.FieldType)) := ⟨List.mem_append_right _ (List.mem_of_getElem? (i := 47) (by decide +kernel)), rfl⟩
theorem tw_49 : zT (Jvm.Cond.superclass "VetoHouse$Timid" "VetoHouse$Plain") := ⟨List.mem_append_right _ (List.mem_of_getElem? (i := 49) (by decide +kernel)), rfl⟩
theorem tw_50 : zT (Jvm.Cond.classLink "VetoHouse" (16 : Nat) "VetoHouse$Poor") := ⟨List.mem_append_right _ (List.mem_of_getElem? (i := 50) (by decide +kernel)), rfl⟩
theorem tw_51 : zT (Jvm.Cond.instantiable "VetoHouse$Poor" (0 : Nat)) := ⟨List.mem_append_right _ (List.mem_of_getElem? (i := 51) (by decide +kernel)), rfl⟩
theorem tw_53 : zT (Jvm.Cond.instanceMethod ({ cls := "VetoHouse$Poor", name := "<init>", desc := "()V" } : Jvm.MethodName)) := ⟨List.mem_append_right _ (List.mem_of_getElem? (i := 53) (by decide +kernel)), rfl⟩
theorem tw_54 : zT (Jvm.Cond.code ({ cls := "VetoHouse$Poor", name := "<init>", desc := "()V" } : Jvm.MethodName) prog_8_method_1_code (1 : Nat) (Option.none : Option Jvm.ClassFile.FieldType)) := ⟨List.mem_append_right _ (List.mem_of_getElem? (i := 54) (by decide +kernel)), rfl⟩
theorem tw_56 : zT (Jvm.Cond.superclass "VetoHouse$Poor" "VetoHouse$Plain") := ⟨List.mem_append_right _ (List.mem_of_getElem? (i := 56) (by decide +kernel)), rfl⟩
theorem tw_57 : zT (Jvm.Cond.classLink "VetoHouse" (19 : Nat) "VetoHouse$Late") := ⟨List.mem_append_right _ (List.mem_of_getElem? (i := 57) (by decide +kernel)), rfl⟩
theorem tw_58 : zT (Jvm.Cond.instantiable "VetoHouse$Late" (0 : Nat)) := ⟨List.mem_append_right _ (List.mem_of_getElem? (i := 58) (by decide +kernel)), rfl⟩
theorem tw_60 : zT (Jvm.Cond.instanceMethod ({ cls := "VetoHouse$Late", name := "<init>", desc := "()V" } : Jvm.MethodName)) := ⟨List.mem_append_right _ (List.mem_of_getElem? (i := 60) (by decide +kernel)), rfl⟩
theorem tw_61 : zT (Jvm.Cond.code ({ cls := "VetoHouse$Late", name := "<init>", desc := "()V" } : Jvm.MethodName) prog_5_method_1_code (1 : Nat) (Option.none : Option Jvm.ClassFile.FieldType)) := ⟨List.mem_append_right _ (List.mem_of_getElem? (i := 61) (by decide +kernel)), rfl⟩
theorem tw_63 : zT (Jvm.Cond.superclass "VetoHouse$Late" "VetoHouse$Timid") := ⟨List.mem_append_right _ (List.mem_of_getElem? (i := 63) (by decide +kernel)), rfl⟩
theorem tw_64 : zT (Jvm.Cond.classLink "VetoHouse" (22 : Nat) "VetoHouse$Kept") := ⟨List.mem_append_right _ (List.mem_of_getElem? (i := 64) (by decide +kernel)), rfl⟩
theorem tw_65 : zT (Jvm.Cond.instantiable "VetoHouse$Kept" (0 : Nat)) := ⟨List.mem_append_right _ (List.mem_of_getElem? (i := 65) (by decide +kernel)), rfl⟩
theorem tw_67 : zT (Jvm.Cond.instanceMethod ({ cls := "VetoHouse$Kept", name := "<init>", desc := "()V" } : Jvm.MethodName)) := ⟨List.mem_append_right _ (List.mem_of_getElem? (i := 67) (by decide +kernel)), rfl⟩
theorem tw_68 : zT (Jvm.Cond.code ({ cls := "VetoHouse$Kept", name := "<init>", desc := "()V" } : Jvm.MethodName) prog_4_method_1_code (1 : Nat) (Option.none : Option Jvm.ClassFile.FieldType)) := ⟨List.mem_append_right _ (List.mem_of_getElem? (i := 68) (by decide +kernel)), rfl⟩
theorem tw_70 : zT (Jvm.Cond.superclass "VetoHouse$Kept" "VetoHouse$Proud") := ⟨List.mem_append_right _ (List.mem_of_getElem? (i := 70) (by decide +kernel)), rfl⟩
theorem tw_71 : zT (Jvm.Cond.classLink "VetoHouse" (31 : Nat) "VetoHouse$House") := ⟨List.mem_append_right _ (List.mem_of_getElem? (i := 71) (by decide +kernel)), rfl⟩
theorem tw_72 : zT (Jvm.Cond.instantiable "VetoHouse$House" (7 : Nat)) := ⟨List.mem_append_right _ (List.mem_of_getElem? (i := 72) (by decide +kernel)), rfl⟩
theorem tw_73 : zT (Jvm.Cond.methodLink "VetoHouse" (33 : Nat) ({ cls := "VetoHouse$House", name := "<init>", desc := "()V" } : Jvm.MethodName)) := ⟨List.mem_append_right _ (List.mem_of_getElem? (i := 73) (by decide +kernel)), rfl⟩
theorem tw_74 : zT (Jvm.Cond.instanceMethod ({ cls := "VetoHouse$House", name := "<init>", desc := "()V" } : Jvm.MethodName)) := ⟨List.mem_append_right _ (List.mem_of_getElem? (i := 74) (by decide +kernel)), rfl⟩
theorem tw_75 : zT (Jvm.Cond.code ({ cls := "VetoHouse$House", name := "<init>", desc := "()V" } : Jvm.MethodName) prog_3_method_1_code (2 : Nat) (Option.none : Option Jvm.ClassFile.FieldType)) := ⟨List.mem_append_right _ (List.mem_of_getElem? (i := 75) (by decide +kernel)), rfl⟩
theorem tw_76 : zT (Jvm.Cond.methodLink "VetoHouse$House" (3 : Nat) ({ cls := "java/lang/Object", name := "<init>", desc := "()V" } : Jvm.MethodName)) := ⟨List.mem_append_right _ (List.mem_of_getElem? (i := 76) (by decide +kernel)), rfl⟩
theorem tw_77 : zT (Jvm.Cond.classLink "VetoHouse$House" (9 : Nat) "VetoHouse$Sitting") := ⟨List.mem_append_right _ (List.mem_of_getElem? (i := 77) (by decide +kernel)), rfl⟩
theorem tw_78 : zT (Jvm.Cond.instantiable "VetoHouse$Sitting" (6 : Nat)) := ⟨List.mem_append_right _ (List.mem_of_getElem? (i := 78) (by decide +kernel)), rfl⟩
theorem tw_80 : zT (Jvm.Cond.instanceMethod ({ cls := "VetoHouse$Sitting", name := "<init>", desc := "()V" } : Jvm.MethodName)) := ⟨List.mem_append_right _ (List.mem_of_getElem? (i := 80) (by decide +kernel)), rfl⟩
theorem tw_81 : zT (Jvm.Cond.code ({ cls := "VetoHouse$Sitting", name := "<init>", desc := "()V" } : Jvm.MethodName) prog_10_method_1_code (1 : Nat) (Option.none : Option Jvm.ClassFile.FieldType)) := ⟨List.mem_append_right _ (List.mem_of_getElem? (i := 81) (by decide +kernel)), rfl⟩
theorem tw_82 : zT (Jvm.Cond.methodLink "VetoHouse$Sitting" (3 : Nat) ({ cls := "java/lang/Object", name := "<init>", desc := "()V" } : Jvm.MethodName)) := ⟨List.mem_append_right _ (List.mem_of_getElem? (i := 82) (by decide +kernel)), rfl⟩
theorem tw_83 : zT (Jvm.Cond.fieldLink "VetoHouse$Sitting" (9 : Nat) "VetoHouse$Sitting" "day" "I") := ⟨List.mem_append_right _ (List.mem_of_getElem? (i := 83) (by decide +kernel)), rfl⟩
theorem tw_84 : zT (Jvm.Cond.fieldLink "VetoHouse" (154 : Nat) "VetoHouse$Sitting" "day" "I") := ⟨List.mem_append_right _ (List.mem_of_getElem? (i := 84) (by decide +kernel)), rfl⟩
theorem tw_85 : zT (Jvm.Cond.fieldLink "VetoHouse$House" (132 : Nat) "VetoHouse$Sitting" "day" "I") := ⟨List.mem_append_right _ (List.mem_of_getElem? (i := 85) (by decide +kernel)), rfl⟩
theorem tw_86 : zT (Jvm.Cond.fieldLink "VetoHouse$Sitting" (15 : Nat) "VetoHouse$Sitting" "passed" "I") := ⟨List.mem_append_right _ (List.mem_of_getElem? (i := 86) (by decide +kernel)), rfl⟩
theorem tw_87 : zT (Jvm.Cond.fieldLink "VetoHouse" (179 : Nat) "VetoHouse$Sitting" "passed" "I") := ⟨List.mem_append_right _ (List.mem_of_getElem? (i := 87) (by decide +kernel)), rfl⟩
theorem tw_88 : zT (Jvm.Cond.fieldLink "VetoHouse$Sitting" (18 : Nat) "VetoHouse$Sitting" "force" "I") := ⟨List.mem_append_right _ (List.mem_of_getElem? (i := 88) (by decide +kernel)), rfl⟩
theorem tw_89 : zT (Jvm.Cond.fieldLink "VetoHouse" (125 : Nat) "VetoHouse$Sitting" "force" "I") := ⟨List.mem_append_right _ (List.mem_of_getElem? (i := 89) (by decide +kernel)), rfl⟩
theorem tw_90 : zT (Jvm.Cond.fieldLink "VetoHouse$House" (148 : Nat) "VetoHouse$Sitting" "force" "I") := ⟨List.mem_append_right _ (List.mem_of_getElem? (i := 90) (by decide +kernel)), rfl⟩
theorem tw_91 : zT (Jvm.Cond.fieldLink "VetoHouse$Sitting" (21 : Nat) "VetoHouse$Sitting" "bought" "I") := ⟨List.mem_append_right _ (List.mem_of_getElem? (i := 91) (by decide +kernel)), rfl⟩
theorem tw_92 : zT (Jvm.Cond.fieldLink "VetoHouse" (132 : Nat) "VetoHouse$Sitting" "bought" "I") := ⟨List.mem_append_right _ (List.mem_of_getElem? (i := 92) (by decide +kernel)), rfl⟩
theorem tw_93 : zT (Jvm.Cond.fieldLink "VetoHouse$Sitting" (24 : Nat) "VetoHouse$Sitting" "locked" "I") := ⟨List.mem_append_right _ (List.mem_of_getElem? (i := 93) (by decide +kernel)), rfl⟩
theorem tw_94 : zT (Jvm.Cond.fieldLink "VetoHouse" (145 : Nat) "VetoHouse$Sitting" "locked" "I") := ⟨List.mem_append_right _ (List.mem_of_getElem? (i := 94) (by decide +kernel)), rfl⟩
theorem tw_95 : zT (Jvm.Cond.fieldLink "VetoHouse$Sitting" (27 : Nat) "VetoHouse$Sitting" "spent" "I") := ⟨List.mem_append_right _ (List.mem_of_getElem? (i := 95) (by decide +kernel)), rfl⟩
theorem tw_96 : zT (Jvm.Cond.fieldLink "VetoHouse" (142 : Nat) "VetoHouse$Sitting" "spent" "I") := ⟨List.mem_append_right _ (List.mem_of_getElem? (i := 96) (by decide +kernel)), rfl⟩
theorem tw_97 : zT (Jvm.Cond.lays "VetoHouse$Sitting" "VetoHouse$Sitting" "day" "I") := ⟨List.mem_append_right _ (List.mem_of_getElem? (i := 97) (by decide +kernel)), rfl⟩
theorem tw_99 : zT (Jvm.Cond.lays "VetoHouse$Sitting" "VetoHouse$Sitting" "passed" "I") := ⟨List.mem_append_right _ (List.mem_of_getElem? (i := 99) (by decide +kernel)), rfl⟩
theorem tw_101 : zT (Jvm.Cond.lays "VetoHouse$Sitting" "VetoHouse$Sitting" "force" "I") := ⟨List.mem_append_right _ (List.mem_of_getElem? (i := 101) (by decide +kernel)), rfl⟩
theorem tw_103 : zT (Jvm.Cond.lays "VetoHouse$Sitting" "VetoHouse$Sitting" "bought" "I") := ⟨List.mem_append_right _ (List.mem_of_getElem? (i := 103) (by decide +kernel)), rfl⟩
theorem tw_105 : zT (Jvm.Cond.lays "VetoHouse$Sitting" "VetoHouse$Sitting" "locked" "I") := ⟨List.mem_append_right _ (List.mem_of_getElem? (i := 105) (by decide +kernel)), rfl⟩
theorem tw_107 : zT (Jvm.Cond.lays "VetoHouse$Sitting" "VetoHouse$Sitting" "spent" "I") := ⟨List.mem_append_right _ (List.mem_of_getElem? (i := 107) (by decide +kernel)), rfl⟩
theorem tw_109 : zT (Jvm.Cond.superclass "VetoHouse$Sitting" "java/lang/Object") := ⟨List.mem_append_right _ (List.mem_of_getElem? (i := 109) (by decide +kernel)), rfl⟩
theorem tw_110 : zT (Jvm.Cond.classLink "VetoHouse$House" (18 : Nat) "VetoHouse$Deputy") := ⟨List.mem_append_right _ (List.mem_of_getElem? (i := 110) (by decide +kernel)), rfl⟩
theorem tw_112 : zT (Jvm.Cond.instantiable "VetoHouse$Deputy" (4 : Nat)) := ⟨List.mem_append_right _ (List.mem_of_getElem? (i := 112) (by decide +kernel)), rfl⟩
theorem tw_114 : zT (Jvm.Cond.instanceMethod ({ cls := "VetoHouse$Deputy", name := "<init>", desc := "()V" } : Jvm.MethodName)) := ⟨List.mem_append_right _ (List.mem_of_getElem? (i := 114) (by decide +kernel)), rfl⟩
theorem tw_115 : zT (Jvm.Cond.code ({ cls := "VetoHouse$Deputy", name := "<init>", desc := "()V" } : Jvm.MethodName) prog_2_method_1_code (1 : Nat) (Option.none : Option Jvm.ClassFile.FieldType)) := ⟨List.mem_append_right _ (List.mem_of_getElem? (i := 115) (by decide +kernel)), rfl⟩
theorem tw_116 : zT (Jvm.Cond.methodLink "VetoHouse$Deputy" (1 : Nat) ({ cls := "java/lang/Object", name := "<init>", desc := "()V" } : Jvm.MethodName)) := ⟨List.mem_append_right _ (List.mem_of_getElem? (i := 116) (by decide +kernel)), rfl⟩
theorem tw_117 : zT (Jvm.Cond.fieldLink "VetoHouse$Deputy" (7 : Nat) "VetoHouse$Deputy" "kind" "I") := ⟨List.mem_append_right _ (List.mem_of_getElem? (i := 117) (by decide +kernel)), rfl⟩
theorem tw_118 : zT (Jvm.Cond.fieldLink "VetoHouse$House" (60 : Nat) "VetoHouse$Deputy" "kind" "I") := ⟨List.mem_append_right _ (List.mem_of_getElem? (i := 118) (by decide +kernel)), rfl⟩
theorem tw_119 : zT (Jvm.Cond.fieldLink "VetoHouse" (157 : Nat) "VetoHouse$Deputy" "kind" "I") := ⟨List.mem_append_right _ (List.mem_of_getElem? (i := 119) (by decide +kernel)), rfl⟩
theorem tw_120 : zT (Jvm.Cond.fieldLink "VetoHouse$Deputy" (13 : Nat) "VetoHouse$Deputy" "love" "I") := ⟨List.mem_append_right _ (List.mem_of_getElem? (i := 120) (by decide +kernel)), rfl⟩
theorem tw_121 : zT (Jvm.Cond.fieldLink "VetoHouse$House" (63 : Nat) "VetoHouse$Deputy" "love" "I") := ⟨List.mem_append_right _ (List.mem_of_getElem? (i := 121) (by decide +kernel)), rfl⟩
theorem tw_122 : zT (Jvm.Cond.fieldLink "VetoHouse" (162 : Nat) "VetoHouse$Deputy" "love" "I") := ⟨List.mem_append_right _ (List.mem_of_getElem? (i := 122) (by decide +kernel)), rfl⟩
theorem tw_123 : zT (Jvm.Cond.fieldLink "VetoHouse$Deputy" (16 : Nat) "VetoHouse$Deputy" "hate" "I") := ⟨List.mem_append_right _ (List.mem_of_getElem? (i := 123) (by decide +kernel)), rfl⟩
theorem tw_124 : zT (Jvm.Cond.fieldLink "VetoHouse$House" (66 : Nat) "VetoHouse$Deputy" "hate" "I") := ⟨List.mem_append_right _ (List.mem_of_getElem? (i := 124) (by decide +kernel)), rfl⟩
theorem tw_125 : zT (Jvm.Cond.fieldLink "VetoHouse" (165 : Nat) "VetoHouse$Deputy" "hate" "I") := ⟨List.mem_append_right _ (List.mem_of_getElem? (i := 125) (by decide +kernel)), rfl⟩
theorem tw_126 : zT (Jvm.Cond.fieldLink "VetoHouse$Deputy" (19 : Nat) "VetoHouse$Deputy" "price" "I") := ⟨List.mem_append_right _ (List.mem_of_getElem? (i := 126) (by decide +kernel)), rfl⟩
theorem tw_127 : zT (Jvm.Cond.fieldLink "VetoHouse$House" (69 : Nat) "VetoHouse$Deputy" "price" "I") := ⟨List.mem_append_right _ (List.mem_of_getElem? (i := 127) (by decide +kernel)), rfl⟩
theorem tw_128 : zT (Jvm.Cond.fieldLink "VetoHouse" (168 : Nat) "VetoHouse$Deputy" "price" "I") := ⟨List.mem_append_right _ (List.mem_of_getElem? (i := 128) (by decide +kernel)), rfl⟩
theorem tw_129 : zT (Jvm.Cond.lays "VetoHouse$Deputy" "VetoHouse$Deputy" "kind" "I") := ⟨List.mem_append_right _ (List.mem_of_getElem? (i := 129) (by decide +kernel)), rfl⟩
theorem tw_131 : zT (Jvm.Cond.lays "VetoHouse$Deputy" "VetoHouse$Deputy" "love" "I") := ⟨List.mem_append_right _ (List.mem_of_getElem? (i := 131) (by decide +kernel)), rfl⟩
theorem tw_133 : zT (Jvm.Cond.lays "VetoHouse$Deputy" "VetoHouse$Deputy" "hate" "I") := ⟨List.mem_append_right _ (List.mem_of_getElem? (i := 133) (by decide +kernel)), rfl⟩
theorem tw_135 : zT (Jvm.Cond.lays "VetoHouse$Deputy" "VetoHouse$Deputy" "price" "I") := ⟨List.mem_append_right _ (List.mem_of_getElem? (i := 135) (by decide +kernel)), rfl⟩
theorem tw_137 : zT (Jvm.Cond.superclass "VetoHouse$Deputy" "java/lang/Object") := ⟨List.mem_append_right _ (List.mem_of_getElem? (i := 137) (by decide +kernel)), rfl⟩
theorem tw_138 : zT (Jvm.Cond.classLink "VetoHouse$House" (25 : Nat) "VetoHouse$Note") := ⟨List.mem_append_right _ (List.mem_of_getElem? (i := 138) (by decide +kernel)), rfl⟩
theorem tw_140 : zT (Jvm.Cond.instantiable "VetoHouse$Note" (4 : Nat)) := ⟨List.mem_append_right _ (List.mem_of_getElem? (i := 140) (by decide +kernel)), rfl⟩
theorem tw_142 : zT (Jvm.Cond.instanceMethod ({ cls := "VetoHouse$Note", name := "<init>", desc := "()V" } : Jvm.MethodName)) := ⟨List.mem_append_right _ (List.mem_of_getElem? (i := 142) (by decide +kernel)), rfl⟩
theorem tw_143 : zT (Jvm.Cond.code ({ cls := "VetoHouse$Note", name := "<init>", desc := "()V" } : Jvm.MethodName) prog_6_method_1_code (1 : Nat) (Option.none : Option Jvm.ClassFile.FieldType)) := ⟨List.mem_append_right _ (List.mem_of_getElem? (i := 143) (by decide +kernel)), rfl⟩
theorem tw_144 : zT (Jvm.Cond.methodLink "VetoHouse$Note" (1 : Nat) ({ cls := "java/lang/Object", name := "<init>", desc := "()V" } : Jvm.MethodName)) := ⟨List.mem_append_right _ (List.mem_of_getElem? (i := 144) (by decide +kernel)), rfl⟩
theorem tw_145 : zT (Jvm.Cond.fieldLink "VetoHouse$Note" (7 : Nat) "VetoHouse$Note" "deputy" "I") := ⟨List.mem_append_right _ (List.mem_of_getElem? (i := 145) (by decide +kernel)), rfl⟩
theorem tw_146 : zT (Jvm.Cond.fieldLink "VetoHouse$House" (72 : Nat) "VetoHouse$Note" "deputy" "I") := ⟨List.mem_append_right _ (List.mem_of_getElem? (i := 146) (by decide +kernel)), rfl⟩
theorem tw_147 : zT (Jvm.Cond.fieldLink "VetoHouse" (287 : Nat) "VetoHouse$Note" "deputy" "I") := ⟨List.mem_append_right _ (List.mem_of_getElem? (i := 147) (by decide +kernel)), rfl⟩
theorem tw_148 : zT (Jvm.Cond.fieldLink "VetoHouse$Note" (13 : Nat) "VetoHouse$Note" "bundle" "I") := ⟨List.mem_append_right _ (List.mem_of_getElem? (i := 148) (by decide +kernel)), rfl⟩
theorem tw_149 : zT (Jvm.Cond.fieldLink "VetoHouse$House" (75 : Nat) "VetoHouse$Note" "bundle" "I") := ⟨List.mem_append_right _ (List.mem_of_getElem? (i := 149) (by decide +kernel)), rfl⟩
theorem tw_150 : zT (Jvm.Cond.fieldLink "VetoHouse" (292 : Nat) "VetoHouse$Note" "bundle" "I") := ⟨List.mem_append_right _ (List.mem_of_getElem? (i := 150) (by decide +kernel)), rfl⟩
theorem tw_151 : zT (Jvm.Cond.fieldLink "VetoHouse$Note" (16 : Nat) "VetoHouse$Note" "day" "I") := ⟨List.mem_append_right _ (List.mem_of_getElem? (i := 151) (by decide +kernel)), rfl⟩
theorem tw_152 : zT (Jvm.Cond.fieldLink "VetoHouse$House" (78 : Nat) "VetoHouse$Note" "day" "I") := ⟨List.mem_append_right _ (List.mem_of_getElem? (i := 152) (by decide +kernel)), rfl⟩
theorem tw_153 : zT (Jvm.Cond.fieldLink "VetoHouse" (295 : Nat) "VetoHouse$Note" "day" "I") := ⟨List.mem_append_right _ (List.mem_of_getElem? (i := 153) (by decide +kernel)), rfl⟩
theorem tw_154 : zT (Jvm.Cond.fieldLink "VetoHouse$Note" (19 : Nat) "VetoHouse$Note" "stopped" "I") := ⟨List.mem_append_right _ (List.mem_of_getElem? (i := 154) (by decide +kernel)), rfl⟩
theorem tw_155 : zT (Jvm.Cond.fieldLink "VetoHouse$House" (81 : Nat) "VetoHouse$Note" "stopped" "I") := ⟨List.mem_append_right _ (List.mem_of_getElem? (i := 155) (by decide +kernel)), rfl⟩
theorem tw_156 : zT (Jvm.Cond.fieldLink "VetoHouse" (296 : Nat) "VetoHouse$Note" "stopped" "I") := ⟨List.mem_append_right _ (List.mem_of_getElem? (i := 156) (by decide +kernel)), rfl⟩
theorem tw_157 : zT (Jvm.Cond.lays "VetoHouse$Note" "VetoHouse$Note" "deputy" "I") := ⟨List.mem_append_right _ (List.mem_of_getElem? (i := 157) (by decide +kernel)), rfl⟩
theorem tw_159 : zT (Jvm.Cond.lays "VetoHouse$Note" "VetoHouse$Note" "bundle" "I") := ⟨List.mem_append_right _ (List.mem_of_getElem? (i := 159) (by decide +kernel)), rfl⟩
theorem tw_161 : zT (Jvm.Cond.lays "VetoHouse$Note" "VetoHouse$Note" "day" "I") := ⟨List.mem_append_right _ (List.mem_of_getElem? (i := 161) (by decide +kernel)), rfl⟩
theorem tw_163 : zT (Jvm.Cond.lays "VetoHouse$Note" "VetoHouse$Note" "stopped" "I") := ⟨List.mem_append_right _ (List.mem_of_getElem? (i := 163) (by decide +kernel)), rfl⟩
theorem tw_165 : zT (Jvm.Cond.superclass "VetoHouse$Note" "java/lang/Object") := ⟨List.mem_append_right _ (List.mem_of_getElem? (i := 165) (by decide +kernel)), rfl⟩
theorem tw_167 : zT (Jvm.Cond.fieldLink "VetoHouse$House" (12 : Nat) "VetoHouse$House" "sitting" "LVetoHouse$Sitting;") := ⟨List.mem_append_right _ (List.mem_of_getElem? (i := 167) (by decide +kernel)), rfl⟩
theorem tw_168 : zT (Jvm.Cond.fieldLink "VetoHouse" (108 : Nat) "VetoHouse$House" "sitting" "LVetoHouse$Sitting;") := ⟨List.mem_append_right _ (List.mem_of_getElem? (i := 168) (by decide +kernel)), rfl⟩
theorem tw_169 : zT (Jvm.Cond.fieldLink "VetoHouse$House" (20 : Nat) "VetoHouse$House" "deputies" "[LVetoHouse$Deputy;") := ⟨List.mem_append_right _ (List.mem_of_getElem? (i := 169) (by decide +kernel)), rfl⟩
theorem tw_170 : zT (Jvm.Cond.fieldLink "VetoHouse$House" (27 : Nat) "VetoHouse$House" "notes" "[LVetoHouse$Note;") := ⟨List.mem_append_right _ (List.mem_of_getElem? (i := 170) (by decide +kernel)), rfl⟩
theorem tw_171 : zT (Jvm.Cond.fieldLink "VetoHouse$House" (32 : Nat) "VetoHouse$House" "past" "[LVetoHouse$Sitting;") := ⟨List.mem_append_right _ (List.mem_of_getElem? (i := 171) (by decide +kernel)), rfl⟩
theorem tw_172 : zT (Jvm.Cond.fieldLink "VetoHouse$House" (40 : Nat) "VetoHouse$House" "deputyCount" "I") := ⟨List.mem_append_right _ (List.mem_of_getElem? (i := 172) (by decide +kernel)), rfl⟩
theorem tw_173 : zT (Jvm.Cond.fieldLink "VetoHouse" (78 : Nat) "VetoHouse$House" "deputyCount" "I") := ⟨List.mem_append_right _ (List.mem_of_getElem? (i := 173) (by decide +kernel)), rfl⟩
theorem tw_174 : zT (Jvm.Cond.fieldLink "VetoHouse$House" (44 : Nat) "VetoHouse$House" "noteCount" "I") := ⟨List.mem_append_right _ (List.mem_of_getElem? (i := 174) (by decide +kernel)), rfl⟩
theorem tw_175 : zT (Jvm.Cond.fieldLink "VetoHouse" (204 : Nat) "VetoHouse$House" "noteCount" "I") := ⟨List.mem_append_right _ (List.mem_of_getElem? (i := 175) (by decide +kernel)), rfl⟩
theorem tw_176 : zT (Jvm.Cond.fieldLink "VetoHouse$House" (47 : Nat) "VetoHouse$House" "pastCount" "I") := ⟨List.mem_append_right _ (List.mem_of_getElem? (i := 176) (by decide +kernel)), rfl⟩
theorem tw_177 : zT (Jvm.Cond.fieldLink "VetoHouse" (148 : Nat) "VetoHouse$House" "pastCount" "I") := ⟨List.mem_append_right _ (List.mem_of_getElem? (i := 177) (by decide +kernel)), rfl⟩
theorem tw_178 : zT (Jvm.Cond.laysFinal "VetoHouse$House" "VetoHouse$House" "sitting" "LVetoHouse$Sitting;") := ⟨List.mem_append_right _ (List.mem_of_getElem? (i := 178) (by decide +kernel)), rfl⟩
theorem tw_180 : zT (Jvm.Cond.laysFinal "VetoHouse$House" "VetoHouse$House" "deputies" "[LVetoHouse$Deputy;") := ⟨List.mem_append_right _ (List.mem_of_getElem? (i := 180) (by decide +kernel)), rfl⟩
theorem tw_182 : zT (Jvm.Cond.laysFinal "VetoHouse$House" "VetoHouse$House" "notes" "[LVetoHouse$Note;") := ⟨List.mem_append_right _ (List.mem_of_getElem? (i := 182) (by decide +kernel)), rfl⟩
theorem tw_184 : zT (Jvm.Cond.laysFinal "VetoHouse$House" "VetoHouse$House" "past" "[LVetoHouse$Sitting;") := ⟨List.mem_append_right _ (List.mem_of_getElem? (i := 184) (by decide +kernel)), rfl⟩
theorem tw_186 : zT (Jvm.Cond.lays "VetoHouse$House" "VetoHouse$House" "deputyCount" "I") := ⟨List.mem_append_right _ (List.mem_of_getElem? (i := 186) (by decide +kernel)), rfl⟩
theorem tw_188 : zT (Jvm.Cond.lays "VetoHouse$House" "VetoHouse$House" "noteCount" "I") := ⟨List.mem_append_right _ (List.mem_of_getElem? (i := 188) (by decide +kernel)), rfl⟩
theorem tw_190 : zT (Jvm.Cond.lays "VetoHouse$House" "VetoHouse$House" "pastCount" "I") := ⟨List.mem_append_right _ (List.mem_of_getElem? (i := 190) (by decide +kernel)), rfl⟩
theorem tw_192 : zT (Jvm.Cond.superclass "VetoHouse$House" "java/lang/Object") := ⟨List.mem_append_right _ (List.mem_of_getElem? (i := 192) (by decide +kernel)), rfl⟩
theorem tw_194 : zT (Jvm.Cond.classLink "VetoHouse" (49 : Nat) "VetoHouse$Sitting") := ⟨List.mem_append_right _ (List.mem_of_getElem? (i := 194) (by decide +kernel)), rfl⟩
theorem tw_196 : zT (Jvm.Cond.classLink "VetoHouse" (56 : Nat) "VetoHouse$Text") := ⟨List.mem_append_right _ (List.mem_of_getElem? (i := 196) (by decide +kernel)), rfl⟩
theorem tw_197 : zT (Jvm.Cond.instantiable "VetoHouse$Text" (6 : Nat)) := ⟨List.mem_append_right _ (List.mem_of_getElem? (i := 197) (by decide +kernel)), rfl⟩
theorem tw_198 : zT (Jvm.Cond.methodLink "VetoHouse" (58 : Nat) ({ cls := "VetoHouse$Text", name := "<init>", desc := "()V" } : Jvm.MethodName)) := ⟨List.mem_append_right _ (List.mem_of_getElem? (i := 198) (by decide +kernel)), rfl⟩
theorem tw_199 : zT (Jvm.Cond.instanceMethod ({ cls := "VetoHouse$Text", name := "<init>", desc := "()V" } : Jvm.MethodName)) := ⟨List.mem_append_right _ (List.mem_of_getElem? (i := 199) (by decide +kernel)), rfl⟩
theorem tw_200 : zT (Jvm.Cond.code ({ cls := "VetoHouse$Text", name := "<init>", desc := "()V" } : Jvm.MethodName) prog_11_method_1_code (1 : Nat) (Option.none : Option Jvm.ClassFile.FieldType)) := ⟨List.mem_append_right _ (List.mem_of_getElem? (i := 200) (by decide +kernel)), rfl⟩
theorem tw_201 : zT (Jvm.Cond.methodLink "VetoHouse$Text" (3 : Nat) ({ cls := "java/lang/Object", name := "<init>", desc := "()V" } : Jvm.MethodName)) := ⟨List.mem_append_right _ (List.mem_of_getElem? (i := 201) (by decide +kernel)), rfl⟩
theorem tw_202 : zT (Jvm.Cond.fieldLink "VetoHouse$Text" (9 : Nat) "VetoHouse$Text" "bytes" "[B") := ⟨List.mem_append_right _ (List.mem_of_getElem? (i := 202) (by decide +kernel)), rfl⟩
theorem tw_203 : zT (Jvm.Cond.fieldLink "VetoHouse$Text" (15 : Nat) "VetoHouse$Text" "length" "I") := ⟨List.mem_append_right _ (List.mem_of_getElem? (i := 203) (by decide +kernel)), rfl⟩
theorem tw_204 : zT (Jvm.Cond.fieldLink "VetoHouse" (94 : Nat) "VetoHouse$Text" "length" "I") := ⟨List.mem_append_right _ (List.mem_of_getElem? (i := 204) (by decide +kernel)), rfl⟩
theorem tw_205 : zT (Jvm.Cond.fieldLink "VetoHouse$Text" (29 : Nat) "VetoHouse$Text" "start" "I") := ⟨List.mem_append_right _ (List.mem_of_getElem? (i := 205) (by decide +kernel)), rfl⟩
theorem tw_206 : zT (Jvm.Cond.fieldLink "VetoHouse$House" (98 : Nat) "VetoHouse$Text" "start" "I") := ⟨List.mem_append_right _ (List.mem_of_getElem? (i := 206) (by decide +kernel)), rfl⟩
theorem tw_207 : zT (Jvm.Cond.fieldLink "VetoHouse$Text" (19 : Nat) "VetoHouse$Text" "behind" "I") := ⟨List.mem_append_right _ (List.mem_of_getElem? (i := 207) (by decide +kernel)), rfl⟩
theorem tw_208 : zT (Jvm.Cond.fieldLink "VetoHouse$Text" (32 : Nat) "VetoHouse$Text" "sort" "I") := ⟨List.mem_append_right _ (List.mem_of_getElem? (i := 208) (by decide +kernel)), rfl⟩
theorem tw_209 : zT (Jvm.Cond.fieldLink "VetoHouse$Text" (39 : Nat) "VetoHouse$Text" "value" "I") := ⟨List.mem_append_right _ (List.mem_of_getElem? (i := 209) (by decide +kernel)), rfl⟩
theorem tw_210 : zT (Jvm.Cond.laysFinal "VetoHouse$Text" "VetoHouse$Text" "bytes" "[B") := ⟨List.mem_append_right _ (List.mem_of_getElem? (i := 210) (by decide +kernel)), rfl⟩
theorem tw_212 : zT (Jvm.Cond.lays "VetoHouse$Text" "VetoHouse$Text" "length" "I") := ⟨List.mem_append_right _ (List.mem_of_getElem? (i := 212) (by decide +kernel)), rfl⟩
theorem tw_214 : zT (Jvm.Cond.lays "VetoHouse$Text" "VetoHouse$Text" "start" "I") := ⟨List.mem_append_right _ (List.mem_of_getElem? (i := 214) (by decide +kernel)), rfl⟩
theorem tw_216 : zT (Jvm.Cond.lays "VetoHouse$Text" "VetoHouse$Text" "behind" "I") := ⟨List.mem_append_right _ (List.mem_of_getElem? (i := 216) (by decide +kernel)), rfl⟩
theorem tw_218 : zT (Jvm.Cond.lays "VetoHouse$Text" "VetoHouse$Text" "sort" "I") := ⟨List.mem_append_right _ (List.mem_of_getElem? (i := 218) (by decide +kernel)), rfl⟩
theorem tw_220 : zT (Jvm.Cond.lays "VetoHouse$Text" "VetoHouse$Text" "value" "I") := ⟨List.mem_append_right _ (List.mem_of_getElem? (i := 220) (by decide +kernel)), rfl⟩
theorem tw_222 : zT (Jvm.Cond.superclass "VetoHouse$Text" "java/lang/Object") := ⟨List.mem_append_right _ (List.mem_of_getElem? (i := 222) (by decide +kernel)), rfl⟩
theorem tw_223 : zT (Jvm.Cond.arrayClass Jvm.ClassFile.FieldType.boolean) := ⟨List.mem_append_right _ (List.mem_of_getElem? (i := 223) (by decide +kernel)), rfl⟩
theorem tw_224 : zT (Jvm.Cond.arrayClass Jvm.ClassFile.FieldType.byte) := ⟨List.mem_append_right _ (List.mem_of_getElem? (i := 224) (by decide +kernel)), rfl⟩
theorem tw_225 : zT (Jvm.Cond.fieldLink "VetoHouse" (25 : Nat) "VetoHouse" "kinds" "[LVetoHouse$Plain;") := ⟨List.mem_append_right _ (List.mem_of_getElem? (i := 225) (by decide +kernel)), rfl⟩
theorem tw_226 : zT (Jvm.Cond.fieldLink "VetoHouse" (34 : Nat) "VetoHouse" "now" "LVetoHouse$House;") := ⟨List.mem_append_right _ (List.mem_of_getElem? (i := 226) (by decide +kernel)), rfl⟩
theorem tw_227 : zT (Jvm.Cond.fieldLink "VetoHouse" (38 : Nat) "VetoHouse" "draft" "LVetoHouse$House;") := ⟨List.mem_append_right _ (List.mem_of_getElem? (i := 227) (by decide +kernel)), rfl⟩
theorem tw_228 : zT (Jvm.Cond.fieldLink "VetoHouse" (41 : Nat) "VetoHouse" "images" "[LVetoHouse$House;") := ⟨List.mem_append_right _ (List.mem_of_getElem? (i := 228) (by decide +kernel)), rfl⟩
theorem tw_229 : zT (Jvm.Cond.fieldLink "VetoHouse" (45 : Nat) "VetoHouse" "kept" "[Z") := ⟨List.mem_append_right _ (List.mem_of_getElem? (i := 229) (by decide +kernel)), rfl⟩
theorem tw_230 : zT (Jvm.Cond.fieldLink "VetoHouse" (52 : Nat) "VetoHouse" "trial" "LVetoHouse$Sitting;") := ⟨List.mem_append_right _ (List.mem_of_getElem? (i := 230) (by decide +kernel)), rfl⟩
theorem tw_231 : zT (Jvm.Cond.fieldLink "VetoHouse" (59 : Nat) "VetoHouse" "text" "LVetoHouse$Text;") := ⟨List.mem_append_right _ (List.mem_of_getElem? (i := 231) (by decide +kernel)), rfl⟩
theorem tw_232 : zT (Jvm.Cond.fieldLink "VetoHouse" (63 : Nat) "VetoHouse" "above" "J") := ⟨List.mem_append_right _ (List.mem_of_getElem? (i := 232) (by decide +kernel)), rfl⟩
theorem tw_233 : zT (Jvm.Cond.fieldLink "VetoHouse" (67 : Nat) "VetoHouse" "below" "J") := ⟨List.mem_append_right _ (List.mem_of_getElem? (i := 233) (by decide +kernel)), rfl⟩
theorem tw_234 : zT (Jvm.Cond.fieldLink "VetoHouse" (239 : Nat) "VetoHouse" "bads" "I") := ⟨List.mem_append_right _ (List.mem_of_getElem? (i := 234) (by decide +kernel)), rfl⟩
theorem tw_235 : zT (Jvm.Cond.fieldLink "VetoHouse" (242 : Nat) "VetoHouse" "noes" "I") := ⟨List.mem_append_right _ (List.mem_of_getElem? (i := 235) (by decide +kernel)), rfl⟩
theorem tw_236 : zT (Jvm.Cond.fieldLink "VetoHouse" (245 : Nat) "VetoHouse" "fulls" "I") := ⟨List.mem_append_right _ (List.mem_of_getElem? (i := 236) (by decide +kernel)), rfl⟩
theorem tw_237 : zT (Jvm.Cond.laysFinal "VetoHouse" "VetoHouse" "kinds" "[LVetoHouse$Plain;") := ⟨List.mem_append_right _ (List.mem_of_getElem? (i := 237) (by decide +kernel)), rfl⟩
theorem tw_239 : zT (Jvm.Cond.laysFinal "VetoHouse" "VetoHouse" "now" "LVetoHouse$House;") := ⟨List.mem_append_right _ (List.mem_of_getElem? (i := 239) (by decide +kernel)), rfl⟩
theorem tw_241 : zT (Jvm.Cond.laysFinal "VetoHouse" "VetoHouse" "draft" "LVetoHouse$House;") := ⟨List.mem_append_right _ (List.mem_of_getElem? (i := 241) (by decide +kernel)), rfl⟩
theorem tw_243 : zT (Jvm.Cond.laysFinal "VetoHouse" "VetoHouse" "images" "[LVetoHouse$House;") := ⟨List.mem_append_right _ (List.mem_of_getElem? (i := 243) (by decide +kernel)), rfl⟩
theorem tw_245 : zT (Jvm.Cond.laysFinal "VetoHouse" "VetoHouse" "kept" "[Z") := ⟨List.mem_append_right _ (List.mem_of_getElem? (i := 245) (by decide +kernel)), rfl⟩
theorem tw_247 : zT (Jvm.Cond.laysFinal "VetoHouse" "VetoHouse" "trial" "LVetoHouse$Sitting;") := ⟨List.mem_append_right _ (List.mem_of_getElem? (i := 247) (by decide +kernel)), rfl⟩
theorem tw_249 : zT (Jvm.Cond.laysFinal "VetoHouse" "VetoHouse" "text" "LVetoHouse$Text;") := ⟨List.mem_append_right _ (List.mem_of_getElem? (i := 249) (by decide +kernel)), rfl⟩
theorem tw_251 : zT (Jvm.Cond.lays "VetoHouse" "VetoHouse" "above" "J") := ⟨List.mem_append_right _ (List.mem_of_getElem? (i := 251) (by decide +kernel)), rfl⟩
theorem tw_253 : zT (Jvm.Cond.lays "VetoHouse" "VetoHouse" "below" "J") := ⟨List.mem_append_right _ (List.mem_of_getElem? (i := 253) (by decide +kernel)), rfl⟩
theorem tw_255 : zT (Jvm.Cond.lays "VetoHouse" "VetoHouse" "bads" "I") := ⟨List.mem_append_right _ (List.mem_of_getElem? (i := 255) (by decide +kernel)), rfl⟩
theorem tw_257 : zT (Jvm.Cond.lays "VetoHouse" "VetoHouse" "noes" "I") := ⟨List.mem_append_right _ (List.mem_of_getElem? (i := 257) (by decide +kernel)), rfl⟩
theorem tw_259 : zT (Jvm.Cond.lays "VetoHouse" "VetoHouse" "fulls" "I") := ⟨List.mem_append_right _ (List.mem_of_getElem? (i := 259) (by decide +kernel)), rfl⟩
theorem tw_261 : zT (Jvm.Cond.superclass "VetoHouse" "java/lang/Object") := ⟨List.mem_append_right _ (List.mem_of_getElem? (i := 261) (by decide +kernel)), rfl⟩
theorem tw_262 : zT (Jvm.Cond.methodLink "VetoHouseLaw" (13 : Nat) ({ cls := "VetoHouse", name := "house", desc := "(I)I" } : Jvm.MethodName)) := ⟨List.mem_append_right _ (List.mem_of_getElem? (i := 262) (by decide +kernel)), rfl⟩
theorem tw_263 : zT (Jvm.Cond.instanceMethod ({ cls := "VetoHouse", name := "house", desc := "(I)I" } : Jvm.MethodName)) := ⟨List.mem_append_right _ (List.mem_of_getElem? (i := 263) (by decide +kernel)), rfl⟩
theorem tw_264 : zT (Jvm.Cond.selects "VetoHouse" ({ cls := "VetoHouse", name := "house", desc := "(I)I" } : Jvm.MethodName) ({ cls := "VetoHouse", name := "house", desc := "(I)I" } : Jvm.MethodName)) := ⟨List.mem_append_right _ (List.mem_of_getElem? (i := 264) (by decide +kernel)), rfl⟩
theorem tw_265 : zT (Jvm.Cond.code ({ cls := "VetoHouse", name := "house", desc := "(I)I" } : Jvm.MethodName) prog_1_method_2_code (3 : Nat) (Option.some Jvm.ClassFile.FieldType.int)) := ⟨List.mem_append_right _ (List.mem_of_getElem? (i := 265) (by decide +kernel)), rfl⟩
theorem tw_266 : zT (Jvm.Cond.methodLink "VetoHouse" (70 : Nat) ({ cls := "VetoHouse", name := "within", desc := "(II)Z" } : Jvm.MethodName)) := ⟨List.mem_append_right _ (List.mem_of_getElem? (i := 266) (by decide +kernel)), rfl⟩
theorem tw_267 : zT (Jvm.Cond.static ({ cls := "VetoHouse", name := "within", desc := "(II)Z" } : Jvm.MethodName)) := ⟨List.mem_append_right _ (List.mem_of_getElem? (i := 267) (by decide +kernel)), rfl⟩
theorem tw_268 : zT (Jvm.Cond.code ({ cls := "VetoHouse", name := "within", desc := "(II)Z" } : Jvm.MethodName) prog_1_method_36_code (2 : Nat) (Option.some Jvm.ClassFile.FieldType.boolean)) := ⟨List.mem_append_right _ (List.mem_of_getElem? (i := 268) (by decide +kernel)), rfl⟩
theorem tw_269 : zT (Jvm.Cond.methodLink "VetoHouse" (74 : Nat) ({ cls := "VetoHouse", name := "refuse", desc := "(I)I" } : Jvm.MethodName)) := ⟨List.mem_append_right _ (List.mem_of_getElem? (i := 269) (by decide +kernel)), rfl⟩
theorem tw_271 : zT (Jvm.Cond.instanceMethod ({ cls := "VetoHouse", name := "refuse", desc := "(I)I" } : Jvm.MethodName)) := ⟨List.mem_append_right _ (List.mem_of_getElem? (i := 271) (by decide +kernel)), rfl⟩
theorem tw_272 : zT (Jvm.Cond.code ({ cls := "VetoHouse", name := "refuse", desc := "(I)I" } : Jvm.MethodName) prog_1_method_40_code (2 : Nat) (Option.some Jvm.ClassFile.FieldType.int)) := ⟨List.mem_append_right _ (List.mem_of_getElem? (i := 272) (by decide +kernel)), rfl⟩
theorem tw_273 : zT (Jvm.Cond.methodLink "VetoHouse" (82 : Nat) ({ cls := "VetoHouse$House", name := "startOn", desc := "(I)V" } : Jvm.MethodName)) := ⟨List.mem_append_right _ (List.mem_of_getElem? (i := 273) (by decide +kernel)), rfl⟩
theorem tw_274 : zT (Jvm.Cond.instanceMethod ({ cls := "VetoHouse$House", name := "startOn", desc := "(I)V" } : Jvm.MethodName)) := ⟨List.mem_append_right _ (List.mem_of_getElem? (i := 274) (by decide +kernel)), rfl⟩
theorem tw_275 : zT (Jvm.Cond.selects "VetoHouse$House" ({ cls := "VetoHouse$House", name := "startOn", desc := "(I)V" } : Jvm.MethodName) ({ cls := "VetoHouse$House", name := "startOn", desc := "(I)V" } : Jvm.MethodName)) := ⟨List.mem_append_right _ (List.mem_of_getElem? (i := 275) (by decide +kernel)), rfl⟩
theorem tw_276 : zT (Jvm.Cond.code ({ cls := "VetoHouse$House", name := "startOn", desc := "(I)V" } : Jvm.MethodName) prog_3_method_2_code (2 : Nat) (Option.none : Option Jvm.ClassFile.FieldType)) := ⟨List.mem_append_right _ (List.mem_of_getElem? (i := 276) (by decide +kernel)), rfl⟩
theorem tw_277 : zT (Jvm.Cond.methodLink "VetoHouse$House" (36 : Nat) ({ cls := "VetoHouse$Sitting", name := "startOn", desc := "(I)V" } : Jvm.MethodName)) := ⟨List.mem_append_right _ (List.mem_of_getElem? (i := 277) (by decide +kernel)), rfl⟩
theorem tw_278 : zT (Jvm.Cond.instanceMethod ({ cls := "VetoHouse$Sitting", name := "startOn", desc := "(I)V" } : Jvm.MethodName)) := ⟨List.mem_append_right _ (List.mem_of_getElem? (i := 278) (by decide +kernel)), rfl⟩
theorem tw_279 : zT (Jvm.Cond.selects "VetoHouse$Sitting" ({ cls := "VetoHouse$Sitting", name := "startOn", desc := "(I)V" } : Jvm.MethodName) ({ cls := "VetoHouse$Sitting", name := "startOn", desc := "(I)V" } : Jvm.MethodName)) := ⟨List.mem_append_right _ (List.mem_of_getElem? (i := 279) (by decide +kernel)), rfl⟩
theorem tw_280 : zT (Jvm.Cond.code ({ cls := "VetoHouse$Sitting", name := "startOn", desc := "(I)V" } : Jvm.MethodName) prog_10_method_2_code (2 : Nat) (Option.none : Option Jvm.ClassFile.FieldType)) := ⟨List.mem_append_right _ (List.mem_of_getElem? (i := 280) (by decide +kernel)), rfl⟩
theorem tw_281 : zT (Jvm.Cond.methodLink "VetoHouseLaw" (18 : Nat) ({ cls := "VetoHouse", name := "deputy", desc := "(IIII)I" } : Jvm.MethodName)) := ⟨List.mem_append_right _ (List.mem_of_getElem? (i := 281) (by decide +kernel)), rfl⟩
theorem tw_282 : zT (Jvm.Cond.instanceMethod ({ cls := "VetoHouse", name := "deputy", desc := "(IIII)I" } : Jvm.MethodName)) := ⟨List.mem_append_right _ (List.mem_of_getElem? (i := 282) (by decide +kernel)), rfl⟩
theorem tw_283 : zT (Jvm.Cond.selects "VetoHouse" ({ cls := "VetoHouse", name := "deputy", desc := "(IIII)I" } : Jvm.MethodName) ({ cls := "VetoHouse", name := "deputy", desc := "(IIII)I" } : Jvm.MethodName)) := ⟨List.mem_append_right _ (List.mem_of_getElem? (i := 283) (by decide +kernel)), rfl⟩
theorem tw_284 : zT (Jvm.Cond.code ({ cls := "VetoHouse", name := "deputy", desc := "(IIII)I" } : Jvm.MethodName) prog_1_method_3_code (5 : Nat) (Option.some Jvm.ClassFile.FieldType.int)) := ⟨List.mem_append_right _ (List.mem_of_getElem? (i := 284) (by decide +kernel)), rfl⟩
theorem tw_285 : zT (Jvm.Cond.methodLink "VetoHouse" (86 : Nat) ({ cls := "VetoHouse", name := "isBundle", desc := "(I)Z" } : Jvm.MethodName)) := ⟨List.mem_append_right _ (List.mem_of_getElem? (i := 285) (by decide +kernel)), rfl⟩
theorem tw_286 : zT (Jvm.Cond.static ({ cls := "VetoHouse", name := "isBundle", desc := "(I)Z" } : Jvm.MethodName)) := ⟨List.mem_append_right _ (List.mem_of_getElem? (i := 286) (by decide +kernel)), rfl⟩
theorem tw_287 : zT (Jvm.Cond.code ({ cls := "VetoHouse", name := "isBundle", desc := "(I)Z" } : Jvm.MethodName) prog_1_method_37_code (1 : Nat) (Option.some Jvm.ClassFile.FieldType.boolean)) := ⟨List.mem_append_right _ (List.mem_of_getElem? (i := 287) (by decide +kernel)), rfl⟩
theorem tw_288 : zT (Jvm.Cond.methodLink "VetoHouse" (90 : Nat) ({ cls := "VetoHouse$House", name := "addDeputy", desc := "(IIII)V" } : Jvm.MethodName)) := ⟨List.mem_append_right _ (List.mem_of_getElem? (i := 288) (by decide +kernel)), rfl⟩
theorem tw_289 : zT (Jvm.Cond.instanceMethod ({ cls := "VetoHouse$House", name := "addDeputy", desc := "(IIII)V" } : Jvm.MethodName)) := ⟨List.mem_append_right _ (List.mem_of_getElem? (i := 289) (by decide +kernel)), rfl⟩
theorem tw_290 : zT (Jvm.Cond.selects "VetoHouse$House" ({ cls := "VetoHouse$House", name := "addDeputy", desc := "(IIII)V" } : Jvm.MethodName) ({ cls := "VetoHouse$House", name := "addDeputy", desc := "(IIII)V" } : Jvm.MethodName)) := ⟨List.mem_append_right _ (List.mem_of_getElem? (i := 290) (by decide +kernel)), rfl⟩
theorem tw_291 : zT (Jvm.Cond.code ({ cls := "VetoHouse$House", name := "addDeputy", desc := "(IIII)V" } : Jvm.MethodName) prog_3_method_6_code (6 : Nat) (Option.none : Option Jvm.ClassFile.FieldType)) := ⟨List.mem_append_right _ (List.mem_of_getElem? (i := 291) (by decide +kernel)), rfl⟩
theorem tw_292 : zT (Jvm.Cond.methodLink "VetoHouseLaw" (23 : Nat) ({ cls := "VetoHouse", name := "type", desc := "(I)I" } : Jvm.MethodName)) := ⟨List.mem_append_right _ (List.mem_of_getElem? (i := 292) (by decide +kernel)), rfl⟩
theorem tw_293 : zT (Jvm.Cond.instanceMethod ({ cls := "VetoHouse", name := "type", desc := "(I)I" } : Jvm.MethodName)) := ⟨List.mem_append_right _ (List.mem_of_getElem? (i := 293) (by decide +kernel)), rfl⟩
theorem tw_294 : zT (Jvm.Cond.selects "VetoHouse" ({ cls := "VetoHouse", name := "type", desc := "(I)I" } : Jvm.MethodName) ({ cls := "VetoHouse", name := "type", desc := "(I)I" } : Jvm.MethodName)) := ⟨List.mem_append_right _ (List.mem_of_getElem? (i := 294) (by decide +kernel)), rfl⟩
theorem tw_295 : zT (Jvm.Cond.code ({ cls := "VetoHouse", name := "type", desc := "(I)I" } : Jvm.MethodName) prog_1_method_4_code (2 : Nat) (Option.some Jvm.ClassFile.FieldType.int)) := ⟨List.mem_append_right _ (List.mem_of_getElem? (i := 295) (by decide +kernel)), rfl⟩
theorem tw_296 : zT (Jvm.Cond.methodLink "VetoHouse" (97 : Nat) ({ cls := "VetoHouse$Text", name := "append", desc := "(I)V" } : Jvm.MethodName)) := ⟨List.mem_append_right _ (List.mem_of_getElem? (i := 296) (by decide +kernel)), rfl⟩
theorem tw_297 : zT (Jvm.Cond.instanceMethod ({ cls := "VetoHouse$Text", name := "append", desc := "(I)V" } : Jvm.MethodName)) := ⟨List.mem_append_right _ (List.mem_of_getElem? (i := 297) (by decide +kernel)), rfl⟩
theorem tw_298 : zT (Jvm.Cond.selects "VetoHouse$Text" ({ cls := "VetoHouse$Text", name := "append", desc := "(I)V" } : Jvm.MethodName) ({ cls := "VetoHouse$Text", name := "append", desc := "(I)V" } : Jvm.MethodName)) := ⟨List.mem_append_right _ (List.mem_of_getElem? (i := 298) (by decide +kernel)), rfl⟩
theorem tw_299 : zT (Jvm.Cond.code ({ cls := "VetoHouse$Text", name := "append", desc := "(I)V" } : Jvm.MethodName) prog_11_method_2_code (2 : Nat) (Option.none : Option Jvm.ClassFile.FieldType)) := ⟨List.mem_append_right _ (List.mem_of_getElem? (i := 299) (by decide +kernel)), rfl⟩
theorem tw_300 : zT (Jvm.Cond.methodLink "VetoHouseLaw" (27 : Nat) ({ cls := "VetoHouse", name := "clear", desc := "()I" } : Jvm.MethodName)) := ⟨List.mem_append_right _ (List.mem_of_getElem? (i := 300) (by decide +kernel)), rfl⟩
theorem tw_301 : zT (Jvm.Cond.instanceMethod ({ cls := "VetoHouse", name := "clear", desc := "()I" } : Jvm.MethodName)) := ⟨List.mem_append_right _ (List.mem_of_getElem? (i := 301) (by decide +kernel)), rfl⟩
theorem tw_302 : zT (Jvm.Cond.selects "VetoHouse" ({ cls := "VetoHouse", name := "clear", desc := "()I" } : Jvm.MethodName) ({ cls := "VetoHouse", name := "clear", desc := "()I" } : Jvm.MethodName)) := ⟨List.mem_append_right _ (List.mem_of_getElem? (i := 302) (by decide +kernel)), rfl⟩
theorem tw_303 : zT (Jvm.Cond.code ({ cls := "VetoHouse", name := "clear", desc := "()I" } : Jvm.MethodName) prog_1_method_5_code (2 : Nat) (Option.some Jvm.ClassFile.FieldType.int)) := ⟨List.mem_append_right _ (List.mem_of_getElem? (i := 303) (by decide +kernel)), rfl⟩
theorem tw_304 : zT (Jvm.Cond.methodLink "VetoHouseLaw" (32 : Nat) ({ cls := "VetoHouse", name := "read", desc := "()I" } : Jvm.MethodName)) := ⟨List.mem_append_right _ (List.mem_of_getElem? (i := 304) (by decide +kernel)), rfl⟩
theorem tw_305 : zT (Jvm.Cond.instanceMethod ({ cls := "VetoHouse", name := "read", desc := "()I" } : Jvm.MethodName)) := ⟨List.mem_append_right _ (List.mem_of_getElem? (i := 305) (by decide +kernel)), rfl⟩
theorem tw_306 : zT (Jvm.Cond.selects "VetoHouse" ({ cls := "VetoHouse", name := "read", desc := "()I" } : Jvm.MethodName) ({ cls := "VetoHouse", name := "read", desc := "()I" } : Jvm.MethodName)) := ⟨List.mem_append_right _ (List.mem_of_getElem? (i := 306) (by decide +kernel)), rfl⟩
theorem tw_307 : zT (Jvm.Cond.code ({ cls := "VetoHouse", name := "read", desc := "()I" } : Jvm.MethodName) prog_1_method_6_code (2 : Nat) (Option.some Jvm.ClassFile.FieldType.int)) := ⟨List.mem_append_right _ (List.mem_of_getElem? (i := 307) (by decide +kernel)), rfl⟩
theorem tw_308 : zT (Jvm.Cond.methodLink "VetoHouse" (100 : Nat) ({ cls := "VetoHouse$House", name := "readFrom", desc := "(LVetoHouse$Text;)I" } : Jvm.MethodName)) := ⟨List.mem_append_right _ (List.mem_of_getElem? (i := 308) (by decide +kernel)), rfl⟩
theorem tw_309 : zT (Jvm.Cond.instanceMethod ({ cls := "VetoHouse$House", name := "readFrom", desc := "(LVetoHouse$Text;)I" } : Jvm.MethodName)) := ⟨List.mem_append_right _ (List.mem_of_getElem? (i := 309) (by decide +kernel)), rfl⟩
theorem tw_310 : zT (Jvm.Cond.selects "VetoHouse$House" ({ cls := "VetoHouse$House", name := "readFrom", desc := "(LVetoHouse$Text;)I" } : Jvm.MethodName) ({ cls := "VetoHouse$House", name := "readFrom", desc := "(LVetoHouse$Text;)I" } : Jvm.MethodName)) := ⟨List.mem_append_right _ (List.mem_of_getElem? (i := 310) (by decide +kernel)), rfl⟩
theorem tw_311 : zT (Jvm.Cond.code ({ cls := "VetoHouse$House", name := "readFrom", desc := "(LVetoHouse$Text;)I" } : Jvm.MethodName) prog_3_method_10_code (3 : Nat) (Option.some Jvm.ClassFile.FieldType.int)) := ⟨List.mem_append_right _ (List.mem_of_getElem? (i := 311) (by decide +kernel)), rfl⟩
theorem tw_312 : zT (Jvm.Cond.methodLink "VetoHouse$House" (84 : Nat) ({ cls := "VetoHouse$House", name := "startOn", desc := "(I)V" } : Jvm.MethodName)) := ⟨List.mem_append_right _ (List.mem_of_getElem? (i := 312) (by decide +kernel)), rfl⟩
theorem tw_313 : zT (Jvm.Cond.methodLink "VetoHouse$House" (85 : Nat) ({ cls := "VetoHouse$Text", name := "rewind", desc := "()V" } : Jvm.MethodName)) := ⟨List.mem_append_right _ (List.mem_of_getElem? (i := 313) (by decide +kernel)), rfl⟩
theorem tw_314 : zT (Jvm.Cond.instanceMethod ({ cls := "VetoHouse$Text", name := "rewind", desc := "()V" } : Jvm.MethodName)) := ⟨List.mem_append_right _ (List.mem_of_getElem? (i := 314) (by decide +kernel)), rfl⟩
theorem tw_315 : zT (Jvm.Cond.selects "VetoHouse$Text" ({ cls := "VetoHouse$Text", name := "rewind", desc := "()V" } : Jvm.MethodName) ({ cls := "VetoHouse$Text", name := "rewind", desc := "()V" } : Jvm.MethodName)) := ⟨List.mem_append_right _ (List.mem_of_getElem? (i := 315) (by decide +kernel)), rfl⟩
theorem tw_316 : zT (Jvm.Cond.code ({ cls := "VetoHouse$Text", name := "rewind", desc := "()V" } : Jvm.MethodName) prog_11_method_3_code (1 : Nat) (Option.none : Option Jvm.ClassFile.FieldType)) := ⟨List.mem_append_right _ (List.mem_of_getElem? (i := 316) (by decide +kernel)), rfl⟩
theorem tw_317 : zT (Jvm.Cond.methodLink "VetoHouse$Text" (22 : Nat) ({ cls := "VetoHouse$Text", name := "step", desc := "()V" } : Jvm.MethodName)) := ⟨List.mem_append_right _ (List.mem_of_getElem? (i := 317) (by decide +kernel)), rfl⟩
theorem tw_318 : zT (Jvm.Cond.instanceMethod ({ cls := "VetoHouse$Text", name := "step", desc := "()V" } : Jvm.MethodName)) := ⟨List.mem_append_right _ (List.mem_of_getElem? (i := 318) (by decide +kernel)), rfl⟩
theorem tw_319 : zT (Jvm.Cond.selects "VetoHouse$Text" ({ cls := "VetoHouse$Text", name := "step", desc := "()V" } : Jvm.MethodName) ({ cls := "VetoHouse$Text", name := "step", desc := "()V" } : Jvm.MethodName)) := ⟨List.mem_append_right _ (List.mem_of_getElem? (i := 319) (by decide +kernel)), rfl⟩
theorem tw_320 : zT (Jvm.Cond.code ({ cls := "VetoHouse$Text", name := "step", desc := "()V" } : Jvm.MethodName) prog_11_method_4_code (3 : Nat) (Option.none : Option Jvm.ClassFile.FieldType)) := ⟨List.mem_append_right _ (List.mem_of_getElem? (i := 320) (by decide +kernel)), rfl⟩
theorem tw_321 : zT (Jvm.Cond.methodLink "VetoHouse$Text" (25 : Nat) ({ cls := "VetoHouse$Text", name := "endOfRun", desc := "(III)I" } : Jvm.MethodName)) := ⟨List.mem_append_right _ (List.mem_of_getElem? (i := 321) (by decide +kernel)), rfl⟩
theorem tw_323 : zT (Jvm.Cond.instanceMethod ({ cls := "VetoHouse$Text", name := "endOfRun", desc := "(III)I" } : Jvm.MethodName)) := ⟨List.mem_append_right _ (List.mem_of_getElem? (i := 323) (by decide +kernel)), rfl⟩
theorem tw_324 : zT (Jvm.Cond.code ({ cls := "VetoHouse$Text", name := "endOfRun", desc := "(III)I" } : Jvm.MethodName) prog_11_method_10_code (5 : Nat) (Option.some Jvm.ClassFile.FieldType.int)) := ⟨List.mem_append_right _ (List.mem_of_getElem? (i := 324) (by decide +kernel)), rfl⟩
theorem tw_325 : zT (Jvm.Cond.methodLink "VetoHouse$Text" (58 : Nat) ({ cls := "java/lang/Math", name := "max", desc := "(II)I" } : Jvm.MethodName)) := ⟨List.mem_append_right _ (List.mem_of_getElem? (i := 325) (by decide +kernel)), rfl⟩
theorem tw_326 : zT (Jvm.Cond.static ({ cls := "java/lang/Math", name := "max", desc := "(II)I" } : Jvm.MethodName)) := ⟨List.mem_append_right _ (List.mem_of_getElem? (i := 326) (by decide +kernel)), rfl⟩
theorem tw_327 : zT (Jvm.Cond.code ({ cls := "java/lang/Math", name := "max", desc := "(II)I" } : Jvm.MethodName) prog_16_method_65_code (2 : Nat) (Option.some Jvm.ClassFile.FieldType.int)) := ⟨List.mem_append_right _ (List.mem_of_getElem? (i := 327) (by decide +kernel)), rfl⟩
theorem tw_328 : zT (Jvm.Cond.methodLink "VetoHouse$Text" (35 : Nat) ({ cls := "VetoHouse$Text", name := "numberAt", desc := "(II)I" } : Jvm.MethodName)) := ⟨List.mem_append_right _ (List.mem_of_getElem? (i := 328) (by decide +kernel)), rfl⟩
theorem tw_330 : zT (Jvm.Cond.instanceMethod ({ cls := "VetoHouse$Text", name := "numberAt", desc := "(II)I" } : Jvm.MethodName)) := ⟨List.mem_append_right _ (List.mem_of_getElem? (i := 330) (by decide +kernel)), rfl⟩
theorem tw_331 : zT (Jvm.Cond.code ({ cls := "VetoHouse$Text", name := "numberAt", desc := "(II)I" } : Jvm.MethodName) prog_11_method_11_code (5 : Nat) (Option.some Jvm.ClassFile.FieldType.int)) := ⟨List.mem_append_right _ (List.mem_of_getElem? (i := 331) (by decide +kernel)), rfl⟩
theorem tw_332 : zT (Jvm.Cond.methodLink "VetoHouse$Text" (42 : Nat) ({ cls := "VetoHouse$Text", name := "byteAt", desc := "(I)I" } : Jvm.MethodName)) := ⟨List.mem_append_right _ (List.mem_of_getElem? (i := 332) (by decide +kernel)), rfl⟩
theorem tw_334 : zT (Jvm.Cond.instanceMethod ({ cls := "VetoHouse$Text", name := "byteAt", desc := "(I)I" } : Jvm.MethodName)) := ⟨List.mem_append_right _ (List.mem_of_getElem? (i := 334) (by decide +kernel)), rfl⟩
theorem tw_335 : zT (Jvm.Cond.code ({ cls := "VetoHouse$Text", name := "byteAt", desc := "(I)I" } : Jvm.MethodName) prog_11_method_12_code (2 : Nat) (Option.some Jvm.ClassFile.FieldType.int)) := ⟨List.mem_append_right _ (List.mem_of_getElem? (i := 335) (by decide +kernel)), rfl⟩
theorem tw_336 : zT (Jvm.Cond.methodLink "VetoHouse$House" (90 : Nat) ({ cls := "VetoHouse$Text", name := "isAtEnd", desc := "()Z" } : Jvm.MethodName)) := ⟨List.mem_append_right _ (List.mem_of_getElem? (i := 336) (by decide +kernel)), rfl⟩
theorem tw_337 : zT (Jvm.Cond.instanceMethod ({ cls := "VetoHouse$Text", name := "isAtEnd", desc := "()Z" } : Jvm.MethodName)) := ⟨List.mem_append_right _ (List.mem_of_getElem? (i := 337) (by decide +kernel)), rfl⟩
theorem tw_338 : zT (Jvm.Cond.selects "VetoHouse$Text" ({ cls := "VetoHouse$Text", name := "isAtEnd", desc := "()Z" } : Jvm.MethodName) ({ cls := "VetoHouse$Text", name := "isAtEnd", desc := "()Z" } : Jvm.MethodName)) := ⟨List.mem_append_right _ (List.mem_of_getElem? (i := 338) (by decide +kernel)), rfl⟩
theorem tw_339 : zT (Jvm.Cond.code ({ cls := "VetoHouse$Text", name := "isAtEnd", desc := "()Z" } : Jvm.MethodName) prog_11_method_5_code (1 : Nat) (Option.some Jvm.ClassFile.FieldType.boolean)) := ⟨List.mem_append_right _ (List.mem_of_getElem? (i := 339) (by decide +kernel)), rfl⟩
theorem tw_340 : zT (Jvm.Cond.methodLink "VetoHouse$House" (94 : Nat) ({ cls := "VetoHouse$House", name := "takeItem", desc := "(LVetoHouse$Text;Z)Z" } : Jvm.MethodName)) := ⟨List.mem_append_right _ (List.mem_of_getElem? (i := 340) (by decide +kernel)), rfl⟩
theorem tw_342 : zT (Jvm.Cond.instanceMethod ({ cls := "VetoHouse$House", name := "takeItem", desc := "(LVetoHouse$Text;Z)Z" } : Jvm.MethodName)) := ⟨List.mem_append_right _ (List.mem_of_getElem? (i := 342) (by decide +kernel)), rfl⟩
theorem tw_343 : zT (Jvm.Cond.code ({ cls := "VetoHouse$House", name := "takeItem", desc := "(LVetoHouse$Text;Z)Z" } : Jvm.MethodName) prog_3_method_11_code (3 : Nat) (Option.some Jvm.ClassFile.FieldType.boolean)) := ⟨List.mem_append_right _ (List.mem_of_getElem? (i := 343) (by decide +kernel)), rfl⟩
theorem tw_345 : zT (Jvm.Cond.methodLink "VetoHouse$House" (103 : Nat) ({ cls := "VetoHouse$Text", name := "isWord", desc := "(Ljava/lang/String;)Z" } : Jvm.MethodName)) := ⟨List.mem_append_right _ (List.mem_of_getElem? (i := 345) (by decide +kernel)), rfl⟩
theorem tw_346 : zT (Jvm.Cond.instanceMethod ({ cls := "VetoHouse$Text", name := "isWord", desc := "(Ljava/lang/String;)Z" } : Jvm.MethodName)) := ⟨List.mem_append_right _ (List.mem_of_getElem? (i := 346) (by decide +kernel)), rfl⟩
theorem tw_347 : zT (Jvm.Cond.selects "VetoHouse$Text" ({ cls := "VetoHouse$Text", name := "isWord", desc := "(Ljava/lang/String;)Z" } : Jvm.MethodName) ({ cls := "VetoHouse$Text", name := "isWord", desc := "(Ljava/lang/String;)Z" } : Jvm.MethodName)) := ⟨List.mem_append_right _ (List.mem_of_getElem? (i := 347) (by decide +kernel)), rfl⟩
theorem tw_348 : zT (Jvm.Cond.code ({ cls := "VetoHouse$Text", name := "isWord", desc := "(Ljava/lang/String;)Z" } : Jvm.MethodName) prog_11_method_6_code (3 : Nat) (Option.some Jvm.ClassFile.FieldType.boolean)) := ⟨List.mem_append_right _ (List.mem_of_getElem? (i := 348) (by decide +kernel)), rfl⟩
theorem tw_349 : zT (Jvm.Cond.methodLink "VetoHouse$Text" (46 : Nat) ({ cls := "java/lang/String", name := "length", desc := "()I" } : Jvm.MethodName)) := ⟨List.mem_append_right _ (List.mem_of_getElem? (i := 349) (by decide +kernel)), rfl⟩
theorem tw_350 : zT (Jvm.Cond.instanceMethod ({ cls := "java/lang/String", name := "length", desc := "()I" } : Jvm.MethodName)) := ⟨List.mem_append_right _ (List.mem_of_getElem? (i := 350) (by decide +kernel)), rfl⟩
theorem tw_351 : zT (Jvm.Cond.selects "java/lang/String" ({ cls := "java/lang/String", name := "length", desc := "()I" } : Jvm.MethodName) ({ cls := "java/lang/String", name := "length", desc := "()I" } : Jvm.MethodName)) := ⟨List.mem_append_right _ (List.mem_of_getElem? (i := 351) (by decide +kernel)), rfl⟩
theorem tw_352 : zT (Jvm.Cond.code ({ cls := "java/lang/String", name := "length", desc := "()I" } : Jvm.MethodName) prog_17_method_54_code (1 : Nat) (Option.some Jvm.ClassFile.FieldType.int)) := ⟨List.mem_append_right _ (List.mem_of_getElem? (i := 352) (by decide +kernel)), rfl⟩
theorem tw_353 : zT (Jvm.Cond.methodLink "java/lang/String" (335 : Nat) ({ cls := "java/lang/String", name := "coder", desc := "()B" } : Jvm.MethodName)) := ⟨List.mem_append_right _ (List.mem_of_getElem? (i := 353) (by decide +kernel)), rfl⟩
theorem tw_354 : zT (Jvm.Cond.instanceMethod ({ cls := "java/lang/String", name := "coder", desc := "()B" } : Jvm.MethodName)) := ⟨List.mem_append_right _ (List.mem_of_getElem? (i := 354) (by decide +kernel)), rfl⟩
theorem tw_355 : zT (Jvm.Cond.selects "java/lang/String" ({ cls := "java/lang/String", name := "coder", desc := "()B" } : Jvm.MethodName) ({ cls := "java/lang/String", name := "coder", desc := "()B" } : Jvm.MethodName)) := ⟨List.mem_append_right _ (List.mem_of_getElem? (i := 355) (by decide +kernel)), rfl⟩
theorem tw_356 : zT (Jvm.Cond.code ({ cls := "java/lang/String", name := "coder", desc := "()B" } : Jvm.MethodName) prog_17_method_152_code (1 : Nat) (Option.some Jvm.ClassFile.FieldType.byte)) := ⟨List.mem_append_right _ (List.mem_of_getElem? (i := 356) (by decide +kernel)), rfl⟩
theorem tw_357 : zT (Jvm.Cond.fieldLink "java/lang/String" (38 : Nat) "java/lang/String" "COMPACT_STRINGS" "Z") := ⟨List.mem_append_right _ (List.mem_of_getElem? (i := 357) (by decide +kernel)), rfl⟩
theorem tw_359 : zT (Jvm.Cond.methodLink "VetoHouse$Text" (51 : Nat) ({ cls := "java/lang/String", name := "charAt", desc := "(I)C" } : Jvm.MethodName)) := ⟨List.mem_append_right _ (List.mem_of_getElem? (i := 359) (by decide +kernel)), rfl⟩
theorem tw_360 : zT (Jvm.Cond.instanceMethod ({ cls := "java/lang/String", name := "charAt", desc := "(I)C" } : Jvm.MethodName)) := ⟨List.mem_append_right _ (List.mem_of_getElem? (i := 360) (by decide +kernel)), rfl⟩
theorem tw_361 : zT (Jvm.Cond.selects "java/lang/String" ({ cls := "java/lang/String", name := "charAt", desc := "(I)C" } : Jvm.MethodName) ({ cls := "java/lang/String", name := "charAt", desc := "(I)C" } : Jvm.MethodName)) := ⟨List.mem_append_right _ (List.mem_of_getElem? (i := 361) (by decide +kernel)), rfl⟩
theorem tw_362 : zT (Jvm.Cond.code ({ cls := "java/lang/String", name := "charAt", desc := "(I)C" } : Jvm.MethodName) prog_17_method_56_code (2 : Nat) (Option.some Jvm.ClassFile.FieldType.char)) := ⟨List.mem_append_right _ (List.mem_of_getElem? (i := 362) (by decide +kernel)), rfl⟩
theorem tw_363 : zT (Jvm.Cond.methodLink "java/lang/String" (492 : Nat) ({ cls := "java/lang/String", name := "isLatin1", desc := "()Z" } : Jvm.MethodName)) := ⟨List.mem_append_right _ (List.mem_of_getElem? (i := 363) (by decide +kernel)), rfl⟩
theorem tw_364 : zT (Jvm.Cond.instanceMethod ({ cls := "java/lang/String", name := "isLatin1", desc := "()Z" } : Jvm.MethodName)) := ⟨List.mem_append_right _ (List.mem_of_getElem? (i := 364) (by decide +kernel)), rfl⟩
theorem tw_365 : zT (Jvm.Cond.selects "java/lang/String" ({ cls := "java/lang/String", name := "isLatin1", desc := "()Z" } : Jvm.MethodName) ({ cls := "java/lang/String", name := "isLatin1", desc := "()Z" } : Jvm.MethodName)) := ⟨List.mem_append_right _ (List.mem_of_getElem? (i := 365) (by decide +kernel)), rfl⟩
theorem tw_366 : zT (Jvm.Cond.code ({ cls := "java/lang/String", name := "isLatin1", desc := "()Z" } : Jvm.MethodName) prog_17_method_154_code (1 : Nat) (Option.some Jvm.ClassFile.FieldType.boolean)) := ⟨List.mem_append_right _ (List.mem_of_getElem? (i := 366) (by decide +kernel)), rfl⟩
theorem tw_367 : zT (Jvm.Cond.methodLink "java/lang/String" (495 : Nat) ({ cls := "java/lang/StringLatin1", name := "charAt", desc := "([BI)C" } : Jvm.MethodName)) := ⟨List.mem_append_right _ (List.mem_of_getElem? (i := 367) (by decide +kernel)), rfl⟩
theorem tw_368 : zT (Jvm.Cond.static ({ cls := "java/lang/StringLatin1", name := "charAt", desc := "([BI)C" } : Jvm.MethodName)) := ⟨List.mem_append_right _ (List.mem_of_getElem? (i := 368) (by decide +kernel)), rfl⟩
theorem tw_369 : zT (Jvm.Cond.code ({ cls := "java/lang/StringLatin1", name := "charAt", desc := "([BI)C" } : Jvm.MethodName) prog_18_method_2_code (2 : Nat) (Option.some Jvm.ClassFile.FieldType.char)) := ⟨List.mem_append_right _ (List.mem_of_getElem? (i := 369) (by decide +kernel)), rfl⟩
theorem tw_370 : zT (Jvm.Cond.methodLink "java/lang/StringLatin1" (9 : Nat) ({ cls := "java/lang/String", name := "checkIndex", desc := "(II)V" } : Jvm.MethodName)) := ⟨List.mem_append_right _ (List.mem_of_getElem? (i := 370) (by decide +kernel)), rfl⟩
theorem tw_371 : zT (Jvm.Cond.static ({ cls := "java/lang/String", name := "checkIndex", desc := "(II)V" } : Jvm.MethodName)) := ⟨List.mem_append_right _ (List.mem_of_getElem? (i := 371) (by decide +kernel)), rfl⟩
theorem tw_372 : zT (Jvm.Cond.code ({ cls := "java/lang/String", name := "checkIndex", desc := "(II)V" } : Jvm.MethodName) prog_17_method_155_code (2 : Nat) (Option.none : Option Jvm.ClassFile.FieldType)) := ⟨List.mem_append_right _ (List.mem_of_getElem? (i := 372) (by decide +kernel)), rfl⟩
theorem tw_373 : zT (Jvm.Cond.fieldLink "java/lang/String" (1053 : Nat) "jdk/internal/util/Preconditions" "SIOOBE_FORMATTER" "Ljava/util/function/BiFunction;") := ⟨List.mem_append_right _ (List.mem_of_getElem? (i := 373) (by decide +kernel)), rfl⟩
theorem tw_375 : zT (Jvm.Cond.methodLink "java/lang/String" (1059 : Nat) ({ cls := "jdk/internal/util/Preconditions", name := "checkIndex", desc := "(IILjava/util/function/BiFunction;)I" } : Jvm.MethodName)) := ⟨List.mem_append_right _ (List.mem_of_getElem? (i := 375) (by decide +kernel)), rfl⟩
theorem tw_376 : zT (Jvm.Cond.static ({ cls := "jdk/internal/util/Preconditions", name := "checkIndex", desc := "(IILjava/util/function/BiFunction;)I" } : Jvm.MethodName)) := ⟨List.mem_append_right _ (List.mem_of_getElem? (i := 376) (by decide +kernel)), rfl⟩
theorem tw_377 : zT (Jvm.Cond.code ({ cls := "jdk/internal/util/Preconditions", name := "checkIndex", desc := "(IILjava/util/function/BiFunction;)I" } : Jvm.MethodName) prog_20_method_11_code (3 : Nat) (Option.some Jvm.ClassFile.FieldType.int)) := ⟨List.mem_append_right _ (List.mem_of_getElem? (i := 377) (by decide +kernel)), rfl⟩
theorem tw_378 : zT (Jvm.Cond.methodLink "java/lang/String" (498 : Nat) ({ cls := "java/lang/StringUTF16", name := "charAt", desc := "([BI)C" } : Jvm.MethodName)) := ⟨List.mem_append_right _ (List.mem_of_getElem? (i := 378) (by decide +kernel)), rfl⟩
theorem tw_379 : zT (Jvm.Cond.static ({ cls := "java/lang/StringUTF16", name := "charAt", desc := "([BI)C" } : Jvm.MethodName)) := ⟨List.mem_append_right _ (List.mem_of_getElem? (i := 379) (by decide +kernel)), rfl⟩
theorem tw_380 : zT (Jvm.Cond.code ({ cls := "java/lang/StringUTF16", name := "charAt", desc := "([BI)C" } : Jvm.MethodName) prog_19_method_83_code (2 : Nat) (Option.some Jvm.ClassFile.FieldType.char)) := ⟨List.mem_append_right _ (List.mem_of_getElem? (i := 380) (by decide +kernel)), rfl⟩
theorem tw_381 : zT (Jvm.Cond.methodLink "java/lang/StringUTF16" (67 : Nat) ({ cls := "java/lang/StringUTF16", name := "checkIndex", desc := "(I[B)V" } : Jvm.MethodName)) := ⟨List.mem_append_right _ (List.mem_of_getElem? (i := 381) (by decide +kernel)), rfl⟩
theorem tw_382 : zT (Jvm.Cond.static ({ cls := "java/lang/StringUTF16", name := "checkIndex", desc := "(I[B)V" } : Jvm.MethodName)) := ⟨List.mem_append_right _ (List.mem_of_getElem? (i := 382) (by decide +kernel)), rfl⟩
theorem tw_383 : zT (Jvm.Cond.code ({ cls := "java/lang/StringUTF16", name := "checkIndex", desc := "(I[B)V" } : Jvm.MethodName) prog_19_method_91_code (2 : Nat) (Option.none : Option Jvm.ClassFile.FieldType)) := ⟨List.mem_append_right _ (List.mem_of_getElem? (i := 383) (by decide +kernel)), rfl⟩
theorem tw_384 : zT (Jvm.Cond.methodLink "java/lang/StringUTF16" (48 : Nat) ({ cls := "java/lang/StringUTF16", name := "length", desc := "([B)I" } : Jvm.MethodName)) := ⟨List.mem_append_right _ (List.mem_of_getElem? (i := 384) (by decide +kernel)), rfl⟩
theorem tw_385 : zT (Jvm.Cond.static ({ cls := "java/lang/StringUTF16", name := "length", desc := "([B)I" } : Jvm.MethodName)) := ⟨List.mem_append_right _ (List.mem_of_getElem? (i := 385) (by decide +kernel)), rfl⟩
theorem tw_386 : zT (Jvm.Cond.code ({ cls := "java/lang/StringUTF16", name := "length", desc := "([B)I" } : Jvm.MethodName) prog_19_method_6_code (1 : Nat) (Option.some Jvm.ClassFile.FieldType.int)) := ⟨List.mem_append_right _ (List.mem_of_getElem? (i := 386) (by decide +kernel)), rfl⟩
theorem tw_387 : zT (Jvm.Cond.methodLink "java/lang/StringUTF16" (414 : Nat) ({ cls := "java/lang/String", name := "checkIndex", desc := "(II)V" } : Jvm.MethodName)) := ⟨List.mem_append_right _ (List.mem_of_getElem? (i := 387) (by decide +kernel)), rfl⟩
theorem tw_388 : zT (Jvm.Cond.methodLink "java/lang/StringUTF16" (71 : Nat) ({ cls := "java/lang/StringUTF16", name := "getChar", desc := "([BI)C" } : Jvm.MethodName)) := ⟨List.mem_append_right _ (List.mem_of_getElem? (i := 388) (by decide +kernel)), rfl⟩
theorem tw_389 : zT (Jvm.Cond.static ({ cls := "java/lang/StringUTF16", name := "getChar", desc := "([BI)C" } : Jvm.MethodName)) := ⟨List.mem_append_right _ (List.mem_of_getElem? (i := 389) (by decide +kernel)), rfl⟩
theorem tw_390 : zT (Jvm.Cond.code ({ cls := "java/lang/StringUTF16", name := "getChar", desc := "([BI)C" } : Jvm.MethodName) prog_19_method_5_code (2 : Nat) (Option.some Jvm.ClassFile.FieldType.char)) := ⟨List.mem_append_right _ (List.mem_of_getElem? (i := 390) (by decide +kernel)), rfl⟩
theorem tw_391 : zT (Jvm.Cond.fieldLink "java/lang/StringUTF16" (44 : Nat) "java/lang/StringUTF16" "$assertionsDisabled" "Z") := ⟨List.mem_append_right _ (List.mem_of_getElem? (i := 391) (by decide +kernel)), rfl⟩
theorem tw_393 : zT (Jvm.Cond.fieldLink "java/lang/StringUTF16" (59 : Nat) "java/lang/StringUTF16" "HI_BYTE_SHIFT" "I") := ⟨List.mem_append_right _ (List.mem_of_getElem? (i := 393) (by decide +kernel)), rfl⟩
theorem tw_395 : zT (Jvm.Cond.fieldLink "java/lang/StringUTF16" (63 : Nat) "java/lang/StringUTF16" "LO_BYTE_SHIFT" "I") := ⟨List.mem_append_right _ (List.mem_of_getElem? (i := 395) (by decide +kernel)), rfl⟩
theorem tw_397 : zT (Jvm.Cond.methodLink "VetoHouse$House" (107 : Nat) ({ cls := "VetoHouse$House", name := "takeDay", desc := "(LVetoHouse$Text;)Z" } : Jvm.MethodName)) := ⟨List.mem_append_right _ (List.mem_of_getElem? (i := 397) (by decide +kernel)), rfl⟩
theorem tw_399 : zT (Jvm.Cond.instanceMethod ({ cls := "VetoHouse$House", name := "takeDay", desc := "(LVetoHouse$Text;)Z" } : Jvm.MethodName)) := ⟨List.mem_append_right _ (List.mem_of_getElem? (i := 399) (by decide +kernel)), rfl⟩
theorem tw_400 : zT (Jvm.Cond.code ({ cls := "VetoHouse$House", name := "takeDay", desc := "(LVetoHouse$Text;)Z" } : Jvm.MethodName) prog_3_method_12_code (2 : Nat) (Option.some Jvm.ClassFile.FieldType.boolean)) := ⟨List.mem_append_right _ (List.mem_of_getElem? (i := 400) (by decide +kernel)), rfl⟩
theorem tw_401 : zT (Jvm.Cond.methodLink "VetoHouse$House" (125 : Nat) ({ cls := "VetoHouse$Text", name := "step", desc := "()V" } : Jvm.MethodName)) := ⟨List.mem_append_right _ (List.mem_of_getElem? (i := 401) (by decide +kernel)), rfl⟩
theorem tw_402 : zT (Jvm.Cond.methodLink "VetoHouse$House" (128 : Nat) ({ cls := "VetoHouse$Text", name := "takeNumber", desc := "(I)I" } : Jvm.MethodName)) := ⟨List.mem_append_right _ (List.mem_of_getElem? (i := 402) (by decide +kernel)), rfl⟩
theorem tw_403 : zT (Jvm.Cond.instanceMethod ({ cls := "VetoHouse$Text", name := "takeNumber", desc := "(I)I" } : Jvm.MethodName)) := ⟨List.mem_append_right _ (List.mem_of_getElem? (i := 403) (by decide +kernel)), rfl⟩
theorem tw_404 : zT (Jvm.Cond.selects "VetoHouse$Text" ({ cls := "VetoHouse$Text", name := "takeNumber", desc := "(I)I" } : Jvm.MethodName) ({ cls := "VetoHouse$Text", name := "takeNumber", desc := "(I)I" } : Jvm.MethodName)) := ⟨List.mem_append_right _ (List.mem_of_getElem? (i := 404) (by decide +kernel)), rfl⟩
theorem tw_405 : zT (Jvm.Cond.code ({ cls := "VetoHouse$Text", name := "takeNumber", desc := "(I)I" } : Jvm.MethodName) prog_11_method_7_code (3 : Nat) (Option.some Jvm.ClassFile.FieldType.int)) := ⟨List.mem_append_right _ (List.mem_of_getElem? (i := 405) (by decide +kernel)), rfl⟩
theorem tw_406 : zT (Jvm.Cond.methodLink "VetoHouse$House" (133 : Nat) ({ cls := "VetoHouse$Text", name := "takeMark", desc := "()Z" } : Jvm.MethodName)) := ⟨List.mem_append_right _ (List.mem_of_getElem? (i := 406) (by decide +kernel)), rfl⟩
theorem tw_407 : zT (Jvm.Cond.instanceMethod ({ cls := "VetoHouse$Text", name := "takeMark", desc := "()Z" } : Jvm.MethodName)) := ⟨List.mem_append_right _ (List.mem_of_getElem? (i := 407) (by decide +kernel)), rfl⟩
theorem tw_408 : zT (Jvm.Cond.selects "VetoHouse$Text" ({ cls := "VetoHouse$Text", name := "takeMark", desc := "()Z" } : Jvm.MethodName) ({ cls := "VetoHouse$Text", name := "takeMark", desc := "()Z" } : Jvm.MethodName)) := ⟨List.mem_append_right _ (List.mem_of_getElem? (i := 408) (by decide +kernel)), rfl⟩
theorem tw_409 : zT (Jvm.Cond.code ({ cls := "VetoHouse$Text", name := "takeMark", desc := "()Z" } : Jvm.MethodName) prog_11_method_9_code (1 : Nat) (Option.some Jvm.ClassFile.FieldType.boolean)) := ⟨List.mem_append_right _ (List.mem_of_getElem? (i := 409) (by decide +kernel)), rfl⟩
theorem tw_411 : zT (Jvm.Cond.methodLink "VetoHouse$House" (112 : Nat) ({ cls := "VetoHouse$House", name := "takeDeputy", desc := "(LVetoHouse$Text;)Z" } : Jvm.MethodName)) := ⟨List.mem_append_right _ (List.mem_of_getElem? (i := 411) (by decide +kernel)), rfl⟩
theorem tw_413 : zT (Jvm.Cond.instanceMethod ({ cls := "VetoHouse$House", name := "takeDeputy", desc := "(LVetoHouse$Text;)Z" } : Jvm.MethodName)) := ⟨List.mem_append_right _ (List.mem_of_getElem? (i := 413) (by decide +kernel)), rfl⟩
theorem tw_414 : zT (Jvm.Cond.code ({ cls := "VetoHouse$House", name := "takeDeputy", desc := "(LVetoHouse$Text;)Z" } : Jvm.MethodName) prog_3_method_13_code (4 : Nat) (Option.some Jvm.ClassFile.FieldType.boolean)) := ⟨List.mem_append_right _ (List.mem_of_getElem? (i := 414) (by decide +kernel)), rfl⟩
theorem tw_415 : zT (Jvm.Cond.methodLink "VetoHouse$House" (136 : Nat) ({ cls := "VetoHouse$House", name := "addDeputy", desc := "(IIII)V" } : Jvm.MethodName)) := ⟨List.mem_append_right _ (List.mem_of_getElem? (i := 415) (by decide +kernel)), rfl⟩
theorem tw_417 : zT (Jvm.Cond.methodLink "VetoHouse$House" (116 : Nat) ({ cls := "VetoHouse$House", name := "takeLeaning", desc := "(LVetoHouse$Text;Z)Z" } : Jvm.MethodName)) := ⟨List.mem_append_right _ (List.mem_of_getElem? (i := 417) (by decide +kernel)), rfl⟩
theorem tw_419 : zT (Jvm.Cond.instanceMethod ({ cls := "VetoHouse$House", name := "takeLeaning", desc := "(LVetoHouse$Text;Z)Z" } : Jvm.MethodName)) := ⟨List.mem_append_right _ (List.mem_of_getElem? (i := 419) (by decide +kernel)), rfl⟩
theorem tw_420 : zT (Jvm.Cond.code ({ cls := "VetoHouse$House", name := "takeLeaning", desc := "(LVetoHouse$Text;Z)Z" } : Jvm.MethodName) prog_3_method_14_code (5 : Nat) (Option.some Jvm.ClassFile.FieldType.boolean)) := ⟨List.mem_append_right _ (List.mem_of_getElem? (i := 420) (by decide +kernel)), rfl⟩
theorem tw_421 : zT (Jvm.Cond.methodLink "VetoHouse$House" (140 : Nat) ({ cls := "VetoHouse$House", name := "deputyAt", desc := "(I)LVetoHouse$Deputy;" } : Jvm.MethodName)) := ⟨List.mem_append_right _ (List.mem_of_getElem? (i := 421) (by decide +kernel)), rfl⟩
theorem tw_422 : zT (Jvm.Cond.instanceMethod ({ cls := "VetoHouse$House", name := "deputyAt", desc := "(I)LVetoHouse$Deputy;" } : Jvm.MethodName)) := ⟨List.mem_append_right _ (List.mem_of_getElem? (i := 422) (by decide +kernel)), rfl⟩
theorem tw_423 : zT (Jvm.Cond.selects "VetoHouse$House" ({ cls := "VetoHouse$House", name := "deputyAt", desc := "(I)LVetoHouse$Deputy;" } : Jvm.MethodName) ({ cls := "VetoHouse$House", name := "deputyAt", desc := "(I)LVetoHouse$Deputy;" } : Jvm.MethodName)) := ⟨List.mem_append_right _ (List.mem_of_getElem? (i := 423) (by decide +kernel)), rfl⟩
theorem tw_424 : zT (Jvm.Cond.code ({ cls := "VetoHouse$House", name := "deputyAt", desc := "(I)LVetoHouse$Deputy;" } : Jvm.MethodName) prog_3_method_4_code (2 : Nat) (Option.some (Jvm.ClassFile.FieldType.object "VetoHouse$Deputy"))) := ⟨List.mem_append_right _ (List.mem_of_getElem? (i := 424) (by decide +kernel)), rfl⟩
theorem tw_425 : zT (Jvm.Cond.methodLink "VetoHouse$House" (144 : Nat) ({ cls := "VetoHouse$Text", name := "takeLaws", desc := "()I" } : Jvm.MethodName)) := ⟨List.mem_append_right _ (List.mem_of_getElem? (i := 425) (by decide +kernel)), rfl⟩
theorem tw_426 : zT (Jvm.Cond.instanceMethod ({ cls := "VetoHouse$Text", name := "takeLaws", desc := "()I" } : Jvm.MethodName)) := ⟨List.mem_append_right _ (List.mem_of_getElem? (i := 426) (by decide +kernel)), rfl⟩
theorem tw_427 : zT (Jvm.Cond.selects "VetoHouse$Text" ({ cls := "VetoHouse$Text", name := "takeLaws", desc := "()I" } : Jvm.MethodName) ({ cls := "VetoHouse$Text", name := "takeLaws", desc := "()I" } : Jvm.MethodName)) := ⟨List.mem_append_right _ (List.mem_of_getElem? (i := 427) (by decide +kernel)), rfl⟩
theorem tw_428 : zT (Jvm.Cond.code ({ cls := "VetoHouse$Text", name := "takeLaws", desc := "()I" } : Jvm.MethodName) prog_11_method_8_code (3 : Nat) (Option.some Jvm.ClassFile.FieldType.int)) := ⟨List.mem_append_right _ (List.mem_of_getElem? (i := 428) (by decide +kernel)), rfl⟩
theorem tw_430 : zT (Jvm.Cond.static ({ cls := "VetoHouse", name := "bitOf", desc := "(I)I" } : Jvm.MethodName)) := ⟨List.mem_append_right _ (List.mem_of_getElem? (i := 430) (by decide +kernel)), rfl⟩
theorem tw_431 : zT (Jvm.Cond.code ({ cls := "VetoHouse", name := "bitOf", desc := "(I)I" } : Jvm.MethodName) prog_1_method_39_code (1 : Nat) (Option.some Jvm.ClassFile.FieldType.int)) := ⟨List.mem_append_right _ (List.mem_of_getElem? (i := 431) (by decide +kernel)), rfl⟩
theorem tw_434 : zT (Jvm.Cond.methodLink "VetoHouse$House" (122 : Nat) ({ cls := "VetoHouse$House", name := "takeForce", desc := "(LVetoHouse$Text;)Z" } : Jvm.MethodName)) := ⟨List.mem_append_right _ (List.mem_of_getElem? (i := 434) (by decide +kernel)), rfl⟩
theorem tw_436 : zT (Jvm.Cond.instanceMethod ({ cls := "VetoHouse$House", name := "takeForce", desc := "(LVetoHouse$Text;)Z" } : Jvm.MethodName)) := ⟨List.mem_append_right _ (List.mem_of_getElem? (i := 436) (by decide +kernel)), rfl⟩
theorem tw_437 : zT (Jvm.Cond.code ({ cls := "VetoHouse$House", name := "takeForce", desc := "(LVetoHouse$Text;)Z" } : Jvm.MethodName) prog_3_method_15_code (2 : Nat) (Option.some Jvm.ClassFile.FieldType.boolean)) := ⟨List.mem_append_right _ (List.mem_of_getElem? (i := 437) (by decide +kernel)), rfl⟩
theorem tw_438 : zT (Jvm.Cond.methodLink "VetoHouse" (104 : Nat) ({ cls := "VetoHouse$House", name := "copyFrom", desc := "(LVetoHouse$House;)V" } : Jvm.MethodName)) := ⟨List.mem_append_right _ (List.mem_of_getElem? (i := 438) (by decide +kernel)), rfl⟩
theorem tw_439 : zT (Jvm.Cond.instanceMethod ({ cls := "VetoHouse$House", name := "copyFrom", desc := "(LVetoHouse$House;)V" } : Jvm.MethodName)) := ⟨List.mem_append_right _ (List.mem_of_getElem? (i := 439) (by decide +kernel)), rfl⟩
theorem tw_440 : zT (Jvm.Cond.selects "VetoHouse$House" ({ cls := "VetoHouse$House", name := "copyFrom", desc := "(LVetoHouse$House;)V" } : Jvm.MethodName) ({ cls := "VetoHouse$House", name := "copyFrom", desc := "(LVetoHouse$House;)V" } : Jvm.MethodName)) := ⟨List.mem_append_right _ (List.mem_of_getElem? (i := 440) (by decide +kernel)), rfl⟩
theorem tw_441 : zT (Jvm.Cond.code ({ cls := "VetoHouse$House", name := "copyFrom", desc := "(LVetoHouse$House;)V" } : Jvm.MethodName) prog_3_method_3_code (3 : Nat) (Option.none : Option Jvm.ClassFile.FieldType)) := ⟨List.mem_append_right _ (List.mem_of_getElem? (i := 441) (by decide +kernel)), rfl⟩
theorem tw_442 : zT (Jvm.Cond.methodLink "VetoHouse$House" (50 : Nat) ({ cls := "VetoHouse$Sitting", name := "copyFrom", desc := "(LVetoHouse$Sitting;)V" } : Jvm.MethodName)) := ⟨List.mem_append_right _ (List.mem_of_getElem? (i := 442) (by decide +kernel)), rfl⟩
theorem tw_443 : zT (Jvm.Cond.instanceMethod ({ cls := "VetoHouse$Sitting", name := "copyFrom", desc := "(LVetoHouse$Sitting;)V" } : Jvm.MethodName)) := ⟨List.mem_append_right _ (List.mem_of_getElem? (i := 443) (by decide +kernel)), rfl⟩
theorem tw_444 : zT (Jvm.Cond.selects "VetoHouse$Sitting" ({ cls := "VetoHouse$Sitting", name := "copyFrom", desc := "(LVetoHouse$Sitting;)V" } : Jvm.MethodName) ({ cls := "VetoHouse$Sitting", name := "copyFrom", desc := "(LVetoHouse$Sitting;)V" } : Jvm.MethodName)) := ⟨List.mem_append_right _ (List.mem_of_getElem? (i := 444) (by decide +kernel)), rfl⟩
theorem tw_445 : zT (Jvm.Cond.code ({ cls := "VetoHouse$Sitting", name := "copyFrom", desc := "(LVetoHouse$Sitting;)V" } : Jvm.MethodName) prog_10_method_3_code (2 : Nat) (Option.none : Option Jvm.ClassFile.FieldType)) := ⟨List.mem_append_right _ (List.mem_of_getElem? (i := 445) (by decide +kernel)), rfl⟩
theorem tw_446 : zT (Jvm.Cond.methodLink "VetoHouse$House" (54 : Nat) ({ cls := "VetoHouse$Deputy", name := "copyFrom", desc := "(LVetoHouse$Deputy;)V" } : Jvm.MethodName)) := ⟨List.mem_append_right _ (List.mem_of_getElem? (i := 446) (by decide +kernel)), rfl⟩
theorem tw_447 : zT (Jvm.Cond.instanceMethod ({ cls := "VetoHouse$Deputy", name := "copyFrom", desc := "(LVetoHouse$Deputy;)V" } : Jvm.MethodName)) := ⟨List.mem_append_right _ (List.mem_of_getElem? (i := 447) (by decide +kernel)), rfl⟩
theorem tw_448 : zT (Jvm.Cond.selects "VetoHouse$Deputy" ({ cls := "VetoHouse$Deputy", name := "copyFrom", desc := "(LVetoHouse$Deputy;)V" } : Jvm.MethodName) ({ cls := "VetoHouse$Deputy", name := "copyFrom", desc := "(LVetoHouse$Deputy;)V" } : Jvm.MethodName)) := ⟨List.mem_append_right _ (List.mem_of_getElem? (i := 448) (by decide +kernel)), rfl⟩
theorem tw_449 : zT (Jvm.Cond.code ({ cls := "VetoHouse$Deputy", name := "copyFrom", desc := "(LVetoHouse$Deputy;)V" } : Jvm.MethodName) prog_2_method_2_code (2 : Nat) (Option.none : Option Jvm.ClassFile.FieldType)) := ⟨List.mem_append_right _ (List.mem_of_getElem? (i := 449) (by decide +kernel)), rfl⟩
theorem tw_450 : zT (Jvm.Cond.methodLink "VetoHouse$House" (57 : Nat) ({ cls := "VetoHouse$Note", name := "copyFrom", desc := "(LVetoHouse$Note;)V" } : Jvm.MethodName)) := ⟨List.mem_append_right _ (List.mem_of_getElem? (i := 450) (by decide +kernel)), rfl⟩
theorem tw_451 : zT (Jvm.Cond.instanceMethod ({ cls := "VetoHouse$Note", name := "copyFrom", desc := "(LVetoHouse$Note;)V" } : Jvm.MethodName)) := ⟨List.mem_append_right _ (List.mem_of_getElem? (i := 451) (by decide +kernel)), rfl⟩
theorem tw_452 : zT (Jvm.Cond.selects "VetoHouse$Note" ({ cls := "VetoHouse$Note", name := "copyFrom", desc := "(LVetoHouse$Note;)V" } : Jvm.MethodName) ({ cls := "VetoHouse$Note", name := "copyFrom", desc := "(LVetoHouse$Note;)V" } : Jvm.MethodName)) := ⟨List.mem_append_right _ (List.mem_of_getElem? (i := 452) (by decide +kernel)), rfl⟩
theorem tw_453 : zT (Jvm.Cond.code ({ cls := "VetoHouse$Note", name := "copyFrom", desc := "(LVetoHouse$Note;)V" } : Jvm.MethodName) prog_6_method_2_code (2 : Nat) (Option.none : Option Jvm.ClassFile.FieldType)) := ⟨List.mem_append_right _ (List.mem_of_getElem? (i := 453) (by decide +kernel)), rfl⟩
theorem tw_454 : zT (Jvm.Cond.methodLink "VetoHouseLaw" (36 : Nat) ({ cls := "VetoHouse", name := "moves", desc := "(I)I" } : Jvm.MethodName)) := ⟨List.mem_append_right _ (List.mem_of_getElem? (i := 454) (by decide +kernel)), rfl⟩
theorem tw_455 : zT (Jvm.Cond.instanceMethod ({ cls := "VetoHouse", name := "moves", desc := "(I)I" } : Jvm.MethodName)) := ⟨List.mem_append_right _ (List.mem_of_getElem? (i := 455) (by decide +kernel)), rfl⟩
theorem tw_456 : zT (Jvm.Cond.selects "VetoHouse" ({ cls := "VetoHouse", name := "moves", desc := "(I)I" } : Jvm.MethodName) ({ cls := "VetoHouse", name := "moves", desc := "(I)I" } : Jvm.MethodName)) := ⟨List.mem_append_right _ (List.mem_of_getElem? (i := 456) (by decide +kernel)), rfl⟩
theorem tw_457 : zT (Jvm.Cond.code ({ cls := "VetoHouse", name := "moves", desc := "(I)I" } : Jvm.MethodName) prog_1_method_7_code (2 : Nat) (Option.some Jvm.ClassFile.FieldType.int)) := ⟨List.mem_append_right _ (List.mem_of_getElem? (i := 457) (by decide +kernel)), rfl⟩
theorem tw_458 : zT (Jvm.Cond.methodLink "VetoHouse" (111 : Nat) ({ cls := "VetoHouse$Sitting", name := "freeLaws", desc := "()I" } : Jvm.MethodName)) := ⟨List.mem_append_right _ (List.mem_of_getElem? (i := 458) (by decide +kernel)), rfl⟩
theorem tw_459 : zT (Jvm.Cond.instanceMethod ({ cls := "VetoHouse$Sitting", name := "freeLaws", desc := "()I" } : Jvm.MethodName)) := ⟨List.mem_append_right _ (List.mem_of_getElem? (i := 459) (by decide +kernel)), rfl⟩
theorem tw_460 : zT (Jvm.Cond.selects "VetoHouse$Sitting" ({ cls := "VetoHouse$Sitting", name := "freeLaws", desc := "()I" } : Jvm.MethodName) ({ cls := "VetoHouse$Sitting", name := "freeLaws", desc := "()I" } : Jvm.MethodName)) := ⟨List.mem_append_right _ (List.mem_of_getElem? (i := 460) (by decide +kernel)), rfl⟩
theorem tw_461 : zT (Jvm.Cond.code ({ cls := "VetoHouse$Sitting", name := "freeLaws", desc := "()I" } : Jvm.MethodName) prog_10_method_5_code (1 : Nat) (Option.some Jvm.ClassFile.FieldType.int)) := ⟨List.mem_append_right _ (List.mem_of_getElem? (i := 461) (by decide +kernel)), rfl⟩
theorem tw_462 : zT (Jvm.Cond.methodLink "VetoHouse" (115 : Nat) ({ cls := "VetoHouse$House", name := "remember", desc := "()V" } : Jvm.MethodName)) := ⟨List.mem_append_right _ (List.mem_of_getElem? (i := 462) (by decide +kernel)), rfl⟩
theorem tw_463 : zT (Jvm.Cond.instanceMethod ({ cls := "VetoHouse$House", name := "remember", desc := "()V" } : Jvm.MethodName)) := ⟨List.mem_append_right _ (List.mem_of_getElem? (i := 463) (by decide +kernel)), rfl⟩
theorem tw_464 : zT (Jvm.Cond.selects "VetoHouse$House" ({ cls := "VetoHouse$House", name := "remember", desc := "()V" } : Jvm.MethodName) ({ cls := "VetoHouse$House", name := "remember", desc := "()V" } : Jvm.MethodName)) := ⟨List.mem_append_right _ (List.mem_of_getElem? (i := 464) (by decide +kernel)), rfl⟩
theorem tw_465 : zT (Jvm.Cond.code ({ cls := "VetoHouse$House", name := "remember", desc := "()V" } : Jvm.MethodName) prog_3_method_8_code (2 : Nat) (Option.none : Option Jvm.ClassFile.FieldType)) := ⟨List.mem_append_right _ (List.mem_of_getElem? (i := 465) (by decide +kernel)), rfl⟩
theorem tw_466 : zT (Jvm.Cond.methodLink "VetoHouse" (118 : Nat) ({ cls := "VetoHouse", name := "moveIn", desc := "(LVetoHouse$Sitting;I)I" } : Jvm.MethodName)) := ⟨List.mem_append_right _ (List.mem_of_getElem? (i := 466) (by decide +kernel)), rfl⟩
theorem tw_468 : zT (Jvm.Cond.instanceMethod ({ cls := "VetoHouse", name := "moveIn", desc := "(LVetoHouse$Sitting;I)I" } : Jvm.MethodName)) := ⟨List.mem_append_right _ (List.mem_of_getElem? (i := 468) (by decide +kernel)), rfl⟩
theorem tw_469 : zT (Jvm.Cond.code ({ cls := "VetoHouse", name := "moveIn", desc := "(LVetoHouse$Sitting;I)I" } : Jvm.MethodName) prog_1_method_48_code (4 : Nat) (Option.some Jvm.ClassFile.FieldType.int)) := ⟨List.mem_append_right _ (List.mem_of_getElem? (i := 469) (by decide +kernel)), rfl⟩
theorem tw_470 : zT (Jvm.Cond.methodLink "VetoHouse" (182 : Nat) ({ cls := "VetoHouse", name := "stoppers", desc := "(LVetoHouse$Sitting;I)I" } : Jvm.MethodName)) := ⟨List.mem_append_right _ (List.mem_of_getElem? (i := 470) (by decide +kernel)), rfl⟩
theorem tw_472 : zT (Jvm.Cond.instanceMethod ({ cls := "VetoHouse", name := "stoppers", desc := "(LVetoHouse$Sitting;I)I" } : Jvm.MethodName)) := ⟨List.mem_append_right _ (List.mem_of_getElem? (i := 472) (by decide +kernel)), rfl⟩
theorem tw_473 : zT (Jvm.Cond.code ({ cls := "VetoHouse", name := "stoppers", desc := "(LVetoHouse$Sitting;I)I" } : Jvm.MethodName) prog_1_method_47_code (7 : Nat) (Option.some Jvm.ClassFile.FieldType.int)) := ⟨List.mem_append_right _ (List.mem_of_getElem? (i := 473) (by decide +kernel)), rfl⟩
theorem tw_474 : zT (Jvm.Cond.methodLink "VetoHouse" (128 : Nat) ({ cls := "VetoHouse$House", name := "deputyAt", desc := "(I)LVetoHouse$Deputy;" } : Jvm.MethodName)) := ⟨List.mem_append_right _ (List.mem_of_getElem? (i := 474) (by decide +kernel)), rfl⟩
theorem tw_475 : zT (Jvm.Cond.methodLink "VetoHouse" (135 : Nat) ({ cls := "VetoHouse", name := "bitOf", desc := "(I)I" } : Jvm.MethodName)) := ⟨List.mem_append_right _ (List.mem_of_getElem? (i := 475) (by decide +kernel)), rfl⟩
theorem tw_476 : zT (Jvm.Cond.methodLink "VetoHouse" (276 : Nat) ({ cls := "VetoHouse", name := "wouldStop", desc := "(IIIII)Z" } : Jvm.MethodName)) := ⟨List.mem_append_right _ (List.mem_of_getElem? (i := 476) (by decide +kernel)), rfl⟩
theorem tw_478 : zT (Jvm.Cond.instanceMethod ({ cls := "VetoHouse", name := "wouldStop", desc := "(IIIII)Z" } : Jvm.MethodName)) := ⟨List.mem_append_right _ (List.mem_of_getElem? (i := 478) (by decide +kernel)), rfl⟩
theorem tw_479 : zT (Jvm.Cond.code ({ cls := "VetoHouse", name := "wouldStop", desc := "(IIIII)Z" } : Jvm.MethodName) prog_1_method_46_code (8 : Nat) (Option.some Jvm.ClassFile.FieldType.boolean)) := ⟨List.mem_append_right _ (List.mem_of_getElem? (i := 479) (by decide +kernel)), rfl⟩
theorem tw_480 : zT (Jvm.Cond.methodLink "VetoHouse" (262 : Nat) ({ cls := "VetoHouse", name := "kindAt", desc := "(I)LVetoHouse$Plain;" } : Jvm.MethodName)) := ⟨List.mem_append_right _ (List.mem_of_getElem? (i := 480) (by decide +kernel)), rfl⟩
theorem tw_482 : zT (Jvm.Cond.instanceMethod ({ cls := "VetoHouse", name := "kindAt", desc := "(I)LVetoHouse$Plain;" } : Jvm.MethodName)) := ⟨List.mem_append_right _ (List.mem_of_getElem? (i := 482) (by decide +kernel)), rfl⟩
theorem tw_483 : zT (Jvm.Cond.code ({ cls := "VetoHouse", name := "kindAt", desc := "(I)LVetoHouse$Plain;" } : Jvm.MethodName) prog_1_method_41_code (2 : Nat) (Option.some (Jvm.ClassFile.FieldType.object "VetoHouse$Plain"))) := ⟨List.mem_append_right _ (List.mem_of_getElem? (i := 483) (by decide +kernel)), rfl⟩
theorem tw_484 : zT (Jvm.Cond.methodLink "VetoHouse" (192 : Nat) ({ cls := "java/lang/Integer", name := "bitCount", desc := "(I)I" } : Jvm.MethodName)) := ⟨List.mem_append_right _ (List.mem_of_getElem? (i := 484) (by decide +kernel)), rfl⟩
theorem tw_485 : zT (Jvm.Cond.static ({ cls := "java/lang/Integer", name := "bitCount", desc := "(I)I" } : Jvm.MethodName)) := ⟨List.mem_append_right _ (List.mem_of_getElem? (i := 485) (by decide +kernel)), rfl⟩
theorem tw_486 : zT (Jvm.Cond.code ({ cls := "java/lang/Integer", name := "bitCount", desc := "(I)I" } : Jvm.MethodName) prog_15_method_49_code (1 : Nat) (Option.some Jvm.ClassFile.FieldType.int)) := ⟨List.mem_append_right _ (List.mem_of_getElem? (i := 486) (by decide +kernel)), rfl⟩
theorem tw_487 : zT (Jvm.Cond.constant "java/lang/Integer" (265 : Nat) (1431655765 : Int32)) := ⟨List.mem_append_right _ (List.mem_of_getElem? (i := 487) (by decide +kernel)), rfl⟩
theorem tw_488 : zT (Jvm.Cond.constant "java/lang/Integer" (266 : Nat) (858993459 : Int32)) := ⟨List.mem_append_right _ (List.mem_of_getElem? (i := 488) (by decide +kernel)), rfl⟩
theorem tw_489 : zT (Jvm.Cond.constant "java/lang/Integer" (267 : Nat) (252645135 : Int32)) := ⟨List.mem_append_right _ (List.mem_of_getElem? (i := 489) (by decide +kernel)), rfl⟩
theorem tw_490 : zT (Jvm.Cond.methodLink "VetoHouse" (269 : Nat) ({ cls := "VetoHouse$Plain", name := "joyBy", desc := "(II)I" } : Jvm.MethodName)) := ⟨List.mem_append_right _ (List.mem_of_getElem? (i := 490) (by decide +kernel)), rfl⟩
theorem tw_491 : zT (Jvm.Cond.instanceMethod ({ cls := "VetoHouse$Plain", name := "joyBy", desc := "(II)I" } : Jvm.MethodName)) := ⟨List.mem_append_right _ (List.mem_of_getElem? (i := 491) (by decide +kernel)), rfl⟩
theorem tw_492 : zT (Jvm.Cond.selects "VetoHouse$Plain" ({ cls := "VetoHouse$Plain", name := "joyBy", desc := "(II)I" } : Jvm.MethodName) ({ cls := "VetoHouse$Plain", name := "joyBy", desc := "(II)I" } : Jvm.MethodName)) := ⟨List.mem_append_right _ (List.mem_of_getElem? (i := 492) (by decide +kernel)), rfl⟩
theorem tw_493 : zT (Jvm.Cond.sameMethod "VetoHouse$Plain" "VetoHouse$Plain" "joyBy" "(II)I") := ⟨List.mem_append_right _ (List.mem_of_getElem? (i := 493) (by decide +kernel)), rfl⟩
theorem tw_494 : zT (Jvm.Cond.selects "VetoHouse$Kept" ({ cls := "VetoHouse$Plain", name := "joyBy", desc := "(II)I" } : Jvm.MethodName) ({ cls := "VetoHouse$Plain", name := "joyBy", desc := "(II)I" } : Jvm.MethodName)) := ⟨List.mem_append_right _ (List.mem_of_getElem? (i := 494) (by decide +kernel)), rfl⟩
theorem tw_495 : zT (Jvm.Cond.selects "VetoHouse$Late" ({ cls := "VetoHouse$Plain", name := "joyBy", desc := "(II)I" } : Jvm.MethodName) ({ cls := "VetoHouse$Timid", name := "joyBy", desc := "(II)I" } : Jvm.MethodName)) := ⟨List.mem_append_right _ (List.mem_of_getElem? (i := 495) (by decide +kernel)), rfl⟩
theorem tw_496 : zT (Jvm.Cond.instanceMethod ({ cls := "VetoHouse$Timid", name := "joyBy", desc := "(II)I" } : Jvm.MethodName)) := ⟨List.mem_append_right _ (List.mem_of_getElem? (i := 496) (by decide +kernel)), rfl⟩
theorem tw_497 : zT (Jvm.Cond.code ({ cls := "VetoHouse$Timid", name := "joyBy", desc := "(II)I" } : Jvm.MethodName) prog_12_method_2_code (3 : Nat) (Option.some Jvm.ClassFile.FieldType.int)) := ⟨List.mem_append_right _ (List.mem_of_getElem? (i := 497) (by decide +kernel)), rfl⟩
theorem tw_498 : zT (Jvm.Cond.methodLink "VetoHouse$Timid" (7 : Nat) ({ cls := "VetoHouse$Plain", name := "joyBy", desc := "(II)I" } : Jvm.MethodName)) := ⟨List.mem_append_right _ (List.mem_of_getElem? (i := 498) (by decide +kernel)), rfl⟩
theorem tw_499 : zT (Jvm.Cond.selects "VetoHouse$Poor" ({ cls := "VetoHouse$Plain", name := "joyBy", desc := "(II)I" } : Jvm.MethodName) ({ cls := "VetoHouse$Plain", name := "joyBy", desc := "(II)I" } : Jvm.MethodName)) := ⟨List.mem_append_right _ (List.mem_of_getElem? (i := 499) (by decide +kernel)), rfl⟩
theorem tw_500 : zT (Jvm.Cond.selects "VetoHouse$Proud" ({ cls := "VetoHouse$Plain", name := "joyBy", desc := "(II)I" } : Jvm.MethodName) ({ cls := "VetoHouse$Plain", name := "joyBy", desc := "(II)I" } : Jvm.MethodName)) := ⟨List.mem_append_right _ (List.mem_of_getElem? (i := 500) (by decide +kernel)), rfl⟩
theorem tw_501 : zT (Jvm.Cond.selects "VetoHouse$Timid" ({ cls := "VetoHouse$Plain", name := "joyBy", desc := "(II)I" } : Jvm.MethodName) ({ cls := "VetoHouse$Timid", name := "joyBy", desc := "(II)I" } : Jvm.MethodName)) := ⟨List.mem_append_right _ (List.mem_of_getElem? (i := 501) (by decide +kernel)), rfl⟩
theorem tw_502 : zT (Jvm.Cond.code ({ cls := "VetoHouse$Plain", name := "joyBy", desc := "(II)I" } : Jvm.MethodName) prog_7_method_2_code (3 : Nat) (Option.some Jvm.ClassFile.FieldType.int)) := ⟨List.mem_append_right _ (List.mem_of_getElem? (i := 502) (by decide +kernel)), rfl⟩
theorem tw_503 : zT (Jvm.Cond.methodLink "VetoHouse" (272 : Nat) ({ cls := "VetoHouse$Plain", name := "refuses", desc := "(III)Z" } : Jvm.MethodName)) := ⟨List.mem_append_right _ (List.mem_of_getElem? (i := 503) (by decide +kernel)), rfl⟩
theorem tw_504 : zT (Jvm.Cond.instanceMethod ({ cls := "VetoHouse$Plain", name := "refuses", desc := "(III)Z" } : Jvm.MethodName)) := ⟨List.mem_append_right _ (List.mem_of_getElem? (i := 504) (by decide +kernel)), rfl⟩
theorem tw_505 : zT (Jvm.Cond.selects "VetoHouse$Plain" ({ cls := "VetoHouse$Plain", name := "refuses", desc := "(III)Z" } : Jvm.MethodName) ({ cls := "VetoHouse$Plain", name := "refuses", desc := "(III)Z" } : Jvm.MethodName)) := ⟨List.mem_append_right _ (List.mem_of_getElem? (i := 505) (by decide +kernel)), rfl⟩
theorem tw_506 : zT (Jvm.Cond.sameMethod "VetoHouse$Plain" "VetoHouse$Plain" "refuses" "(III)Z") := ⟨List.mem_append_right _ (List.mem_of_getElem? (i := 506) (by decide +kernel)), rfl⟩
theorem tw_507 : zT (Jvm.Cond.selects "VetoHouse$Kept" ({ cls := "VetoHouse$Plain", name := "refuses", desc := "(III)Z" } : Jvm.MethodName) ({ cls := "VetoHouse$Kept", name := "refuses", desc := "(III)Z" } : Jvm.MethodName)) := ⟨List.mem_append_right _ (List.mem_of_getElem? (i := 507) (by decide +kernel)), rfl⟩
theorem tw_508 : zT (Jvm.Cond.instanceMethod ({ cls := "VetoHouse$Kept", name := "refuses", desc := "(III)Z" } : Jvm.MethodName)) := ⟨List.mem_append_right _ (List.mem_of_getElem? (i := 508) (by decide +kernel)), rfl⟩
theorem tw_509 : zT (Jvm.Cond.code ({ cls := "VetoHouse$Kept", name := "refuses", desc := "(III)Z" } : Jvm.MethodName) prog_4_method_2_code (4 : Nat) (Option.some Jvm.ClassFile.FieldType.boolean)) := ⟨List.mem_append_right _ (List.mem_of_getElem? (i := 509) (by decide +kernel)), rfl⟩
theorem tw_510 : zT (Jvm.Cond.methodLink "VetoHouse$Kept" (7 : Nat) ({ cls := "VetoHouse$Proud", name := "refuses", desc := "(III)Z" } : Jvm.MethodName)) := ⟨List.mem_append_right _ (List.mem_of_getElem? (i := 510) (by decide +kernel)), rfl⟩
theorem tw_511 : zT (Jvm.Cond.instanceMethod ({ cls := "VetoHouse$Proud", name := "refuses", desc := "(III)Z" } : Jvm.MethodName)) := ⟨List.mem_append_right _ (List.mem_of_getElem? (i := 511) (by decide +kernel)), rfl⟩
theorem tw_512 : zT (Jvm.Cond.code ({ cls := "VetoHouse$Proud", name := "refuses", desc := "(III)Z" } : Jvm.MethodName) prog_9_method_2_code (4 : Nat) (Option.some Jvm.ClassFile.FieldType.boolean)) := ⟨List.mem_append_right _ (List.mem_of_getElem? (i := 512) (by decide +kernel)), rfl⟩
theorem tw_513 : zT (Jvm.Cond.methodLink "VetoHouse$Proud" (7 : Nat) ({ cls := "VetoHouse$Plain", name := "refuses", desc := "(III)Z" } : Jvm.MethodName)) := ⟨List.mem_append_right _ (List.mem_of_getElem? (i := 513) (by decide +kernel)), rfl⟩
theorem tw_514 : zT (Jvm.Cond.selects "VetoHouse$Late" ({ cls := "VetoHouse$Plain", name := "refuses", desc := "(III)Z" } : Jvm.MethodName) ({ cls := "VetoHouse$Late", name := "refuses", desc := "(III)Z" } : Jvm.MethodName)) := ⟨List.mem_append_right _ (List.mem_of_getElem? (i := 514) (by decide +kernel)), rfl⟩
theorem tw_515 : zT (Jvm.Cond.instanceMethod ({ cls := "VetoHouse$Late", name := "refuses", desc := "(III)Z" } : Jvm.MethodName)) := ⟨List.mem_append_right _ (List.mem_of_getElem? (i := 515) (by decide +kernel)), rfl⟩
theorem tw_516 : zT (Jvm.Cond.code ({ cls := "VetoHouse$Late", name := "refuses", desc := "(III)Z" } : Jvm.MethodName) prog_5_method_2_code (4 : Nat) (Option.some Jvm.ClassFile.FieldType.boolean)) := ⟨List.mem_append_right _ (List.mem_of_getElem? (i := 516) (by decide +kernel)), rfl⟩
theorem tw_517 : zT (Jvm.Cond.methodLink "VetoHouse$Late" (7 : Nat) ({ cls := "VetoHouse$Timid", name := "refuses", desc := "(III)Z" } : Jvm.MethodName)) := ⟨List.mem_append_right _ (List.mem_of_getElem? (i := 517) (by decide +kernel)), rfl⟩
theorem tw_518 : zT (Jvm.Cond.sameMethod "VetoHouse$Timid" "VetoHouse$Plain" "refuses" "(III)Z") := ⟨List.mem_append_right _ (List.mem_of_getElem? (i := 518) (by decide +kernel)), rfl⟩
theorem tw_520 : zT (Jvm.Cond.selects "VetoHouse$Poor" ({ cls := "VetoHouse$Plain", name := "refuses", desc := "(III)Z" } : Jvm.MethodName) ({ cls := "VetoHouse$Plain", name := "refuses", desc := "(III)Z" } : Jvm.MethodName)) := ⟨List.mem_append_right _ (List.mem_of_getElem? (i := 520) (by decide +kernel)), rfl⟩
theorem tw_521 : zT (Jvm.Cond.selects "VetoHouse$Proud" ({ cls := "VetoHouse$Plain", name := "refuses", desc := "(III)Z" } : Jvm.MethodName) ({ cls := "VetoHouse$Proud", name := "refuses", desc := "(III)Z" } : Jvm.MethodName)) := ⟨List.mem_append_right _ (List.mem_of_getElem? (i := 521) (by decide +kernel)), rfl⟩
theorem tw_522 : zT (Jvm.Cond.selects "VetoHouse$Timid" ({ cls := "VetoHouse$Plain", name := "refuses", desc := "(III)Z" } : Jvm.MethodName) ({ cls := "VetoHouse$Plain", name := "refuses", desc := "(III)Z" } : Jvm.MethodName)) := ⟨List.mem_append_right _ (List.mem_of_getElem? (i := 522) (by decide +kernel)), rfl⟩
theorem tw_523 : zT (Jvm.Cond.code ({ cls := "VetoHouse$Plain", name := "refuses", desc := "(III)Z" } : Jvm.MethodName) prog_7_method_3_code (4 : Nat) (Option.some Jvm.ClassFile.FieldType.boolean)) := ⟨List.mem_append_right _ (List.mem_of_getElem? (i := 523) (by decide +kernel)), rfl⟩
theorem tw_524 : zT (Jvm.Cond.methodLink "VetoHouse" (122 : Nat) ({ cls := "VetoHouse$Sitting", name := "close", desc := "()V" } : Jvm.MethodName)) := ⟨List.mem_append_right _ (List.mem_of_getElem? (i := 524) (by decide +kernel)), rfl⟩
theorem tw_525 : zT (Jvm.Cond.instanceMethod ({ cls := "VetoHouse$Sitting", name := "close", desc := "()V" } : Jvm.MethodName)) := ⟨List.mem_append_right _ (List.mem_of_getElem? (i := 525) (by decide +kernel)), rfl⟩
theorem tw_526 : zT (Jvm.Cond.selects "VetoHouse$Sitting" ({ cls := "VetoHouse$Sitting", name := "close", desc := "()V" } : Jvm.MethodName) ({ cls := "VetoHouse$Sitting", name := "close", desc := "()V" } : Jvm.MethodName)) := ⟨List.mem_append_right _ (List.mem_of_getElem? (i := 526) (by decide +kernel)), rfl⟩
theorem tw_527 : zT (Jvm.Cond.code ({ cls := "VetoHouse$Sitting", name := "close", desc := "()V" } : Jvm.MethodName) prog_10_method_4_code (1 : Nat) (Option.none : Option Jvm.ClassFile.FieldType)) := ⟨List.mem_append_right _ (List.mem_of_getElem? (i := 527) (by decide +kernel)), rfl⟩
theorem tw_528 : zT (Jvm.Cond.methodLink "VetoHouseLaw" (40 : Nat) ({ cls := "VetoHouse", name := "end", desc := "()I" } : Jvm.MethodName)) := ⟨List.mem_append_right _ (List.mem_of_getElem? (i := 528) (by decide +kernel)), rfl⟩
theorem tw_529 : zT (Jvm.Cond.instanceMethod ({ cls := "VetoHouse", name := "end", desc := "()I" } : Jvm.MethodName)) := ⟨List.mem_append_right _ (List.mem_of_getElem? (i := 529) (by decide +kernel)), rfl⟩
theorem tw_530 : zT (Jvm.Cond.selects "VetoHouse" ({ cls := "VetoHouse", name := "end", desc := "()I" } : Jvm.MethodName) ({ cls := "VetoHouse", name := "end", desc := "()I" } : Jvm.MethodName)) := ⟨List.mem_append_right _ (List.mem_of_getElem? (i := 530) (by decide +kernel)), rfl⟩
theorem tw_531 : zT (Jvm.Cond.code ({ cls := "VetoHouse", name := "end", desc := "()I" } : Jvm.MethodName) prog_1_method_8_code (1 : Nat) (Option.some Jvm.ClassFile.FieldType.int)) := ⟨List.mem_append_right _ (List.mem_of_getElem? (i := 531) (by decide +kernel)), rfl⟩
theorem tw_532 : zT (Jvm.Cond.methodLink "VetoHouseLaw" (44 : Nat) ({ cls := "VetoHouse", name := "buy", desc := "(I)I" } : Jvm.MethodName)) := ⟨List.mem_append_right _ (List.mem_of_getElem? (i := 532) (by decide +kernel)), rfl⟩
theorem tw_533 : zT (Jvm.Cond.instanceMethod ({ cls := "VetoHouse", name := "buy", desc := "(I)I" } : Jvm.MethodName)) := ⟨List.mem_append_right _ (List.mem_of_getElem? (i := 533) (by decide +kernel)), rfl⟩
theorem tw_534 : zT (Jvm.Cond.selects "VetoHouse" ({ cls := "VetoHouse", name := "buy", desc := "(I)I" } : Jvm.MethodName) ({ cls := "VetoHouse", name := "buy", desc := "(I)I" } : Jvm.MethodName)) := ⟨List.mem_append_right _ (List.mem_of_getElem? (i := 534) (by decide +kernel)), rfl⟩
theorem tw_535 : zT (Jvm.Cond.code ({ cls := "VetoHouse", name := "buy", desc := "(I)I" } : Jvm.MethodName) prog_1_method_9_code (4 : Nat) (Option.some Jvm.ClassFile.FieldType.int)) := ⟨List.mem_append_right _ (List.mem_of_getElem? (i := 535) (by decide +kernel)), rfl⟩
theorem tw_536 : zT (Jvm.Cond.methodLink "VetoHouse" (138 : Nat) ({ cls := "VetoHouse", name := "costOf", desc := "(LVetoHouse$Deputy;)I" } : Jvm.MethodName)) := ⟨List.mem_append_right _ (List.mem_of_getElem? (i := 536) (by decide +kernel)), rfl⟩
theorem tw_538 : zT (Jvm.Cond.instanceMethod ({ cls := "VetoHouse", name := "costOf", desc := "(LVetoHouse$Deputy;)I" } : Jvm.MethodName)) := ⟨List.mem_append_right _ (List.mem_of_getElem? (i := 538) (by decide +kernel)), rfl⟩
theorem tw_539 : zT (Jvm.Cond.code ({ cls := "VetoHouse", name := "costOf", desc := "(LVetoHouse$Deputy;)I" } : Jvm.MethodName) prog_1_method_42_code (2 : Nat) (Option.some Jvm.ClassFile.FieldType.int)) := ⟨List.mem_append_right _ (List.mem_of_getElem? (i := 539) (by decide +kernel)), rfl⟩
theorem tw_540 : zT (Jvm.Cond.methodLink "VetoHouse" (266 : Nat) ({ cls := "VetoHouse$Plain", name := "costAt", desc := "(I)I" } : Jvm.MethodName)) := ⟨List.mem_append_right _ (List.mem_of_getElem? (i := 540) (by decide +kernel)), rfl⟩
theorem tw_541 : zT (Jvm.Cond.instanceMethod ({ cls := "VetoHouse$Plain", name := "costAt", desc := "(I)I" } : Jvm.MethodName)) := ⟨List.mem_append_right _ (List.mem_of_getElem? (i := 541) (by decide +kernel)), rfl⟩
theorem tw_542 : zT (Jvm.Cond.selects "VetoHouse$Plain" ({ cls := "VetoHouse$Plain", name := "costAt", desc := "(I)I" } : Jvm.MethodName) ({ cls := "VetoHouse$Plain", name := "costAt", desc := "(I)I" } : Jvm.MethodName)) := ⟨List.mem_append_right _ (List.mem_of_getElem? (i := 542) (by decide +kernel)), rfl⟩
theorem tw_543 : zT (Jvm.Cond.sameMethod "VetoHouse$Plain" "VetoHouse$Plain" "costAt" "(I)I") := ⟨List.mem_append_right _ (List.mem_of_getElem? (i := 543) (by decide +kernel)), rfl⟩
theorem tw_544 : zT (Jvm.Cond.selects "VetoHouse$Kept" ({ cls := "VetoHouse$Plain", name := "costAt", desc := "(I)I" } : Jvm.MethodName) ({ cls := "VetoHouse$Kept", name := "costAt", desc := "(I)I" } : Jvm.MethodName)) := ⟨List.mem_append_right _ (List.mem_of_getElem? (i := 544) (by decide +kernel)), rfl⟩
theorem tw_545 : zT (Jvm.Cond.instanceMethod ({ cls := "VetoHouse$Kept", name := "costAt", desc := "(I)I" } : Jvm.MethodName)) := ⟨List.mem_append_right _ (List.mem_of_getElem? (i := 545) (by decide +kernel)), rfl⟩
theorem tw_546 : zT (Jvm.Cond.code ({ cls := "VetoHouse$Kept", name := "costAt", desc := "(I)I" } : Jvm.MethodName) prog_4_method_3_code (2 : Nat) (Option.some Jvm.ClassFile.FieldType.int)) := ⟨List.mem_append_right _ (List.mem_of_getElem? (i := 546) (by decide +kernel)), rfl⟩
theorem tw_547 : zT (Jvm.Cond.methodLink "VetoHouse$Kept" (11 : Nat) ({ cls := "VetoHouse$Proud", name := "costAt", desc := "(I)I" } : Jvm.MethodName)) := ⟨List.mem_append_right _ (List.mem_of_getElem? (i := 547) (by decide +kernel)), rfl⟩
theorem tw_548 : zT (Jvm.Cond.sameMethod "VetoHouse$Proud" "VetoHouse$Plain" "costAt" "(I)I") := ⟨List.mem_append_right _ (List.mem_of_getElem? (i := 548) (by decide +kernel)), rfl⟩
theorem tw_550 : zT (Jvm.Cond.selects "VetoHouse$Late" ({ cls := "VetoHouse$Plain", name := "costAt", desc := "(I)I" } : Jvm.MethodName) ({ cls := "VetoHouse$Plain", name := "costAt", desc := "(I)I" } : Jvm.MethodName)) := ⟨List.mem_append_right _ (List.mem_of_getElem? (i := 550) (by decide +kernel)), rfl⟩
theorem tw_551 : zT (Jvm.Cond.selects "VetoHouse$Poor" ({ cls := "VetoHouse$Plain", name := "costAt", desc := "(I)I" } : Jvm.MethodName) ({ cls := "VetoHouse$Poor", name := "costAt", desc := "(I)I" } : Jvm.MethodName)) := ⟨List.mem_append_right _ (List.mem_of_getElem? (i := 551) (by decide +kernel)), rfl⟩
theorem tw_552 : zT (Jvm.Cond.instanceMethod ({ cls := "VetoHouse$Poor", name := "costAt", desc := "(I)I" } : Jvm.MethodName)) := ⟨List.mem_append_right _ (List.mem_of_getElem? (i := 552) (by decide +kernel)), rfl⟩
theorem tw_553 : zT (Jvm.Cond.code ({ cls := "VetoHouse$Poor", name := "costAt", desc := "(I)I" } : Jvm.MethodName) prog_8_method_2_code (2 : Nat) (Option.some Jvm.ClassFile.FieldType.int)) := ⟨List.mem_append_right _ (List.mem_of_getElem? (i := 553) (by decide +kernel)), rfl⟩
theorem tw_554 : zT (Jvm.Cond.methodLink "VetoHouse$Poor" (7 : Nat) ({ cls := "VetoHouse$Plain", name := "costAt", desc := "(I)I" } : Jvm.MethodName)) := ⟨List.mem_append_right _ (List.mem_of_getElem? (i := 554) (by decide +kernel)), rfl⟩
theorem tw_555 : zT (Jvm.Cond.selects "VetoHouse$Proud" ({ cls := "VetoHouse$Plain", name := "costAt", desc := "(I)I" } : Jvm.MethodName) ({ cls := "VetoHouse$Plain", name := "costAt", desc := "(I)I" } : Jvm.MethodName)) := ⟨List.mem_append_right _ (List.mem_of_getElem? (i := 555) (by decide +kernel)), rfl⟩
theorem tw_556 : zT (Jvm.Cond.selects "VetoHouse$Timid" ({ cls := "VetoHouse$Plain", name := "costAt", desc := "(I)I" } : Jvm.MethodName) ({ cls := "VetoHouse$Plain", name := "costAt", desc := "(I)I" } : Jvm.MethodName)) := ⟨List.mem_append_right _ (List.mem_of_getElem? (i := 556) (by decide +kernel)), rfl⟩
theorem tw_557 : zT (Jvm.Cond.code ({ cls := "VetoHouse$Plain", name := "costAt", desc := "(I)I" } : Jvm.MethodName) prog_7_method_4_code (2 : Nat) (Option.some Jvm.ClassFile.FieldType.int)) := ⟨List.mem_append_right _ (List.mem_of_getElem? (i := 557) (by decide +kernel)), rfl⟩
theorem tw_558 : zT (Jvm.Cond.methodLink "VetoHouseLaw" (48 : Nat) ({ cls := "VetoHouse", name := "lock", desc := "(I)I" } : Jvm.MethodName)) := ⟨List.mem_append_right _ (List.mem_of_getElem? (i := 558) (by decide +kernel)), rfl⟩
theorem tw_559 : zT (Jvm.Cond.instanceMethod ({ cls := "VetoHouse", name := "lock", desc := "(I)I" } : Jvm.MethodName)) := ⟨List.mem_append_right _ (List.mem_of_getElem? (i := 559) (by decide +kernel)), rfl⟩
theorem tw_560 : zT (Jvm.Cond.selects "VetoHouse" ({ cls := "VetoHouse", name := "lock", desc := "(I)I" } : Jvm.MethodName) ({ cls := "VetoHouse", name := "lock", desc := "(I)I" } : Jvm.MethodName)) := ⟨List.mem_append_right _ (List.mem_of_getElem? (i := 560) (by decide +kernel)), rfl⟩
theorem tw_561 : zT (Jvm.Cond.code ({ cls := "VetoHouse", name := "lock", desc := "(I)I" } : Jvm.MethodName) prog_1_method_10_code (2 : Nat) (Option.some Jvm.ClassFile.FieldType.int)) := ⟨List.mem_append_right _ (List.mem_of_getElem? (i := 561) (by decide +kernel)), rfl⟩
theorem tw_562 : zT (Jvm.Cond.methodLink "VetoHouseLaw" (52 : Nat) ({ cls := "VetoHouse", name := "undo", desc := "()I" } : Jvm.MethodName)) := ⟨List.mem_append_right _ (List.mem_of_getElem? (i := 562) (by decide +kernel)), rfl⟩
theorem tw_563 : zT (Jvm.Cond.instanceMethod ({ cls := "VetoHouse", name := "undo", desc := "()I" } : Jvm.MethodName)) := ⟨List.mem_append_right _ (List.mem_of_getElem? (i := 563) (by decide +kernel)), rfl⟩
theorem tw_564 : zT (Jvm.Cond.selects "VetoHouse" ({ cls := "VetoHouse", name := "undo", desc := "()I" } : Jvm.MethodName) ({ cls := "VetoHouse", name := "undo", desc := "()I" } : Jvm.MethodName)) := ⟨List.mem_append_right _ (List.mem_of_getElem? (i := 564) (by decide +kernel)), rfl⟩
theorem tw_565 : zT (Jvm.Cond.code ({ cls := "VetoHouse", name := "undo", desc := "()I" } : Jvm.MethodName) prog_1_method_11_code (1 : Nat) (Option.some Jvm.ClassFile.FieldType.int)) := ⟨List.mem_append_right _ (List.mem_of_getElem? (i := 565) (by decide +kernel)), rfl⟩
theorem tw_566 : zT (Jvm.Cond.methodLink "VetoHouse" (151 : Nat) ({ cls := "VetoHouse$House", name := "goBack", desc := "()V" } : Jvm.MethodName)) := ⟨List.mem_append_right _ (List.mem_of_getElem? (i := 566) (by decide +kernel)), rfl⟩
theorem tw_567 : zT (Jvm.Cond.instanceMethod ({ cls := "VetoHouse$House", name := "goBack", desc := "()V" } : Jvm.MethodName)) := ⟨List.mem_append_right _ (List.mem_of_getElem? (i := 567) (by decide +kernel)), rfl⟩
theorem tw_568 : zT (Jvm.Cond.selects "VetoHouse$House" ({ cls := "VetoHouse$House", name := "goBack", desc := "()V" } : Jvm.MethodName) ({ cls := "VetoHouse$House", name := "goBack", desc := "()V" } : Jvm.MethodName)) := ⟨List.mem_append_right _ (List.mem_of_getElem? (i := 568) (by decide +kernel)), rfl⟩
theorem tw_569 : zT (Jvm.Cond.code ({ cls := "VetoHouse$House", name := "goBack", desc := "()V" } : Jvm.MethodName) prog_3_method_9_code (1 : Nat) (Option.none : Option Jvm.ClassFile.FieldType)) := ⟨List.mem_append_right _ (List.mem_of_getElem? (i := 569) (by decide +kernel)), rfl⟩
theorem tw_570 : zT (Jvm.Cond.methodLink "VetoHouseLaw" (56 : Nat) ({ cls := "VetoHouse", name := "of", desc := "(II)I" } : Jvm.MethodName)) := ⟨List.mem_append_right _ (List.mem_of_getElem? (i := 570) (by decide +kernel)), rfl⟩
theorem tw_571 : zT (Jvm.Cond.instanceMethod ({ cls := "VetoHouse", name := "of", desc := "(II)I" } : Jvm.MethodName)) := ⟨List.mem_append_right _ (List.mem_of_getElem? (i := 571) (by decide +kernel)), rfl⟩
theorem tw_572 : zT (Jvm.Cond.selects "VetoHouse" ({ cls := "VetoHouse", name := "of", desc := "(II)I" } : Jvm.MethodName) ({ cls := "VetoHouse", name := "of", desc := "(II)I" } : Jvm.MethodName)) := ⟨List.mem_append_right _ (List.mem_of_getElem? (i := 572) (by decide +kernel)), rfl⟩
theorem tw_573 : zT (Jvm.Cond.code ({ cls := "VetoHouse", name := "of", desc := "(II)I" } : Jvm.MethodName) prog_1_method_12_code (4 : Nat) (Option.some Jvm.ClassFile.FieldType.int)) := ⟨List.mem_append_right _ (List.mem_of_getElem? (i := 573) (by decide +kernel)), rfl⟩
theorem tw_574 : zT (Jvm.Cond.methodLink "VetoHouse" (171 : Nat) ({ cls := "VetoHouse", name := "oneIf", desc := "(Z)I" } : Jvm.MethodName)) := ⟨List.mem_append_right _ (List.mem_of_getElem? (i := 574) (by decide +kernel)), rfl⟩
theorem tw_575 : zT (Jvm.Cond.static ({ cls := "VetoHouse", name := "oneIf", desc := "(Z)I" } : Jvm.MethodName)) := ⟨List.mem_append_right _ (List.mem_of_getElem? (i := 575) (by decide +kernel)), rfl⟩
theorem tw_576 : zT (Jvm.Cond.code ({ cls := "VetoHouse", name := "oneIf", desc := "(Z)I" } : Jvm.MethodName) prog_1_method_38_code (1 : Nat) (Option.some Jvm.ClassFile.FieldType.int)) := ⟨List.mem_append_right _ (List.mem_of_getElem? (i := 576) (by decide +kernel)), rfl⟩
theorem tw_577 : zT (Jvm.Cond.methodLink "VetoHouseLaw" (61 : Nat) ({ cls := "VetoHouse", name := "joy", desc := "(II)I" } : Jvm.MethodName)) := ⟨List.mem_append_right _ (List.mem_of_getElem? (i := 577) (by decide +kernel)), rfl⟩
theorem tw_578 : zT (Jvm.Cond.instanceMethod ({ cls := "VetoHouse", name := "joy", desc := "(II)I" } : Jvm.MethodName)) := ⟨List.mem_append_right _ (List.mem_of_getElem? (i := 578) (by decide +kernel)), rfl⟩
theorem tw_579 : zT (Jvm.Cond.selects "VetoHouse" ({ cls := "VetoHouse", name := "joy", desc := "(II)I" } : Jvm.MethodName) ({ cls := "VetoHouse", name := "joy", desc := "(II)I" } : Jvm.MethodName)) := ⟨List.mem_append_right _ (List.mem_of_getElem? (i := 579) (by decide +kernel)), rfl⟩
theorem tw_580 : zT (Jvm.Cond.code ({ cls := "VetoHouse", name := "joy", desc := "(II)I" } : Jvm.MethodName) prog_1_method_13_code (4 : Nat) (Option.some Jvm.ClassFile.FieldType.int)) := ⟨List.mem_append_right _ (List.mem_of_getElem? (i := 580) (by decide +kernel)), rfl⟩
theorem tw_581 : zT (Jvm.Cond.methodLink "VetoHouse" (175 : Nat) ({ cls := "VetoHouse", name := "joyFor", desc := "(LVetoHouse$Deputy;I)I" } : Jvm.MethodName)) := ⟨List.mem_append_right _ (List.mem_of_getElem? (i := 581) (by decide +kernel)), rfl⟩
theorem tw_583 : zT (Jvm.Cond.instanceMethod ({ cls := "VetoHouse", name := "joyFor", desc := "(LVetoHouse$Deputy;I)I" } : Jvm.MethodName)) := ⟨List.mem_append_right _ (List.mem_of_getElem? (i := 583) (by decide +kernel)), rfl⟩
theorem tw_584 : zT (Jvm.Cond.code ({ cls := "VetoHouse", name := "joyFor", desc := "(LVetoHouse$Deputy;I)I" } : Jvm.MethodName) prog_1_method_44_code (3 : Nat) (Option.some Jvm.ClassFile.FieldType.int)) := ⟨List.mem_append_right _ (List.mem_of_getElem? (i := 584) (by decide +kernel)), rfl⟩
theorem tw_585 : zT (Jvm.Cond.methodLink "VetoHouseLaw" (65 : Nat) ({ cls := "VetoHouse", name := "acts", desc := "(I)I" } : Jvm.MethodName)) := ⟨List.mem_append_right _ (List.mem_of_getElem? (i := 585) (by decide +kernel)), rfl⟩
theorem tw_586 : zT (Jvm.Cond.instanceMethod ({ cls := "VetoHouse", name := "acts", desc := "(I)I" } : Jvm.MethodName)) := ⟨List.mem_append_right _ (List.mem_of_getElem? (i := 586) (by decide +kernel)), rfl⟩
theorem tw_587 : zT (Jvm.Cond.selects "VetoHouse" ({ cls := "VetoHouse", name := "acts", desc := "(I)I" } : Jvm.MethodName) ({ cls := "VetoHouse", name := "acts", desc := "(I)I" } : Jvm.MethodName)) := ⟨List.mem_append_right _ (List.mem_of_getElem? (i := 587) (by decide +kernel)), rfl⟩
theorem tw_588 : zT (Jvm.Cond.code ({ cls := "VetoHouse", name := "acts", desc := "(I)I" } : Jvm.MethodName) prog_1_method_14_code (2 : Nat) (Option.some Jvm.ClassFile.FieldType.int)) := ⟨List.mem_append_right _ (List.mem_of_getElem? (i := 588) (by decide +kernel)), rfl⟩
theorem tw_589 : zT (Jvm.Cond.methodLink "VetoHouseLaw" (69 : Nat) ({ cls := "VetoHouse", name := "stops", desc := "(I)I" } : Jvm.MethodName)) := ⟨List.mem_append_right _ (List.mem_of_getElem? (i := 589) (by decide +kernel)), rfl⟩
theorem tw_590 : zT (Jvm.Cond.instanceMethod ({ cls := "VetoHouse", name := "stops", desc := "(I)I" } : Jvm.MethodName)) := ⟨List.mem_append_right _ (List.mem_of_getElem? (i := 590) (by decide +kernel)), rfl⟩
theorem tw_591 : zT (Jvm.Cond.selects "VetoHouse" ({ cls := "VetoHouse", name := "stops", desc := "(I)I" } : Jvm.MethodName) ({ cls := "VetoHouse", name := "stops", desc := "(I)I" } : Jvm.MethodName)) := ⟨List.mem_append_right _ (List.mem_of_getElem? (i := 591) (by decide +kernel)), rfl⟩
theorem tw_592 : zT (Jvm.Cond.code ({ cls := "VetoHouse", name := "stops", desc := "(I)I" } : Jvm.MethodName) prog_1_method_15_code (2 : Nat) (Option.some Jvm.ClassFile.FieldType.int)) := ⟨List.mem_append_right _ (List.mem_of_getElem? (i := 592) (by decide +kernel)), rfl⟩
theorem tw_593 : zT (Jvm.Cond.methodLink "VetoHouseLaw" (73 : Nat) ({ cls := "VetoHouse", name := "most", desc := "()I" } : Jvm.MethodName)) := ⟨List.mem_append_right _ (List.mem_of_getElem? (i := 593) (by decide +kernel)), rfl⟩
theorem tw_594 : zT (Jvm.Cond.instanceMethod ({ cls := "VetoHouse", name := "most", desc := "()I" } : Jvm.MethodName)) := ⟨List.mem_append_right _ (List.mem_of_getElem? (i := 594) (by decide +kernel)), rfl⟩
theorem tw_595 : zT (Jvm.Cond.selects "VetoHouse" ({ cls := "VetoHouse", name := "most", desc := "()I" } : Jvm.MethodName) ({ cls := "VetoHouse", name := "most", desc := "()I" } : Jvm.MethodName)) := ⟨List.mem_append_right _ (List.mem_of_getElem? (i := 595) (by decide +kernel)), rfl⟩
theorem tw_596 : zT (Jvm.Cond.code ({ cls := "VetoHouse", name := "most", desc := "()I" } : Jvm.MethodName) prog_1_method_16_code (1 : Nat) (Option.some Jvm.ClassFile.FieldType.int)) := ⟨List.mem_append_right _ (List.mem_of_getElem? (i := 596) (by decide +kernel)), rfl⟩
theorem tw_597 : zT (Jvm.Cond.methodLink "VetoHouse" (185 : Nat) ({ cls := "VetoHouse", name := "bestBundle", desc := "(II)I" } : Jvm.MethodName)) := ⟨List.mem_append_right _ (List.mem_of_getElem? (i := 597) (by decide +kernel)), rfl⟩
theorem tw_599 : zT (Jvm.Cond.instanceMethod ({ cls := "VetoHouse", name := "bestBundle", desc := "(II)I" } : Jvm.MethodName)) := ⟨List.mem_append_right _ (List.mem_of_getElem? (i := 599) (by decide +kernel)), rfl⟩
theorem tw_600 : zT (Jvm.Cond.code ({ cls := "VetoHouse", name := "bestBundle", desc := "(II)I" } : Jvm.MethodName) prog_1_method_49_code (7 : Nat) (Option.some Jvm.ClassFile.FieldType.int)) := ⟨List.mem_append_right _ (List.mem_of_getElem? (i := 600) (by decide +kernel)), rfl⟩
theorem tw_601 : zT (Jvm.Cond.methodLink "VetoHouse" (189 : Nat) ({ cls := "VetoHouse", name := "costOfAll", desc := "(I)I" } : Jvm.MethodName)) := ⟨List.mem_append_right _ (List.mem_of_getElem? (i := 601) (by decide +kernel)), rfl⟩
theorem tw_603 : zT (Jvm.Cond.instanceMethod ({ cls := "VetoHouse", name := "costOfAll", desc := "(I)I" } : Jvm.MethodName)) := ⟨List.mem_append_right _ (List.mem_of_getElem? (i := 603) (by decide +kernel)), rfl⟩
theorem tw_604 : zT (Jvm.Cond.code ({ cls := "VetoHouse", name := "costOfAll", desc := "(I)I" } : Jvm.MethodName) prog_1_method_43_code (5 : Nat) (Option.some Jvm.ClassFile.FieldType.int)) := ⟨List.mem_append_right _ (List.mem_of_getElem? (i := 604) (by decide +kernel)), rfl⟩
theorem tw_605 : zT (Jvm.Cond.methodLink "VetoHouseLaw" (77 : Nat) ({ cls := "VetoHouse", name := "money", desc := "(II)I" } : Jvm.MethodName)) := ⟨List.mem_append_right _ (List.mem_of_getElem? (i := 605) (by decide +kernel)), rfl⟩
theorem tw_606 : zT (Jvm.Cond.instanceMethod ({ cls := "VetoHouse", name := "money", desc := "(II)I" } : Jvm.MethodName)) := ⟨List.mem_append_right _ (List.mem_of_getElem? (i := 606) (by decide +kernel)), rfl⟩
theorem tw_607 : zT (Jvm.Cond.selects "VetoHouse" ({ cls := "VetoHouse", name := "money", desc := "(II)I" } : Jvm.MethodName) ({ cls := "VetoHouse", name := "money", desc := "(II)I" } : Jvm.MethodName)) := ⟨List.mem_append_right _ (List.mem_of_getElem? (i := 607) (by decide +kernel)), rfl⟩
theorem tw_608 : zT (Jvm.Cond.code ({ cls := "VetoHouse", name := "money", desc := "(II)I" } : Jvm.MethodName) prog_1_method_17_code (5 : Nat) (Option.some Jvm.ClassFile.FieldType.int)) := ⟨List.mem_append_right _ (List.mem_of_getElem? (i := 608) (by decide +kernel)), rfl⟩
theorem tw_609 : zT (Jvm.Cond.methodLink "VetoHouseLaw" (81 : Nat) ({ cls := "VetoHouse", name := "tied", desc := "(I)I" } : Jvm.MethodName)) := ⟨List.mem_append_right _ (List.mem_of_getElem? (i := 609) (by decide +kernel)), rfl⟩
theorem tw_610 : zT (Jvm.Cond.instanceMethod ({ cls := "VetoHouse", name := "tied", desc := "(I)I" } : Jvm.MethodName)) := ⟨List.mem_append_right _ (List.mem_of_getElem? (i := 610) (by decide +kernel)), rfl⟩
theorem tw_611 : zT (Jvm.Cond.selects "VetoHouse" ({ cls := "VetoHouse", name := "tied", desc := "(I)I" } : Jvm.MethodName) ({ cls := "VetoHouse", name := "tied", desc := "(I)I" } : Jvm.MethodName)) := ⟨List.mem_append_right _ (List.mem_of_getElem? (i := 611) (by decide +kernel)), rfl⟩
theorem tw_612 : zT (Jvm.Cond.code ({ cls := "VetoHouse", name := "tied", desc := "(I)I" } : Jvm.MethodName) prog_1_method_18_code (5 : Nat) (Option.some Jvm.ClassFile.FieldType.int)) := ⟨List.mem_append_right _ (List.mem_of_getElem? (i := 612) (by decide +kernel)), rfl⟩
theorem tw_613 : zT (Jvm.Cond.methodLink "VetoHouseLaw" (85 : Nat) ({ cls := "VetoHouse", name := "alone", desc := "()I" } : Jvm.MethodName)) := ⟨List.mem_append_right _ (List.mem_of_getElem? (i := 613) (by decide +kernel)), rfl⟩
theorem tw_614 : zT (Jvm.Cond.instanceMethod ({ cls := "VetoHouse", name := "alone", desc := "()I" } : Jvm.MethodName)) := ⟨List.mem_append_right _ (List.mem_of_getElem? (i := 614) (by decide +kernel)), rfl⟩
theorem tw_615 : zT (Jvm.Cond.selects "VetoHouse" ({ cls := "VetoHouse", name := "alone", desc := "()I" } : Jvm.MethodName) ({ cls := "VetoHouse", name := "alone", desc := "()I" } : Jvm.MethodName)) := ⟨List.mem_append_right _ (List.mem_of_getElem? (i := 615) (by decide +kernel)), rfl⟩
theorem tw_616 : zT (Jvm.Cond.code ({ cls := "VetoHouse", name := "alone", desc := "()I" } : Jvm.MethodName) prog_1_method_19_code (3 : Nat) (Option.some Jvm.ClassFile.FieldType.int)) := ⟨List.mem_append_right _ (List.mem_of_getElem? (i := 616) (by decide +kernel)), rfl⟩
theorem tw_617 : zT (Jvm.Cond.methodLink "VetoHouseLaw" (89 : Nat) ({ cls := "VetoHouse", name := "league", desc := "()I" } : Jvm.MethodName)) := ⟨List.mem_append_right _ (List.mem_of_getElem? (i := 617) (by decide +kernel)), rfl⟩
theorem tw_618 : zT (Jvm.Cond.instanceMethod ({ cls := "VetoHouse", name := "league", desc := "()I" } : Jvm.MethodName)) := ⟨List.mem_append_right _ (List.mem_of_getElem? (i := 618) (by decide +kernel)), rfl⟩
theorem tw_619 : zT (Jvm.Cond.selects "VetoHouse" ({ cls := "VetoHouse", name := "league", desc := "()I" } : Jvm.MethodName) ({ cls := "VetoHouse", name := "league", desc := "()I" } : Jvm.MethodName)) := ⟨List.mem_append_right _ (List.mem_of_getElem? (i := 619) (by decide +kernel)), rfl⟩
theorem tw_620 : zT (Jvm.Cond.code ({ cls := "VetoHouse", name := "league", desc := "()I" } : Jvm.MethodName) prog_1_method_20_code (3 : Nat) (Option.some Jvm.ClassFile.FieldType.int)) := ⟨List.mem_append_right _ (List.mem_of_getElem? (i := 620) (by decide +kernel)), rfl⟩
theorem tw_621 : zT (Jvm.Cond.methodLink "VetoHouse" (197 : Nat) ({ cls := "VetoHouse", name := "gladOf", desc := "(I)I" } : Jvm.MethodName)) := ⟨List.mem_append_right _ (List.mem_of_getElem? (i := 621) (by decide +kernel)), rfl⟩
theorem tw_623 : zT (Jvm.Cond.instanceMethod ({ cls := "VetoHouse", name := "gladOf", desc := "(I)I" } : Jvm.MethodName)) := ⟨List.mem_append_right _ (List.mem_of_getElem? (i := 623) (by decide +kernel)), rfl⟩
theorem tw_624 : zT (Jvm.Cond.code ({ cls := "VetoHouse", name := "gladOf", desc := "(I)I" } : Jvm.MethodName) prog_1_method_45_code (5 : Nat) (Option.some Jvm.ClassFile.FieldType.int)) := ⟨List.mem_append_right _ (List.mem_of_getElem? (i := 624) (by decide +kernel)), rfl⟩
theorem tw_625 : zT (Jvm.Cond.methodLink "VetoHouseLaw" (93 : Nat) ({ cls := "VetoHouse", name := "courts", desc := "(I)I" } : Jvm.MethodName)) := ⟨List.mem_append_right _ (List.mem_of_getElem? (i := 625) (by decide +kernel)), rfl⟩
theorem tw_626 : zT (Jvm.Cond.instanceMethod ({ cls := "VetoHouse", name := "courts", desc := "(I)I" } : Jvm.MethodName)) := ⟨List.mem_append_right _ (List.mem_of_getElem? (i := 626) (by decide +kernel)), rfl⟩
theorem tw_627 : zT (Jvm.Cond.selects "VetoHouse" ({ cls := "VetoHouse", name := "courts", desc := "(I)I" } : Jvm.MethodName) ({ cls := "VetoHouse", name := "courts", desc := "(I)I" } : Jvm.MethodName)) := ⟨List.mem_append_right _ (List.mem_of_getElem? (i := 627) (by decide +kernel)), rfl⟩
theorem tw_628 : zT (Jvm.Cond.code ({ cls := "VetoHouse", name := "courts", desc := "(I)I" } : Jvm.MethodName) prog_1_method_21_code (6 : Nat) (Option.some Jvm.ClassFile.FieldType.int)) := ⟨List.mem_append_right _ (List.mem_of_getElem? (i := 628) (by decide +kernel)), rfl⟩
theorem tw_629 : zT (Jvm.Cond.methodLink "VetoHouse" (200 : Nat) ({ cls := "VetoHouse", name := "pairRests", desc := "(IIII)Z" } : Jvm.MethodName)) := ⟨List.mem_append_right _ (List.mem_of_getElem? (i := 629) (by decide +kernel)), rfl⟩
theorem tw_631 : zT (Jvm.Cond.instanceMethod ({ cls := "VetoHouse", name := "pairRests", desc := "(IIII)Z" } : Jvm.MethodName)) := ⟨List.mem_append_right _ (List.mem_of_getElem? (i := 631) (by decide +kernel)), rfl⟩
theorem tw_632 : zT (Jvm.Cond.code ({ cls := "VetoHouse", name := "pairRests", desc := "(IIII)Z" } : Jvm.MethodName) prog_1_method_51_code (8 : Nat) (Option.some Jvm.ClassFile.FieldType.boolean)) := ⟨List.mem_append_right _ (List.mem_of_getElem? (i := 632) (by decide +kernel)), rfl⟩
theorem tw_633 : zT (Jvm.Cond.methodLink "VetoHouse" (280 : Nat) ({ cls := "VetoHouse", name := "stoppedBetween", desc := "(IIII)Z" } : Jvm.MethodName)) := ⟨List.mem_append_right _ (List.mem_of_getElem? (i := 633) (by decide +kernel)), rfl⟩
theorem tw_635 : zT (Jvm.Cond.instanceMethod ({ cls := "VetoHouse", name := "stoppedBetween", desc := "(IIII)Z" } : Jvm.MethodName)) := ⟨List.mem_append_right _ (List.mem_of_getElem? (i := 635) (by decide +kernel)), rfl⟩
theorem tw_636 : zT (Jvm.Cond.code ({ cls := "VetoHouse", name := "stoppedBetween", desc := "(IIII)Z" } : Jvm.MethodName) prog_1_method_50_code (6 : Nat) (Option.some Jvm.ClassFile.FieldType.boolean)) := ⟨List.mem_append_right _ (List.mem_of_getElem? (i := 636) (by decide +kernel)), rfl⟩
theorem tw_637 : zT (Jvm.Cond.methodLink "VetoHouseLaw" (97 : Nat) ({ cls := "VetoHouse", name := "gone", desc := "(I)I" } : Jvm.MethodName)) := ⟨List.mem_append_right _ (List.mem_of_getElem? (i := 637) (by decide +kernel)), rfl⟩
theorem tw_638 : zT (Jvm.Cond.instanceMethod ({ cls := "VetoHouse", name := "gone", desc := "(I)I" } : Jvm.MethodName)) := ⟨List.mem_append_right _ (List.mem_of_getElem? (i := 638) (by decide +kernel)), rfl⟩
theorem tw_639 : zT (Jvm.Cond.selects "VetoHouse" ({ cls := "VetoHouse", name := "gone", desc := "(I)I" } : Jvm.MethodName) ({ cls := "VetoHouse", name := "gone", desc := "(I)I" } : Jvm.MethodName)) := ⟨List.mem_append_right _ (List.mem_of_getElem? (i := 639) (by decide +kernel)), rfl⟩
theorem tw_640 : zT (Jvm.Cond.code ({ cls := "VetoHouse", name := "gone", desc := "(I)I" } : Jvm.MethodName) prog_1_method_22_code (6 : Nat) (Option.some Jvm.ClassFile.FieldType.int)) := ⟨List.mem_append_right _ (List.mem_of_getElem? (i := 640) (by decide +kernel)), rfl⟩
theorem tw_641 : zT (Jvm.Cond.methodLink "VetoHouseLaw" (101 : Nat) ({ cls := "VetoHouse", name := "note", desc := "(IIII)I" } : Jvm.MethodName)) := ⟨List.mem_append_right _ (List.mem_of_getElem? (i := 641) (by decide +kernel)), rfl⟩
theorem tw_642 : zT (Jvm.Cond.instanceMethod ({ cls := "VetoHouse", name := "note", desc := "(IIII)I" } : Jvm.MethodName)) := ⟨List.mem_append_right _ (List.mem_of_getElem? (i := 642) (by decide +kernel)), rfl⟩
theorem tw_643 : zT (Jvm.Cond.selects "VetoHouse" ({ cls := "VetoHouse", name := "note", desc := "(IIII)I" } : Jvm.MethodName) ({ cls := "VetoHouse", name := "note", desc := "(IIII)I" } : Jvm.MethodName)) := ⟨List.mem_append_right _ (List.mem_of_getElem? (i := 643) (by decide +kernel)), rfl⟩
theorem tw_644 : zT (Jvm.Cond.code ({ cls := "VetoHouse", name := "note", desc := "(IIII)I" } : Jvm.MethodName) prog_1_method_23_code (5 : Nat) (Option.some Jvm.ClassFile.FieldType.int)) := ⟨List.mem_append_right _ (List.mem_of_getElem? (i := 644) (by decide +kernel)), rfl⟩
theorem tw_645 : zT (Jvm.Cond.methodLink "VetoHouse" (207 : Nat) ({ cls := "VetoHouse$House", name := "addNote", desc := "(IIII)V" } : Jvm.MethodName)) := ⟨List.mem_append_right _ (List.mem_of_getElem? (i := 645) (by decide +kernel)), rfl⟩
theorem tw_646 : zT (Jvm.Cond.instanceMethod ({ cls := "VetoHouse$House", name := "addNote", desc := "(IIII)V" } : Jvm.MethodName)) := ⟨List.mem_append_right _ (List.mem_of_getElem? (i := 646) (by decide +kernel)), rfl⟩
theorem tw_647 : zT (Jvm.Cond.selects "VetoHouse$House" ({ cls := "VetoHouse$House", name := "addNote", desc := "(IIII)V" } : Jvm.MethodName) ({ cls := "VetoHouse$House", name := "addNote", desc := "(IIII)V" } : Jvm.MethodName)) := ⟨List.mem_append_right _ (List.mem_of_getElem? (i := 647) (by decide +kernel)), rfl⟩
theorem tw_648 : zT (Jvm.Cond.code ({ cls := "VetoHouse$House", name := "addNote", desc := "(IIII)V" } : Jvm.MethodName) prog_3_method_7_code (6 : Nat) (Option.none : Option Jvm.ClassFile.FieldType)) := ⟨List.mem_append_right _ (List.mem_of_getElem? (i := 648) (by decide +kernel)), rfl⟩
theorem tw_649 : zT (Jvm.Cond.methodLink "VetoHouseLaw" (105 : Nat) ({ cls := "VetoHouse", name := "forget", desc := "()I" } : Jvm.MethodName)) := ⟨List.mem_append_right _ (List.mem_of_getElem? (i := 649) (by decide +kernel)), rfl⟩
theorem tw_650 : zT (Jvm.Cond.instanceMethod ({ cls := "VetoHouse", name := "forget", desc := "()I" } : Jvm.MethodName)) := ⟨List.mem_append_right _ (List.mem_of_getElem? (i := 650) (by decide +kernel)), rfl⟩
theorem tw_651 : zT (Jvm.Cond.selects "VetoHouse" ({ cls := "VetoHouse", name := "forget", desc := "()I" } : Jvm.MethodName) ({ cls := "VetoHouse", name := "forget", desc := "()I" } : Jvm.MethodName)) := ⟨List.mem_append_right _ (List.mem_of_getElem? (i := 651) (by decide +kernel)), rfl⟩
theorem tw_652 : zT (Jvm.Cond.code ({ cls := "VetoHouse", name := "forget", desc := "()I" } : Jvm.MethodName) prog_1_method_24_code (2 : Nat) (Option.some Jvm.ClassFile.FieldType.int)) := ⟨List.mem_append_right _ (List.mem_of_getElem? (i := 652) (by decide +kernel)), rfl⟩
theorem tw_653 : zT (Jvm.Cond.methodLink "VetoHouseLaw" (109 : Nat) ({ cls := "VetoHouse", name := "is", desc := "(I)I" } : Jvm.MethodName)) := ⟨List.mem_append_right _ (List.mem_of_getElem? (i := 653) (by decide +kernel)), rfl⟩
theorem tw_654 : zT (Jvm.Cond.instanceMethod ({ cls := "VetoHouse", name := "is", desc := "(I)I" } : Jvm.MethodName)) := ⟨List.mem_append_right _ (List.mem_of_getElem? (i := 654) (by decide +kernel)), rfl⟩
theorem tw_655 : zT (Jvm.Cond.selects "VetoHouse" ({ cls := "VetoHouse", name := "is", desc := "(I)I" } : Jvm.MethodName) ({ cls := "VetoHouse", name := "is", desc := "(I)I" } : Jvm.MethodName)) := ⟨List.mem_append_right _ (List.mem_of_getElem? (i := 655) (by decide +kernel)), rfl⟩
theorem tw_656 : zT (Jvm.Cond.code ({ cls := "VetoHouse", name := "is", desc := "(I)I" } : Jvm.MethodName) prog_1_method_25_code (3 : Nat) (Option.some Jvm.ClassFile.FieldType.int)) := ⟨List.mem_append_right _ (List.mem_of_getElem? (i := 656) (by decide +kernel)), rfl⟩
theorem tw_657 : zT (Jvm.Cond.methodLink "VetoHouse" (210 : Nat) ({ cls := "VetoHouse", name := "kindsThatFit", desc := "(ILVetoHouse$Deputy;)I" } : Jvm.MethodName)) := ⟨List.mem_append_right _ (List.mem_of_getElem? (i := 657) (by decide +kernel)), rfl⟩
theorem tw_659 : zT (Jvm.Cond.instanceMethod ({ cls := "VetoHouse", name := "kindsThatFit", desc := "(ILVetoHouse$Deputy;)I" } : Jvm.MethodName)) := ⟨List.mem_append_right _ (List.mem_of_getElem? (i := 659) (by decide +kernel)), rfl⟩
theorem tw_660 : zT (Jvm.Cond.code ({ cls := "VetoHouse", name := "kindsThatFit", desc := "(ILVetoHouse$Deputy;)I" } : Jvm.MethodName) prog_1_method_53_code (5 : Nat) (Option.some Jvm.ClassFile.FieldType.int)) := ⟨List.mem_append_right _ (List.mem_of_getElem? (i := 660) (by decide +kernel)), rfl⟩
theorem tw_661 : zT (Jvm.Cond.methodLink "VetoHouse" (214 : Nat) ({ cls := "VetoHouse", name := "notesFit", desc := "(IIII)Z" } : Jvm.MethodName)) := ⟨List.mem_append_right _ (List.mem_of_getElem? (i := 661) (by decide +kernel)), rfl⟩
theorem tw_663 : zT (Jvm.Cond.instanceMethod ({ cls := "VetoHouse", name := "notesFit", desc := "(IIII)Z" } : Jvm.MethodName)) := ⟨List.mem_append_right _ (List.mem_of_getElem? (i := 663) (by decide +kernel)), rfl⟩
theorem tw_664 : zT (Jvm.Cond.code ({ cls := "VetoHouse", name := "notesFit", desc := "(IIII)Z" } : Jvm.MethodName) prog_1_method_52_code (7 : Nat) (Option.some Jvm.ClassFile.FieldType.boolean)) := ⟨List.mem_append_right _ (List.mem_of_getElem? (i := 664) (by decide +kernel)), rfl⟩
theorem tw_665 : zT (Jvm.Cond.methodLink "VetoHouse" (283 : Nat) ({ cls := "VetoHouse$House", name := "noteAt", desc := "(I)LVetoHouse$Note;" } : Jvm.MethodName)) := ⟨List.mem_append_right _ (List.mem_of_getElem? (i := 665) (by decide +kernel)), rfl⟩
theorem tw_666 : zT (Jvm.Cond.instanceMethod ({ cls := "VetoHouse$House", name := "noteAt", desc := "(I)LVetoHouse$Note;" } : Jvm.MethodName)) := ⟨List.mem_append_right _ (List.mem_of_getElem? (i := 666) (by decide +kernel)), rfl⟩
theorem tw_667 : zT (Jvm.Cond.selects "VetoHouse$House" ({ cls := "VetoHouse$House", name := "noteAt", desc := "(I)LVetoHouse$Note;" } : Jvm.MethodName) ({ cls := "VetoHouse$House", name := "noteAt", desc := "(I)LVetoHouse$Note;" } : Jvm.MethodName)) := ⟨List.mem_append_right _ (List.mem_of_getElem? (i := 667) (by decide +kernel)), rfl⟩
theorem tw_668 : zT (Jvm.Cond.code ({ cls := "VetoHouse$House", name := "noteAt", desc := "(I)LVetoHouse$Note;" } : Jvm.MethodName) prog_3_method_5_code (2 : Nat) (Option.some (Jvm.ClassFile.FieldType.object "VetoHouse$Note"))) := ⟨List.mem_append_right _ (List.mem_of_getElem? (i := 668) (by decide +kernel)), rfl⟩
theorem tw_669 : zT (Jvm.Cond.methodLink "VetoHouseLaw" (113 : Nat) ({ cls := "VetoHouse", name := "holds", desc := "(II)I" } : Jvm.MethodName)) := ⟨List.mem_append_right _ (List.mem_of_getElem? (i := 669) (by decide +kernel)), rfl⟩
theorem tw_670 : zT (Jvm.Cond.instanceMethod ({ cls := "VetoHouse", name := "holds", desc := "(II)I" } : Jvm.MethodName)) := ⟨List.mem_append_right _ (List.mem_of_getElem? (i := 670) (by decide +kernel)), rfl⟩
theorem tw_671 : zT (Jvm.Cond.selects "VetoHouse" ({ cls := "VetoHouse", name := "holds", desc := "(II)I" } : Jvm.MethodName) ({ cls := "VetoHouse", name := "holds", desc := "(II)I" } : Jvm.MethodName)) := ⟨List.mem_append_right _ (List.mem_of_getElem? (i := 671) (by decide +kernel)), rfl⟩
theorem tw_672 : zT (Jvm.Cond.code ({ cls := "VetoHouse", name := "holds", desc := "(II)I" } : Jvm.MethodName) prog_1_method_26_code (10 : Nat) (Option.some Jvm.ClassFile.FieldType.int)) := ⟨List.mem_append_right _ (List.mem_of_getElem? (i := 672) (by decide +kernel)), rfl⟩
theorem tw_673 : zT (Jvm.Cond.methodLink "VetoHouseLaw" (117 : Nat) ({ cls := "VetoHouse", name := "tryNext", desc := "(I)I" } : Jvm.MethodName)) := ⟨List.mem_append_right _ (List.mem_of_getElem? (i := 673) (by decide +kernel)), rfl⟩
theorem tw_674 : zT (Jvm.Cond.instanceMethod ({ cls := "VetoHouse", name := "tryNext", desc := "(I)I" } : Jvm.MethodName)) := ⟨List.mem_append_right _ (List.mem_of_getElem? (i := 674) (by decide +kernel)), rfl⟩
theorem tw_675 : zT (Jvm.Cond.selects "VetoHouse" ({ cls := "VetoHouse", name := "tryNext", desc := "(I)I" } : Jvm.MethodName) ({ cls := "VetoHouse", name := "tryNext", desc := "(I)I" } : Jvm.MethodName)) := ⟨List.mem_append_right _ (List.mem_of_getElem? (i := 675) (by decide +kernel)), rfl⟩
theorem tw_676 : zT (Jvm.Cond.code ({ cls := "VetoHouse", name := "tryNext", desc := "(I)I" } : Jvm.MethodName) prog_1_method_27_code (10 : Nat) (Option.some Jvm.ClassFile.FieldType.int)) := ⟨List.mem_append_right _ (List.mem_of_getElem? (i := 676) (by decide +kernel)), rfl⟩
theorem tw_677 : zT (Jvm.Cond.methodLink "VetoHouse" (217 : Nat) ({ cls := "VetoHouse", name := "kindsThatStop", desc := "(LVetoHouse$Deputy;I)I" } : Jvm.MethodName)) := ⟨List.mem_append_right _ (List.mem_of_getElem? (i := 677) (by decide +kernel)), rfl⟩
theorem tw_679 : zT (Jvm.Cond.instanceMethod ({ cls := "VetoHouse", name := "kindsThatStop", desc := "(LVetoHouse$Deputy;I)I" } : Jvm.MethodName)) := ⟨List.mem_append_right _ (List.mem_of_getElem? (i := 679) (by decide +kernel)), rfl⟩
theorem tw_680 : zT (Jvm.Cond.code ({ cls := "VetoHouse", name := "kindsThatStop", desc := "(LVetoHouse$Deputy;I)I" } : Jvm.MethodName) prog_1_method_54_code (5 : Nat) (Option.some Jvm.ClassFile.FieldType.int)) := ⟨List.mem_append_right _ (List.mem_of_getElem? (i := 680) (by decide +kernel)), rfl⟩
theorem tw_681 : zT (Jvm.Cond.methodLink "VetoHouse" (220 : Nat) ({ cls := "java/lang/Math", name := "max", desc := "(II)I" } : Jvm.MethodName)) := ⟨List.mem_append_right _ (List.mem_of_getElem? (i := 681) (by decide +kernel)), rfl⟩
theorem tw_682 : zT (Jvm.Cond.methodLink "VetoHouseLaw" (121 : Nat) ({ cls := "VetoHouse", name := "away", desc := "(II)I" } : Jvm.MethodName)) := ⟨List.mem_append_right _ (List.mem_of_getElem? (i := 682) (by decide +kernel)), rfl⟩
theorem tw_683 : zT (Jvm.Cond.instanceMethod ({ cls := "VetoHouse", name := "away", desc := "(II)I" } : Jvm.MethodName)) := ⟨List.mem_append_right _ (List.mem_of_getElem? (i := 683) (by decide +kernel)), rfl⟩
theorem tw_684 : zT (Jvm.Cond.selects "VetoHouse" ({ cls := "VetoHouse", name := "away", desc := "(II)I" } : Jvm.MethodName) ({ cls := "VetoHouse", name := "away", desc := "(II)I" } : Jvm.MethodName)) := ⟨List.mem_append_right _ (List.mem_of_getElem? (i := 684) (by decide +kernel)), rfl⟩
theorem tw_685 : zT (Jvm.Cond.code ({ cls := "VetoHouse", name := "away", desc := "(II)I" } : Jvm.MethodName) prog_1_method_28_code (7 : Nat) (Option.some Jvm.ClassFile.FieldType.int)) := ⟨List.mem_append_right _ (List.mem_of_getElem? (i := 685) (by decide +kernel)), rfl⟩
theorem tw_686 : zT (Jvm.Cond.methodLink "VetoHouseLaw" (125 : Nat) ({ cls := "VetoHouse", name := "diets", desc := "(II)I" } : Jvm.MethodName)) := ⟨List.mem_append_right _ (List.mem_of_getElem? (i := 686) (by decide +kernel)), rfl⟩
theorem tw_687 : zT (Jvm.Cond.instanceMethod ({ cls := "VetoHouse", name := "diets", desc := "(II)I" } : Jvm.MethodName)) := ⟨List.mem_append_right _ (List.mem_of_getElem? (i := 687) (by decide +kernel)), rfl⟩
theorem tw_688 : zT (Jvm.Cond.selects "VetoHouse" ({ cls := "VetoHouse", name := "diets", desc := "(II)I" } : Jvm.MethodName) ({ cls := "VetoHouse", name := "diets", desc := "(II)I" } : Jvm.MethodName)) := ⟨List.mem_append_right _ (List.mem_of_getElem? (i := 688) (by decide +kernel)), rfl⟩
theorem tw_689 : zT (Jvm.Cond.code ({ cls := "VetoHouse", name := "diets", desc := "(II)I" } : Jvm.MethodName) prog_1_method_29_code (7 : Nat) (Option.some Jvm.ClassFile.FieldType.int)) := ⟨List.mem_append_right _ (List.mem_of_getElem? (i := 689) (by decide +kernel)), rfl⟩
theorem tw_690 : zT (Jvm.Cond.constant "VetoHouse" (225 : Nat) (999999 : Int32)) := ⟨List.mem_append_right _ (List.mem_of_getElem? (i := 690) (by decide +kernel)), rfl⟩
theorem tw_691 : zT (Jvm.Cond.methodLink "VetoHouse" (226 : Nat) ({ cls := "VetoHouse$Sitting", name := "copyFrom", desc := "(LVetoHouse$Sitting;)V" } : Jvm.MethodName)) := ⟨List.mem_append_right _ (List.mem_of_getElem? (i := 691) (by decide +kernel)), rfl⟩
theorem tw_692 : zT (Jvm.Cond.constantLong "VetoHouse" (229 : Nat) (1103515245 : Int64)) := ⟨List.mem_append_right _ (List.mem_of_getElem? (i := 692) (by decide +kernel)), rfl⟩
theorem tw_693 : zT (Jvm.Cond.constantLong "VetoHouse" (231 : Nat) (12345 : Int64)) := ⟨List.mem_append_right _ (List.mem_of_getElem? (i := 693) (by decide +kernel)), rfl⟩
theorem tw_694 : zT (Jvm.Cond.constantLong "VetoHouse" (233 : Nat) (2147483648 : Int64)) := ⟨List.mem_append_right _ (List.mem_of_getElem? (i := 694) (by decide +kernel)), rfl⟩
theorem tw_695 : zT (Jvm.Cond.constantLong "VetoHouse" (235 : Nat) (65536 : Int64)) := ⟨List.mem_append_right _ (List.mem_of_getElem? (i := 695) (by decide +kernel)), rfl⟩
theorem tw_696 : zT (Jvm.Cond.constantLong "VetoHouse" (237 : Nat) (256 : Int64)) := ⟨List.mem_append_right _ (List.mem_of_getElem? (i := 696) (by decide +kernel)), rfl⟩
theorem tw_697 : zT (Jvm.Cond.methodLink "VetoHouseLaw" (129 : Nat) ({ cls := "VetoHouse", name := "part", desc := "(I)J" } : Jvm.MethodName)) := ⟨List.mem_append_right _ (List.mem_of_getElem? (i := 697) (by decide +kernel)), rfl⟩
theorem tw_698 : zT (Jvm.Cond.instanceMethod ({ cls := "VetoHouse", name := "part", desc := "(I)J" } : Jvm.MethodName)) := ⟨List.mem_append_right _ (List.mem_of_getElem? (i := 698) (by decide +kernel)), rfl⟩
theorem tw_699 : zT (Jvm.Cond.selects "VetoHouse" ({ cls := "VetoHouse", name := "part", desc := "(I)J" } : Jvm.MethodName) ({ cls := "VetoHouse", name := "part", desc := "(I)J" } : Jvm.MethodName)) := ⟨List.mem_append_right _ (List.mem_of_getElem? (i := 699) (by decide +kernel)), rfl⟩
theorem tw_700 : zT (Jvm.Cond.code ({ cls := "VetoHouse", name := "part", desc := "(I)J" } : Jvm.MethodName) prog_1_method_30_code (2 : Nat) (Option.some Jvm.ClassFile.FieldType.long)) := ⟨List.mem_append_right _ (List.mem_of_getElem? (i := 700) (by decide +kernel)), rfl⟩
theorem tw_701 : zT (Jvm.Cond.methodLink "VetoHouseLaw" (134 : Nat) ({ cls := "VetoHouse", name := "image", desc := "(I)I" } : Jvm.MethodName)) := ⟨List.mem_append_right _ (List.mem_of_getElem? (i := 701) (by decide +kernel)), rfl⟩
theorem tw_702 : zT (Jvm.Cond.instanceMethod ({ cls := "VetoHouse", name := "image", desc := "(I)I" } : Jvm.MethodName)) := ⟨List.mem_append_right _ (List.mem_of_getElem? (i := 702) (by decide +kernel)), rfl⟩
theorem tw_703 : zT (Jvm.Cond.selects "VetoHouse" ({ cls := "VetoHouse", name := "image", desc := "(I)I" } : Jvm.MethodName) ({ cls := "VetoHouse", name := "image", desc := "(I)I" } : Jvm.MethodName)) := ⟨List.mem_append_right _ (List.mem_of_getElem? (i := 703) (by decide +kernel)), rfl⟩
theorem tw_704 : zT (Jvm.Cond.code ({ cls := "VetoHouse", name := "image", desc := "(I)I" } : Jvm.MethodName) prog_1_method_31_code (2 : Nat) (Option.some Jvm.ClassFile.FieldType.int)) := ⟨List.mem_append_right _ (List.mem_of_getElem? (i := 704) (by decide +kernel)), rfl⟩
theorem tw_705 : zT (Jvm.Cond.methodLink "VetoHouseLaw" (138 : Nat) ({ cls := "VetoHouse", name := "from", desc := "(I)I" } : Jvm.MethodName)) := ⟨List.mem_append_right _ (List.mem_of_getElem? (i := 705) (by decide +kernel)), rfl⟩
theorem tw_706 : zT (Jvm.Cond.instanceMethod ({ cls := "VetoHouse", name := "from", desc := "(I)I" } : Jvm.MethodName)) := ⟨List.mem_append_right _ (List.mem_of_getElem? (i := 706) (by decide +kernel)), rfl⟩
theorem tw_707 : zT (Jvm.Cond.selects "VetoHouse" ({ cls := "VetoHouse", name := "from", desc := "(I)I" } : Jvm.MethodName) ({ cls := "VetoHouse", name := "from", desc := "(I)I" } : Jvm.MethodName)) := ⟨List.mem_append_right _ (List.mem_of_getElem? (i := 707) (by decide +kernel)), rfl⟩
theorem tw_708 : zT (Jvm.Cond.code ({ cls := "VetoHouse", name := "from", desc := "(I)I" } : Jvm.MethodName) prog_1_method_32_code (2 : Nat) (Option.some Jvm.ClassFile.FieldType.int)) := ⟨List.mem_append_right _ (List.mem_of_getElem? (i := 708) (by decide +kernel)), rfl⟩
theorem tw_709 : zT (Jvm.Cond.methodLink "VetoHouseLaw" (142 : Nat) ({ cls := "VetoHouse", name := "status", desc := "(I)I" } : Jvm.MethodName)) := ⟨List.mem_append_right _ (List.mem_of_getElem? (i := 709) (by decide +kernel)), rfl⟩
theorem tw_710 : zT (Jvm.Cond.instanceMethod ({ cls := "VetoHouse", name := "status", desc := "(I)I" } : Jvm.MethodName)) := ⟨List.mem_append_right _ (List.mem_of_getElem? (i := 710) (by decide +kernel)), rfl⟩
theorem tw_711 : zT (Jvm.Cond.selects "VetoHouse" ({ cls := "VetoHouse", name := "status", desc := "(I)I" } : Jvm.MethodName) ({ cls := "VetoHouse", name := "status", desc := "(I)I" } : Jvm.MethodName)) := ⟨List.mem_append_right _ (List.mem_of_getElem? (i := 711) (by decide +kernel)), rfl⟩
theorem tw_712 : zT (Jvm.Cond.code ({ cls := "VetoHouse", name := "status", desc := "(I)I" } : Jvm.MethodName) prog_1_method_33_code (2 : Nat) (Option.some Jvm.ClassFile.FieldType.int)) := ⟨List.mem_append_right _ (List.mem_of_getElem? (i := 712) (by decide +kernel)), rfl⟩
theorem tw_713 : zT (Jvm.Cond.methodLink "VetoHouseLaw" (146 : Nat) ({ cls := "VetoHouse", name := "count", desc := "(I)I" } : Jvm.MethodName)) := ⟨List.mem_append_right _ (List.mem_of_getElem? (i := 713) (by decide +kernel)), rfl⟩
theorem tw_714 : zT (Jvm.Cond.instanceMethod ({ cls := "VetoHouse", name := "count", desc := "(I)I" } : Jvm.MethodName)) := ⟨List.mem_append_right _ (List.mem_of_getElem? (i := 714) (by decide +kernel)), rfl⟩
theorem tw_715 : zT (Jvm.Cond.selects "VetoHouse" ({ cls := "VetoHouse", name := "count", desc := "(I)I" } : Jvm.MethodName) ({ cls := "VetoHouse", name := "count", desc := "(I)I" } : Jvm.MethodName)) := ⟨List.mem_append_right _ (List.mem_of_getElem? (i := 715) (by decide +kernel)), rfl⟩
theorem tw_716 : zT (Jvm.Cond.code ({ cls := "VetoHouse", name := "count", desc := "(I)I" } : Jvm.MethodName) prog_1_method_34_code (2 : Nat) (Option.some Jvm.ClassFile.FieldType.int)) := ⟨List.mem_append_right _ (List.mem_of_getElem? (i := 716) (by decide +kernel)), rfl⟩
theorem tw_717 : zT (Jvm.Cond.methodLink "VetoHouse" (248 : Nat) ({ cls := "VetoHouse", name := "howMany", desc := "(I)I" } : Jvm.MethodName)) := ⟨List.mem_append_right _ (List.mem_of_getElem? (i := 717) (by decide +kernel)), rfl⟩
theorem tw_719 : zT (Jvm.Cond.instanceMethod ({ cls := "VetoHouse", name := "howMany", desc := "(I)I" } : Jvm.MethodName)) := ⟨List.mem_append_right _ (List.mem_of_getElem? (i := 719) (by decide +kernel)), rfl⟩
theorem tw_720 : zT (Jvm.Cond.code ({ cls := "VetoHouse", name := "howMany", desc := "(I)I" } : Jvm.MethodName) prog_1_method_55_code (2 : Nat) (Option.some Jvm.ClassFile.FieldType.int)) := ⟨List.mem_append_right _ (List.mem_of_getElem? (i := 720) (by decide +kernel)), rfl⟩
theorem tw_721 : zT (Jvm.Cond.methodLink "VetoHouseLaw" (150 : Nat) ({ cls := "VetoHouse", name := "digest", desc := "()J" } : Jvm.MethodName)) := ⟨List.mem_append_right _ (List.mem_of_getElem? (i := 721) (by decide +kernel)), rfl⟩
theorem tw_722 : zT (Jvm.Cond.instanceMethod ({ cls := "VetoHouse", name := "digest", desc := "()J" } : Jvm.MethodName)) := ⟨List.mem_append_right _ (List.mem_of_getElem? (i := 722) (by decide +kernel)), rfl⟩
theorem tw_723 : zT (Jvm.Cond.selects "VetoHouse" ({ cls := "VetoHouse", name := "digest", desc := "()J" } : Jvm.MethodName) ({ cls := "VetoHouse", name := "digest", desc := "()J" } : Jvm.MethodName)) := ⟨List.mem_append_right _ (List.mem_of_getElem? (i := 723) (by decide +kernel)), rfl⟩
theorem tw_724 : zT (Jvm.Cond.code ({ cls := "VetoHouse", name := "digest", desc := "()J" } : Jvm.MethodName) prog_1_method_35_code (4 : Nat) (Option.some Jvm.ClassFile.FieldType.long)) := ⟨List.mem_append_right _ (List.mem_of_getElem? (i := 724) (by decide +kernel)), rfl⟩
theorem tw_725 : zT (Jvm.Cond.constantLong "VetoHouse" (251 : Nat) (1187 : Int64)) := ⟨List.mem_append_right _ (List.mem_of_getElem? (i := 725) (by decide +kernel)), rfl⟩
theorem tw_726 : zT (Jvm.Cond.constantLong "VetoHouse" (253 : Nat) (31 : Int64)) := ⟨List.mem_append_right _ (List.mem_of_getElem? (i := 726) (by decide +kernel)), rfl⟩
theorem tw_727 : zT (Jvm.Cond.methodLink "VetoHouse" (255 : Nat) ({ cls := "VetoHouse", name := "deputyIntoDigest", desc := "(JI)J" } : Jvm.MethodName)) := ⟨List.mem_append_right _ (List.mem_of_getElem? (i := 727) (by decide +kernel)), rfl⟩
theorem tw_729 : zT (Jvm.Cond.instanceMethod ({ cls := "VetoHouse", name := "deputyIntoDigest", desc := "(JI)J" } : Jvm.MethodName)) := ⟨List.mem_append_right _ (List.mem_of_getElem? (i := 729) (by decide +kernel)), rfl⟩
theorem tw_730 : zT (Jvm.Cond.code ({ cls := "VetoHouse", name := "deputyIntoDigest", desc := "(JI)J" } : Jvm.MethodName) prog_1_method_56_code (7 : Nat) (Option.some Jvm.ClassFile.FieldType.long)) := ⟨List.mem_append_right _ (List.mem_of_getElem? (i := 730) (by decide +kernel)), rfl⟩
theorem tw_731 : zT (Jvm.Cond.methodLink "VetoHouse" (259 : Nat) ({ cls := "VetoHouse", name := "noteIntoDigest", desc := "(JI)J" } : Jvm.MethodName)) := ⟨List.mem_append_right _ (List.mem_of_getElem? (i := 731) (by decide +kernel)), rfl⟩
theorem tw_733 : zT (Jvm.Cond.instanceMethod ({ cls := "VetoHouse", name := "noteIntoDigest", desc := "(JI)J" } : Jvm.MethodName)) := ⟨List.mem_append_right _ (List.mem_of_getElem? (i := 733) (by decide +kernel)), rfl⟩
theorem tw_734 : zT (Jvm.Cond.code ({ cls := "VetoHouse", name := "noteIntoDigest", desc := "(JI)J" } : Jvm.MethodName) prog_1_method_57_code (7 : Nat) (Option.some Jvm.ClassFile.FieldType.long)) := ⟨List.mem_append_right _ (List.mem_of_getElem? (i := 734) (by decide +kernel)), rfl⟩
theorem tw_735 : zT (Jvm.Cond.classLink "VetoHouseLaw" (10 : Nat) "VetoHouseModel") := ⟨List.mem_append_right _ (List.mem_of_getElem? (i := 735) (by decide +kernel)), rfl⟩
theorem tw_736 : zT (Jvm.Cond.instantiable "VetoHouseModel" (19 : Nat)) := ⟨List.mem_append_right _ (List.mem_of_getElem? (i := 736) (by decide +kernel)), rfl⟩
theorem tw_737 : zT (Jvm.Cond.methodLink "VetoHouseLaw" (12 : Nat) ({ cls := "VetoHouseModel", name := "<init>", desc := "()V" } : Jvm.MethodName)) := ⟨List.mem_append_right _ (List.mem_of_getElem? (i := 737) (by decide +kernel)), rfl⟩
theorem tw_738 : zT (Jvm.Cond.instanceMethod ({ cls := "VetoHouseModel", name := "<init>", desc := "()V" } : Jvm.MethodName)) := ⟨List.mem_append_right _ (List.mem_of_getElem? (i := 738) (by decide +kernel)), rfl⟩
theorem tw_739 : zT (Jvm.Cond.code ({ cls := "VetoHouseModel", name := "<init>", desc := "()V" } : Jvm.MethodName) prog_14_method_1_code (1 : Nat) (Option.none : Option Jvm.ClassFile.FieldType)) := ⟨List.mem_append_right _ (List.mem_of_getElem? (i := 739) (by decide +kernel)), rfl⟩
theorem tw_740 : zT (Jvm.Cond.methodLink "VetoHouseModel" (1 : Nat) ({ cls := "java/lang/Object", name := "<init>", desc := "()V" } : Jvm.MethodName)) := ⟨List.mem_append_right _ (List.mem_of_getElem? (i := 740) (by decide +kernel)), rfl⟩
theorem tw_741 : zT (Jvm.Cond.methodLink "VetoHouseModel" (45 : Nat) ({ cls := "VetoHouseModel", name := "begin", desc := "([II)V" } : Jvm.MethodName)) := ⟨List.mem_append_right _ (List.mem_of_getElem? (i := 741) (by decide +kernel)), rfl⟩
theorem tw_742 : zT (Jvm.Cond.static ({ cls := "VetoHouseModel", name := "begin", desc := "([II)V" } : Jvm.MethodName)) := ⟨List.mem_append_right _ (List.mem_of_getElem? (i := 742) (by decide +kernel)), rfl⟩
theorem tw_743 : zT (Jvm.Cond.code ({ cls := "VetoHouseModel", name := "begin", desc := "([II)V" } : Jvm.MethodName) prog_14_method_9_code (3 : Nat) (Option.none : Option Jvm.ClassFile.FieldType)) := ⟨List.mem_append_right _ (List.mem_of_getElem? (i := 743) (by decide +kernel)), rfl⟩
theorem tw_744 : zT (Jvm.Cond.fieldLink "VetoHouseModel" (7 : Nat) "VetoHouseModel" "now" "[I") := ⟨List.mem_append_right _ (List.mem_of_getElem? (i := 744) (by decide +kernel)), rfl⟩
theorem tw_745 : zT (Jvm.Cond.fieldLink "VetoHouseModel" (13 : Nat) "VetoHouseModel" "kept" "[I") := ⟨List.mem_append_right _ (List.mem_of_getElem? (i := 745) (by decide +kernel)), rfl⟩
theorem tw_746 : zT (Jvm.Cond.fieldLink "VetoHouseModel" (16 : Nat) "VetoHouseModel" "isKept" "[Z") := ⟨List.mem_append_right _ (List.mem_of_getElem? (i := 746) (by decide +kernel)), rfl⟩
theorem tw_747 : zT (Jvm.Cond.fieldLink "VetoHouseModel" (20 : Nat) "VetoHouseModel" "refused" "[I") := ⟨List.mem_append_right _ (List.mem_of_getElem? (i := 747) (by decide +kernel)), rfl⟩
theorem tw_748 : zT (Jvm.Cond.fieldLink "VetoHouseModel" (154 : Nat) "VetoHouseModel" "above" "J") := ⟨List.mem_append_right _ (List.mem_of_getElem? (i := 748) (by decide +kernel)), rfl⟩
theorem tw_749 : zT (Jvm.Cond.fieldLink "VetoHouseModel" (23 : Nat) "VetoHouseModel" "below" "J") := ⟨List.mem_append_right _ (List.mem_of_getElem? (i := 749) (by decide +kernel)), rfl⟩
theorem tw_750 : zT (Jvm.Cond.fieldLink "VetoHouseModel" (27 : Nat) "VetoHouseModel" "kinds" "[I") := ⟨List.mem_append_right _ (List.mem_of_getElem? (i := 750) (by decide +kernel)), rfl⟩
theorem tw_751 : zT (Jvm.Cond.fieldLink "VetoHouseModel" (30 : Nat) "VetoHouseModel" "loves" "[I") := ⟨List.mem_append_right _ (List.mem_of_getElem? (i := 751) (by decide +kernel)), rfl⟩
theorem tw_752 : zT (Jvm.Cond.fieldLink "VetoHouseModel" (33 : Nat) "VetoHouseModel" "hates" "[I") := ⟨List.mem_append_right _ (List.mem_of_getElem? (i := 752) (by decide +kernel)), rfl⟩
theorem tw_753 : zT (Jvm.Cond.fieldLink "VetoHouseModel" (84 : Nat) "VetoHouseModel" "silent" "I") := ⟨List.mem_append_right _ (List.mem_of_getElem? (i := 753) (by decide +kernel)), rfl⟩
theorem tw_754 : zT (Jvm.Cond.fieldLink "VetoHouseModel" (88 : Nat) "VetoHouseModel" "today" "I") := ⟨List.mem_append_right _ (List.mem_of_getElem? (i := 754) (by decide +kernel)), rfl⟩
theorem tw_755 : zT (Jvm.Cond.fieldLink "VetoHouseModel" (36 : Nat) "VetoHouseModel" "bytes" "[I") := ⟨List.mem_append_right _ (List.mem_of_getElem? (i := 755) (by decide +kernel)), rfl⟩
theorem tw_756 : zT (Jvm.Cond.fieldLink "VetoHouseModel" (179 : Nat) "VetoHouseModel" "bytesLong" "I") := ⟨List.mem_append_right _ (List.mem_of_getElem? (i := 756) (by decide +kernel)), rfl⟩
theorem tw_757 : zT (Jvm.Cond.fieldLink "VetoHouseModel" (190 : Nat) "VetoHouseModel" "tokenAt" "I") := ⟨List.mem_append_right _ (List.mem_of_getElem? (i := 757) (by decide +kernel)), rfl⟩
theorem tw_758 : zT (Jvm.Cond.fieldLink "VetoHouseModel" (193 : Nat) "VetoHouseModel" "tokenLong" "I") := ⟨List.mem_append_right _ (List.mem_of_getElem? (i := 758) (by decide +kernel)), rfl⟩
theorem tw_759 : zT (Jvm.Cond.fieldLink "VetoHouseModel" (196 : Nat) "VetoHouseModel" "token" "I") := ⟨List.mem_append_right _ (List.mem_of_getElem? (i := 759) (by decide +kernel)), rfl⟩
theorem tw_760 : zT (Jvm.Cond.fieldLink "VetoHouseModel" (199 : Nat) "VetoHouseModel" "value" "I") := ⟨List.mem_append_right _ (List.mem_of_getElem? (i := 760) (by decide +kernel)), rfl⟩
theorem tw_761 : zT (Jvm.Cond.fieldLink "VetoHouseModel" (39 : Nat) "VetoHouseModel" "anew" "[I") := ⟨List.mem_append_right _ (List.mem_of_getElem? (i := 761) (by decide +kernel)), rfl⟩
theorem tw_762 : zT (Jvm.Cond.fieldLink "VetoHouseModel" (42 : Nat) "VetoHouseModel" "values" "[I") := ⟨List.mem_append_right _ (List.mem_of_getElem? (i := 762) (by decide +kernel)), rfl⟩
theorem tw_763 : zT (Jvm.Cond.laysFinal "VetoHouseModel" "VetoHouseModel" "now" "[I") := ⟨List.mem_append_right _ (List.mem_of_getElem? (i := 763) (by decide +kernel)), rfl⟩
theorem tw_765 : zT (Jvm.Cond.laysFinal "VetoHouseModel" "VetoHouseModel" "kept" "[I") := ⟨List.mem_append_right _ (List.mem_of_getElem? (i := 765) (by decide +kernel)), rfl⟩
theorem tw_767 : zT (Jvm.Cond.laysFinal "VetoHouseModel" "VetoHouseModel" "isKept" "[Z") := ⟨List.mem_append_right _ (List.mem_of_getElem? (i := 767) (by decide +kernel)), rfl⟩
theorem tw_769 : zT (Jvm.Cond.laysFinal "VetoHouseModel" "VetoHouseModel" "refused" "[I") := ⟨List.mem_append_right _ (List.mem_of_getElem? (i := 769) (by decide +kernel)), rfl⟩
theorem tw_771 : zT (Jvm.Cond.lays "VetoHouseModel" "VetoHouseModel" "above" "J") := ⟨List.mem_append_right _ (List.mem_of_getElem? (i := 771) (by decide +kernel)), rfl⟩
theorem tw_773 : zT (Jvm.Cond.lays "VetoHouseModel" "VetoHouseModel" "below" "J") := ⟨List.mem_append_right _ (List.mem_of_getElem? (i := 773) (by decide +kernel)), rfl⟩
theorem tw_775 : zT (Jvm.Cond.laysFinal "VetoHouseModel" "VetoHouseModel" "kinds" "[I") := ⟨List.mem_append_right _ (List.mem_of_getElem? (i := 775) (by decide +kernel)), rfl⟩
theorem tw_777 : zT (Jvm.Cond.laysFinal "VetoHouseModel" "VetoHouseModel" "loves" "[I") := ⟨List.mem_append_right _ (List.mem_of_getElem? (i := 777) (by decide +kernel)), rfl⟩
theorem tw_779 : zT (Jvm.Cond.laysFinal "VetoHouseModel" "VetoHouseModel" "hates" "[I") := ⟨List.mem_append_right _ (List.mem_of_getElem? (i := 779) (by decide +kernel)), rfl⟩
theorem tw_781 : zT (Jvm.Cond.lays "VetoHouseModel" "VetoHouseModel" "silent" "I") := ⟨List.mem_append_right _ (List.mem_of_getElem? (i := 781) (by decide +kernel)), rfl⟩
theorem tw_783 : zT (Jvm.Cond.lays "VetoHouseModel" "VetoHouseModel" "today" "I") := ⟨List.mem_append_right _ (List.mem_of_getElem? (i := 783) (by decide +kernel)), rfl⟩
theorem tw_785 : zT (Jvm.Cond.laysFinal "VetoHouseModel" "VetoHouseModel" "bytes" "[I") := ⟨List.mem_append_right _ (List.mem_of_getElem? (i := 785) (by decide +kernel)), rfl⟩
theorem tw_787 : zT (Jvm.Cond.lays "VetoHouseModel" "VetoHouseModel" "bytesLong" "I") := ⟨List.mem_append_right _ (List.mem_of_getElem? (i := 787) (by decide +kernel)), rfl⟩
theorem tw_789 : zT (Jvm.Cond.lays "VetoHouseModel" "VetoHouseModel" "tokenAt" "I") := ⟨List.mem_append_right _ (List.mem_of_getElem? (i := 789) (by decide +kernel)), rfl⟩
theorem tw_791 : zT (Jvm.Cond.lays "VetoHouseModel" "VetoHouseModel" "tokenLong" "I") := ⟨List.mem_append_right _ (List.mem_of_getElem? (i := 791) (by decide +kernel)), rfl⟩
theorem tw_793 : zT (Jvm.Cond.lays "VetoHouseModel" "VetoHouseModel" "token" "I") := ⟨List.mem_append_right _ (List.mem_of_getElem? (i := 793) (by decide +kernel)), rfl⟩
theorem tw_795 : zT (Jvm.Cond.lays "VetoHouseModel" "VetoHouseModel" "value" "I") := ⟨List.mem_append_right _ (List.mem_of_getElem? (i := 795) (by decide +kernel)), rfl⟩
theorem tw_797 : zT (Jvm.Cond.laysFinal "VetoHouseModel" "VetoHouseModel" "anew" "[I") := ⟨List.mem_append_right _ (List.mem_of_getElem? (i := 797) (by decide +kernel)), rfl⟩
theorem tw_799 : zT (Jvm.Cond.laysFinal "VetoHouseModel" "VetoHouseModel" "values" "[I") := ⟨List.mem_append_right _ (List.mem_of_getElem? (i := 799) (by decide +kernel)), rfl⟩
theorem tw_801 : zT (Jvm.Cond.superclass "VetoHouseModel" "java/lang/Object") := ⟨List.mem_append_right _ (List.mem_of_getElem? (i := 801) (by decide +kernel)), rfl⟩
theorem tw_802 : zT (Jvm.Cond.arrayClass Jvm.ClassFile.FieldType.int) := ⟨List.mem_append_right _ (List.mem_of_getElem? (i := 802) (by decide +kernel)), rfl⟩
theorem tw_803 : zT (Jvm.Cond.methodLink "VetoHouseLaw" (17 : Nat) ({ cls := "VetoHouseModel", name := "house", desc := "(I)I" } : Jvm.MethodName)) := ⟨List.mem_append_right _ (List.mem_of_getElem? (i := 803) (by decide +kernel)), rfl⟩
theorem tw_804 : zT (Jvm.Cond.instanceMethod ({ cls := "VetoHouseModel", name := "house", desc := "(I)I" } : Jvm.MethodName)) := ⟨List.mem_append_right _ (List.mem_of_getElem? (i := 804) (by decide +kernel)), rfl⟩
theorem tw_805 : zT (Jvm.Cond.selects "VetoHouseModel" ({ cls := "VetoHouseModel", name := "house", desc := "(I)I" } : Jvm.MethodName) ({ cls := "VetoHouseModel", name := "house", desc := "(I)I" } : Jvm.MethodName)) := ⟨List.mem_append_right _ (List.mem_of_getElem? (i := 805) (by decide +kernel)), rfl⟩
theorem tw_806 : zT (Jvm.Cond.code ({ cls := "VetoHouseModel", name := "house", desc := "(I)I" } : Jvm.MethodName) prog_14_method_14_code (3 : Nat) (Option.some Jvm.ClassFile.FieldType.int)) := ⟨List.mem_append_right _ (List.mem_of_getElem? (i := 806) (by decide +kernel)), rfl⟩
theorem tw_807 : zT (Jvm.Cond.constantLong "VetoHouseModel" (59 : Nat) (99 : Int64)) := ⟨List.mem_append_right _ (List.mem_of_getElem? (i := 807) (by decide +kernel)), rfl⟩
theorem tw_808 : zT (Jvm.Cond.methodLink "VetoHouseModel" (53 : Nat) ({ cls := "VetoHouseModel", name := "in", desc := "(JJJ)Z" } : Jvm.MethodName)) := ⟨List.mem_append_right _ (List.mem_of_getElem? (i := 808) (by decide +kernel)), rfl⟩
theorem tw_809 : zT (Jvm.Cond.static ({ cls := "VetoHouseModel", name := "in", desc := "(JJJ)Z" } : Jvm.MethodName)) := ⟨List.mem_append_right _ (List.mem_of_getElem? (i := 809) (by decide +kernel)), rfl⟩
theorem tw_810 : zT (Jvm.Cond.code ({ cls := "VetoHouseModel", name := "in", desc := "(JJJ)Z" } : Jvm.MethodName) prog_14_method_3_code (6 : Nat) (Option.some Jvm.ClassFile.FieldType.boolean)) := ⟨List.mem_append_right _ (List.mem_of_getElem? (i := 810) (by decide +kernel)), rfl⟩
theorem tw_811 : zT (Jvm.Cond.methodLink "VetoHouseModel" (61 : Nat) ({ cls := "VetoHouseModel", name := "bad", desc := "(I)I" } : Jvm.MethodName)) := ⟨List.mem_append_right _ (List.mem_of_getElem? (i := 811) (by decide +kernel)), rfl⟩
theorem tw_813 : zT (Jvm.Cond.instanceMethod ({ cls := "VetoHouseModel", name := "bad", desc := "(I)I" } : Jvm.MethodName)) := ⟨List.mem_append_right _ (List.mem_of_getElem? (i := 813) (by decide +kernel)), rfl⟩
theorem tw_814 : zT (Jvm.Cond.code ({ cls := "VetoHouseModel", name := "bad", desc := "(I)I" } : Jvm.MethodName) prog_14_method_4_code (2 : Nat) (Option.some Jvm.ClassFile.FieldType.int)) := ⟨List.mem_append_right _ (List.mem_of_getElem? (i := 814) (by decide +kernel)), rfl⟩
theorem tw_815 : zT (Jvm.Cond.methodLink "VetoHouseModel" (49 : Nat) ({ cls := "VetoHouseModel", name := "many", desc := "()I" } : Jvm.MethodName)) := ⟨List.mem_append_right _ (List.mem_of_getElem? (i := 815) (by decide +kernel)), rfl⟩
theorem tw_817 : zT (Jvm.Cond.instanceMethod ({ cls := "VetoHouseModel", name := "many", desc := "()I" } : Jvm.MethodName)) := ⟨List.mem_append_right _ (List.mem_of_getElem? (i := 817) (by decide +kernel)), rfl⟩
theorem tw_818 : zT (Jvm.Cond.code ({ cls := "VetoHouseModel", name := "many", desc := "()I" } : Jvm.MethodName) prog_14_method_10_code (1 : Nat) (Option.some Jvm.ClassFile.FieldType.int)) := ⟨List.mem_append_right _ (List.mem_of_getElem? (i := 818) (by decide +kernel)), rfl⟩
theorem tw_819 : zT (Jvm.Cond.methodLink "VetoHouseLaw" (22 : Nat) ({ cls := "VetoHouseModel", name := "deputy", desc := "(IIII)I" } : Jvm.MethodName)) := ⟨List.mem_append_right _ (List.mem_of_getElem? (i := 819) (by decide +kernel)), rfl⟩
theorem tw_820 : zT (Jvm.Cond.instanceMethod ({ cls := "VetoHouseModel", name := "deputy", desc := "(IIII)I" } : Jvm.MethodName)) := ⟨List.mem_append_right _ (List.mem_of_getElem? (i := 820) (by decide +kernel)), rfl⟩
theorem tw_821 : zT (Jvm.Cond.selects "VetoHouseModel" ({ cls := "VetoHouseModel", name := "deputy", desc := "(IIII)I" } : Jvm.MethodName) ({ cls := "VetoHouseModel", name := "deputy", desc := "(IIII)I" } : Jvm.MethodName)) := ⟨List.mem_append_right _ (List.mem_of_getElem? (i := 821) (by decide +kernel)), rfl⟩
theorem tw_822 : zT (Jvm.Cond.code ({ cls := "VetoHouseModel", name := "deputy", desc := "(IIII)I" } : Jvm.MethodName) prog_14_method_16_code (5 : Nat) (Option.some Jvm.ClassFile.FieldType.int)) := ⟨List.mem_append_right _ (List.mem_of_getElem? (i := 822) (by decide +kernel)), rfl⟩
theorem tw_823 : zT (Jvm.Cond.constantLong "VetoHouseModel" (65 : Nat) (5 : Int64)) := ⟨List.mem_append_right _ (List.mem_of_getElem? (i := 823) (by decide +kernel)), rfl⟩
theorem tw_824 : zT (Jvm.Cond.methodLink "VetoHouseModel" (67 : Nat) ({ cls := "VetoHouseModel", name := "isBundle", desc := "(I)Z" } : Jvm.MethodName)) := ⟨List.mem_append_right _ (List.mem_of_getElem? (i := 824) (by decide +kernel)), rfl⟩
theorem tw_825 : zT (Jvm.Cond.static ({ cls := "VetoHouseModel", name := "isBundle", desc := "(I)Z" } : Jvm.MethodName)) := ⟨List.mem_append_right _ (List.mem_of_getElem? (i := 825) (by decide +kernel)), rfl⟩
theorem tw_826 : zT (Jvm.Cond.code ({ cls := "VetoHouseModel", name := "isBundle", desc := "(I)Z" } : Jvm.MethodName) prog_14_method_12_code (1 : Nat) (Option.some Jvm.ClassFile.FieldType.boolean)) := ⟨List.mem_append_right _ (List.mem_of_getElem? (i := 826) (by decide +kernel)), rfl⟩
theorem tw_827 : zT (Jvm.Cond.constantLong "VetoHouseModel" (57 : Nat) (255 : Int64)) := ⟨List.mem_append_right _ (List.mem_of_getElem? (i := 827) (by decide +kernel)), rfl⟩
theorem tw_828 : zT (Jvm.Cond.constantLong "VetoHouseModel" (71 : Nat) (40 : Int64)) := ⟨List.mem_append_right _ (List.mem_of_getElem? (i := 828) (by decide +kernel)), rfl⟩
theorem tw_829 : zT (Jvm.Cond.methodLink "VetoHouseModel" (73 : Nat) ({ cls := "VetoHouseModel", name := "full", desc := "()I" } : Jvm.MethodName)) := ⟨List.mem_append_right _ (List.mem_of_getElem? (i := 829) (by decide +kernel)), rfl⟩
theorem tw_831 : zT (Jvm.Cond.instanceMethod ({ cls := "VetoHouseModel", name := "full", desc := "()I" } : Jvm.MethodName)) := ⟨List.mem_append_right _ (List.mem_of_getElem? (i := 831) (by decide +kernel)), rfl⟩
theorem tw_832 : zT (Jvm.Cond.code ({ cls := "VetoHouseModel", name := "full", desc := "()I" } : Jvm.MethodName) prog_14_method_6_code (1 : Nat) (Option.some Jvm.ClassFile.FieldType.int)) := ⟨List.mem_append_right _ (List.mem_of_getElem? (i := 832) (by decide +kernel)), rfl⟩
theorem tw_833 : zT (Jvm.Cond.methodLink "VetoHouseModel" (76 : Nat) ({ cls := "VetoHouseModel", name := "layDeputy", desc := "([IIIII)V" } : Jvm.MethodName)) := ⟨List.mem_append_right _ (List.mem_of_getElem? (i := 833) (by decide +kernel)), rfl⟩
theorem tw_834 : zT (Jvm.Cond.static ({ cls := "VetoHouseModel", name := "layDeputy", desc := "([IIIII)V" } : Jvm.MethodName)) := ⟨List.mem_append_right _ (List.mem_of_getElem? (i := 834) (by decide +kernel)), rfl⟩
theorem tw_835 : zT (Jvm.Cond.code ({ cls := "VetoHouseModel", name := "layDeputy", desc := "([IIIII)V" } : Jvm.MethodName) prog_14_method_15_code (6 : Nat) (Option.none : Option Jvm.ClassFile.FieldType)) := ⟨List.mem_append_right _ (List.mem_of_getElem? (i := 835) (by decide +kernel)), rfl⟩
theorem tw_836 : zT (Jvm.Cond.methodLink "VetoHouseLaw" (39 : Nat) ({ cls := "VetoHouseModel", name := "moves", desc := "(I)I" } : Jvm.MethodName)) := ⟨List.mem_append_right _ (List.mem_of_getElem? (i := 836) (by decide +kernel)), rfl⟩
theorem tw_837 : zT (Jvm.Cond.instanceMethod ({ cls := "VetoHouseModel", name := "moves", desc := "(I)I" } : Jvm.MethodName)) := ⟨List.mem_append_right _ (List.mem_of_getElem? (i := 837) (by decide +kernel)), rfl⟩
theorem tw_838 : zT (Jvm.Cond.selects "VetoHouseModel" ({ cls := "VetoHouseModel", name := "moves", desc := "(I)I" } : Jvm.MethodName) ({ cls := "VetoHouseModel", name := "moves", desc := "(I)I" } : Jvm.MethodName)) := ⟨List.mem_append_right _ (List.mem_of_getElem? (i := 838) (by decide +kernel)), rfl⟩
theorem tw_839 : zT (Jvm.Cond.code ({ cls := "VetoHouseModel", name := "moves", desc := "(I)I" } : Jvm.MethodName) prog_14_method_25_code (3 : Nat) (Option.some Jvm.ClassFile.FieldType.int)) := ⟨List.mem_append_right _ (List.mem_of_getElem? (i := 839) (by decide +kernel)), rfl⟩
theorem tw_840 : zT (Jvm.Cond.methodLink "VetoHouseModel" (104 : Nat) ({ cls := "VetoHouseModel", name := "free", desc := "()I" } : Jvm.MethodName)) := ⟨List.mem_append_right _ (List.mem_of_getElem? (i := 840) (by decide +kernel)), rfl⟩
theorem tw_842 : zT (Jvm.Cond.instanceMethod ({ cls := "VetoHouseModel", name := "free", desc := "()I" } : Jvm.MethodName)) := ⟨List.mem_append_right _ (List.mem_of_getElem? (i := 842) (by decide +kernel)), rfl⟩
theorem tw_843 : zT (Jvm.Cond.code ({ cls := "VetoHouseModel", name := "free", desc := "()I" } : Jvm.MethodName) prog_14_method_22_code (1 : Nat) (Option.some Jvm.ClassFile.FieldType.int)) := ⟨List.mem_append_right _ (List.mem_of_getElem? (i := 843) (by decide +kernel)), rfl⟩
theorem tw_844 : zT (Jvm.Cond.methodLink "VetoHouseModel" (107 : Nat) ({ cls := "VetoHouseModel", name := "no", desc := "()I" } : Jvm.MethodName)) := ⟨List.mem_append_right _ (List.mem_of_getElem? (i := 844) (by decide +kernel)), rfl⟩
theorem tw_846 : zT (Jvm.Cond.instanceMethod ({ cls := "VetoHouseModel", name := "no", desc := "()I" } : Jvm.MethodName)) := ⟨List.mem_append_right _ (List.mem_of_getElem? (i := 846) (by decide +kernel)), rfl⟩
theorem tw_847 : zT (Jvm.Cond.code ({ cls := "VetoHouseModel", name := "no", desc := "()I" } : Jvm.MethodName) prog_14_method_5_code (1 : Nat) (Option.some Jvm.ClassFile.FieldType.int)) := ⟨List.mem_append_right _ (List.mem_of_getElem? (i := 847) (by decide +kernel)), rfl⟩
theorem tw_848 : zT (Jvm.Cond.methodLink "VetoHouseModel" (110 : Nat) ({ cls := "VetoHouseModel", name := "layHand", desc := "()V" } : Jvm.MethodName)) := ⟨List.mem_append_right _ (List.mem_of_getElem? (i := 848) (by decide +kernel)), rfl⟩
theorem tw_850 : zT (Jvm.Cond.instanceMethod ({ cls := "VetoHouseModel", name := "layHand", desc := "()V" } : Jvm.MethodName)) := ⟨List.mem_append_right _ (List.mem_of_getElem? (i := 850) (by decide +kernel)), rfl⟩
theorem tw_851 : zT (Jvm.Cond.code ({ cls := "VetoHouseModel", name := "layHand", desc := "()V" } : Jvm.MethodName) prog_14_method_17_code (2 : Nat) (Option.none : Option Jvm.ClassFile.FieldType)) := ⟨List.mem_append_right _ (List.mem_of_getElem? (i := 851) (by decide +kernel)), rfl⟩
theorem tw_852 : zT (Jvm.Cond.methodLink "VetoHouseModel" (80 : Nat) ({ cls := "VetoHouseModel", name := "get", desc := "(II)I" } : Jvm.MethodName)) := ⟨List.mem_append_right _ (List.mem_of_getElem? (i := 852) (by decide +kernel)), rfl⟩
theorem tw_854 : zT (Jvm.Cond.instanceMethod ({ cls := "VetoHouseModel", name := "get", desc := "(II)I" } : Jvm.MethodName)) := ⟨List.mem_append_right _ (List.mem_of_getElem? (i := 854) (by decide +kernel)), rfl⟩
theorem tw_855 : zT (Jvm.Cond.code ({ cls := "VetoHouseModel", name := "get", desc := "(II)I" } : Jvm.MethodName) prog_14_method_13_code (3 : Nat) (Option.some Jvm.ClassFile.FieldType.int)) := ⟨List.mem_append_right _ (List.mem_of_getElem? (i := 855) (by decide +kernel)), rfl⟩
theorem tw_856 : zT (Jvm.Cond.methodLink "VetoHouseModel" (113 : Nat) ({ cls := "VetoHouseModel", name := "keep", desc := "()V" } : Jvm.MethodName)) := ⟨List.mem_append_right _ (List.mem_of_getElem? (i := 856) (by decide +kernel)), rfl⟩
theorem tw_858 : zT (Jvm.Cond.instanceMethod ({ cls := "VetoHouseModel", name := "keep", desc := "()V" } : Jvm.MethodName)) := ⟨List.mem_append_right _ (List.mem_of_getElem? (i := 858) (by decide +kernel)), rfl⟩
theorem tw_859 : zT (Jvm.Cond.code ({ cls := "VetoHouseModel", name := "keep", desc := "()V" } : Jvm.MethodName) prog_14_method_23_code (2 : Nat) (Option.none : Option Jvm.ClassFile.FieldType)) := ⟨List.mem_append_right _ (List.mem_of_getElem? (i := 859) (by decide +kernel)), rfl⟩
theorem tw_860 : zT (Jvm.Cond.methodLink "VetoHouseModel" (116 : Nat) ({ cls := "VetoHouseModel", name := "stopping", desc := "(I)I" } : Jvm.MethodName)) := ⟨List.mem_append_right _ (List.mem_of_getElem? (i := 860) (by decide +kernel)), rfl⟩
theorem tw_862 : zT (Jvm.Cond.instanceMethod ({ cls := "VetoHouseModel", name := "stopping", desc := "(I)I" } : Jvm.MethodName)) := ⟨List.mem_append_right _ (List.mem_of_getElem? (i := 862) (by decide +kernel)), rfl⟩
theorem tw_863 : zT (Jvm.Cond.code ({ cls := "VetoHouseModel", name := "stopping", desc := "(I)I" } : Jvm.MethodName) prog_14_method_20_code (4 : Nat) (Option.some Jvm.ClassFile.FieldType.int)) := ⟨List.mem_append_right _ (List.mem_of_getElem? (i := 863) (by decide +kernel)), rfl⟩
theorem tw_864 : zT (Jvm.Cond.methodLink "VetoHouseModel" (97 : Nat) ({ cls := "VetoHouseModel", name := "has", desc := "(II)Z" } : Jvm.MethodName)) := ⟨List.mem_append_right _ (List.mem_of_getElem? (i := 864) (by decide +kernel)), rfl⟩
theorem tw_865 : zT (Jvm.Cond.static ({ cls := "VetoHouseModel", name := "has", desc := "(II)Z" } : Jvm.MethodName)) := ⟨List.mem_append_right _ (List.mem_of_getElem? (i := 865) (by decide +kernel)), rfl⟩
theorem tw_866 : zT (Jvm.Cond.code ({ cls := "VetoHouseModel", name := "has", desc := "(II)Z" } : Jvm.MethodName) prog_14_method_8_code (2 : Nat) (Option.some Jvm.ClassFile.FieldType.boolean)) := ⟨List.mem_append_right _ (List.mem_of_getElem? (i := 866) (by decide +kernel)), rfl⟩
theorem tw_867 : zT (Jvm.Cond.methodLink "VetoHouseModel" (101 : Nat) ({ cls := "VetoHouseModel", name := "stopsOf", desc := "(II)Z" } : Jvm.MethodName)) := ⟨List.mem_append_right _ (List.mem_of_getElem? (i := 867) (by decide +kernel)), rfl⟩
theorem tw_869 : zT (Jvm.Cond.instanceMethod ({ cls := "VetoHouseModel", name := "stopsOf", desc := "(II)Z" } : Jvm.MethodName)) := ⟨List.mem_append_right _ (List.mem_of_getElem? (i := 869) (by decide +kernel)), rfl⟩
theorem tw_870 : zT (Jvm.Cond.code ({ cls := "VetoHouseModel", name := "stopsOf", desc := "(II)Z" } : Jvm.MethodName) prog_14_method_19_code (5 : Nat) (Option.some Jvm.ClassFile.FieldType.boolean)) := ⟨List.mem_append_right _ (List.mem_of_getElem? (i := 870) (by decide +kernel)), rfl⟩
theorem tw_871 : zT (Jvm.Cond.methodLink "VetoHouseModel" (94 : Nat) ({ cls := "VetoHouseModel", name := "joyOf", desc := "(II)I" } : Jvm.MethodName)) := ⟨List.mem_append_right _ (List.mem_of_getElem? (i := 871) (by decide +kernel)), rfl⟩
theorem tw_873 : zT (Jvm.Cond.instanceMethod ({ cls := "VetoHouseModel", name := "joyOf", desc := "(II)I" } : Jvm.MethodName)) := ⟨List.mem_append_right _ (List.mem_of_getElem? (i := 873) (by decide +kernel)), rfl⟩
theorem tw_874 : zT (Jvm.Cond.code ({ cls := "VetoHouseModel", name := "joyOf", desc := "(II)I" } : Jvm.MethodName) prog_14_method_18_code (4 : Nat) (Option.some Jvm.ClassFile.FieldType.int)) := ⟨List.mem_append_right _ (List.mem_of_getElem? (i := 874) (by decide +kernel)), rfl⟩
theorem tw_875 : zT (Jvm.Cond.methodLink "VetoHouseModel" (91 : Nat) ({ cls := "VetoHouseModel", name := "bits", desc := "(I)I" } : Jvm.MethodName)) := ⟨List.mem_append_right _ (List.mem_of_getElem? (i := 875) (by decide +kernel)), rfl⟩
theorem tw_876 : zT (Jvm.Cond.static ({ cls := "VetoHouseModel", name := "bits", desc := "(I)I" } : Jvm.MethodName)) := ⟨List.mem_append_right _ (List.mem_of_getElem? (i := 876) (by decide +kernel)), rfl⟩
theorem tw_877 : zT (Jvm.Cond.code ({ cls := "VetoHouseModel", name := "bits", desc := "(I)I" } : Jvm.MethodName) prog_14_method_7_code (3 : Nat) (Option.some Jvm.ClassFile.FieldType.int)) := ⟨List.mem_append_right _ (List.mem_of_getElem? (i := 877) (by decide +kernel)), rfl⟩
theorem tw_878 : zT (Jvm.Cond.methodLink "VetoHouseModel" (119 : Nat) ({ cls := "VetoHouseModel", name := "goEnd", desc := "(I)V" } : Jvm.MethodName)) := ⟨List.mem_append_right _ (List.mem_of_getElem? (i := 878) (by decide +kernel)), rfl⟩
theorem tw_880 : zT (Jvm.Cond.instanceMethod ({ cls := "VetoHouseModel", name := "goEnd", desc := "(I)V" } : Jvm.MethodName)) := ⟨List.mem_append_right _ (List.mem_of_getElem? (i := 880) (by decide +kernel)), rfl⟩
theorem tw_881 : zT (Jvm.Cond.code ({ cls := "VetoHouseModel", name := "goEnd", desc := "(I)V" } : Jvm.MethodName) prog_14_method_24_code (2 : Nat) (Option.none : Option Jvm.ClassFile.FieldType)) := ⟨List.mem_append_right _ (List.mem_of_getElem? (i := 881) (by decide +kernel)), rfl⟩
theorem tw_882 : zT (Jvm.Cond.methodLink "VetoHouseLaw" (43 : Nat) ({ cls := "VetoHouseModel", name := "end", desc := "()I" } : Jvm.MethodName)) := ⟨List.mem_append_right _ (List.mem_of_getElem? (i := 882) (by decide +kernel)), rfl⟩
theorem tw_883 : zT (Jvm.Cond.instanceMethod ({ cls := "VetoHouseModel", name := "end", desc := "()I" } : Jvm.MethodName)) := ⟨List.mem_append_right _ (List.mem_of_getElem? (i := 883) (by decide +kernel)), rfl⟩
theorem tw_884 : zT (Jvm.Cond.selects "VetoHouseModel" ({ cls := "VetoHouseModel", name := "end", desc := "()I" } : Jvm.MethodName) ({ cls := "VetoHouseModel", name := "end", desc := "()I" } : Jvm.MethodName)) := ⟨List.mem_append_right _ (List.mem_of_getElem? (i := 884) (by decide +kernel)), rfl⟩
theorem tw_885 : zT (Jvm.Cond.code ({ cls := "VetoHouseModel", name := "end", desc := "()I" } : Jvm.MethodName) prog_14_method_26_code (1 : Nat) (Option.some Jvm.ClassFile.FieldType.int)) := ⟨List.mem_append_right _ (List.mem_of_getElem? (i := 885) (by decide +kernel)), rfl⟩
theorem tw_886 : zT (Jvm.Cond.methodLink "VetoHouseLaw" (47 : Nat) ({ cls := "VetoHouseModel", name := "buy", desc := "(I)I" } : Jvm.MethodName)) := ⟨List.mem_append_right _ (List.mem_of_getElem? (i := 886) (by decide +kernel)), rfl⟩
theorem tw_887 : zT (Jvm.Cond.instanceMethod ({ cls := "VetoHouseModel", name := "buy", desc := "(I)I" } : Jvm.MethodName)) := ⟨List.mem_append_right _ (List.mem_of_getElem? (i := 887) (by decide +kernel)), rfl⟩
theorem tw_888 : zT (Jvm.Cond.selects "VetoHouseModel" ({ cls := "VetoHouseModel", name := "buy", desc := "(I)I" } : Jvm.MethodName) ({ cls := "VetoHouseModel", name := "buy", desc := "(I)I" } : Jvm.MethodName)) := ⟨List.mem_append_right _ (List.mem_of_getElem? (i := 888) (by decide +kernel)), rfl⟩
theorem tw_889 : zT (Jvm.Cond.code ({ cls := "VetoHouseModel", name := "buy", desc := "(I)I" } : Jvm.MethodName) prog_14_method_27_code (2 : Nat) (Option.some Jvm.ClassFile.FieldType.int)) := ⟨List.mem_append_right _ (List.mem_of_getElem? (i := 889) (by decide +kernel)), rfl⟩
theorem tw_890 : zT (Jvm.Cond.methodLink "VetoHouseModel" (123 : Nat) ({ cls := "VetoHouseModel", name := "isDeputy", desc := "(I)Z" } : Jvm.MethodName)) := ⟨List.mem_append_right _ (List.mem_of_getElem? (i := 890) (by decide +kernel)), rfl⟩
theorem tw_892 : zT (Jvm.Cond.instanceMethod ({ cls := "VetoHouseModel", name := "isDeputy", desc := "(I)Z" } : Jvm.MethodName)) := ⟨List.mem_append_right _ (List.mem_of_getElem? (i := 892) (by decide +kernel)), rfl⟩
theorem tw_893 : zT (Jvm.Cond.code ({ cls := "VetoHouseModel", name := "isDeputy", desc := "(I)Z" } : Jvm.MethodName) prog_14_method_11_code (2 : Nat) (Option.some Jvm.ClassFile.FieldType.boolean)) := ⟨List.mem_append_right _ (List.mem_of_getElem? (i := 893) (by decide +kernel)), rfl⟩
theorem tw_894 : zT (Jvm.Cond.methodLink "VetoHouseModel" (126 : Nat) ({ cls := "VetoHouseModel", name := "costOf", desc := "(I)I" } : Jvm.MethodName)) := ⟨List.mem_append_right _ (List.mem_of_getElem? (i := 894) (by decide +kernel)), rfl⟩
theorem tw_896 : zT (Jvm.Cond.instanceMethod ({ cls := "VetoHouseModel", name := "costOf", desc := "(I)I" } : Jvm.MethodName)) := ⟨List.mem_append_right _ (List.mem_of_getElem? (i := 896) (by decide +kernel)), rfl⟩
theorem tw_897 : zT (Jvm.Cond.code ({ cls := "VetoHouseModel", name := "costOf", desc := "(I)I" } : Jvm.MethodName) prog_14_method_21_code (3 : Nat) (Option.some Jvm.ClassFile.FieldType.int)) := ⟨List.mem_append_right _ (List.mem_of_getElem? (i := 897) (by decide +kernel)), rfl⟩
theorem tw_898 : zT (Jvm.Cond.methodLink "VetoHouseLaw" (51 : Nat) ({ cls := "VetoHouseModel", name := "lock", desc := "(I)I" } : Jvm.MethodName)) := ⟨List.mem_append_right _ (List.mem_of_getElem? (i := 898) (by decide +kernel)), rfl⟩
theorem tw_899 : zT (Jvm.Cond.instanceMethod ({ cls := "VetoHouseModel", name := "lock", desc := "(I)I" } : Jvm.MethodName)) := ⟨List.mem_append_right _ (List.mem_of_getElem? (i := 899) (by decide +kernel)), rfl⟩
theorem tw_900 : zT (Jvm.Cond.selects "VetoHouseModel" ({ cls := "VetoHouseModel", name := "lock", desc := "(I)I" } : Jvm.MethodName) ({ cls := "VetoHouseModel", name := "lock", desc := "(I)I" } : Jvm.MethodName)) := ⟨List.mem_append_right _ (List.mem_of_getElem? (i := 900) (by decide +kernel)), rfl⟩
theorem tw_901 : zT (Jvm.Cond.code ({ cls := "VetoHouseModel", name := "lock", desc := "(I)I" } : Jvm.MethodName) prog_14_method_28_code (2 : Nat) (Option.some Jvm.ClassFile.FieldType.int)) := ⟨List.mem_append_right _ (List.mem_of_getElem? (i := 901) (by decide +kernel)), rfl⟩
theorem tw_902 : zT (Jvm.Cond.methodLink "VetoHouseLaw" (55 : Nat) ({ cls := "VetoHouseModel", name := "undo", desc := "()I" } : Jvm.MethodName)) := ⟨List.mem_append_right _ (List.mem_of_getElem? (i := 902) (by decide +kernel)), rfl⟩
theorem tw_903 : zT (Jvm.Cond.instanceMethod ({ cls := "VetoHouseModel", name := "undo", desc := "()I" } : Jvm.MethodName)) := ⟨List.mem_append_right _ (List.mem_of_getElem? (i := 903) (by decide +kernel)), rfl⟩
theorem tw_904 : zT (Jvm.Cond.selects "VetoHouseModel" ({ cls := "VetoHouseModel", name := "undo", desc := "()I" } : Jvm.MethodName) ({ cls := "VetoHouseModel", name := "undo", desc := "()I" } : Jvm.MethodName)) := ⟨List.mem_append_right _ (List.mem_of_getElem? (i := 904) (by decide +kernel)), rfl⟩
theorem tw_905 : zT (Jvm.Cond.code ({ cls := "VetoHouseModel", name := "undo", desc := "()I" } : Jvm.MethodName) prog_14_method_29_code (2 : Nat) (Option.some Jvm.ClassFile.FieldType.int)) := ⟨List.mem_append_right _ (List.mem_of_getElem? (i := 905) (by decide +kernel)), rfl⟩
theorem tw_906 : zT (Jvm.Cond.methodLink "VetoHouseLaw" (60 : Nat) ({ cls := "VetoHouseModel", name := "of", desc := "(II)I" } : Jvm.MethodName)) := ⟨List.mem_append_right _ (List.mem_of_getElem? (i := 906) (by decide +kernel)), rfl⟩
theorem tw_907 : zT (Jvm.Cond.instanceMethod ({ cls := "VetoHouseModel", name := "of", desc := "(II)I" } : Jvm.MethodName)) := ⟨List.mem_append_right _ (List.mem_of_getElem? (i := 907) (by decide +kernel)), rfl⟩
theorem tw_908 : zT (Jvm.Cond.selects "VetoHouseModel" ({ cls := "VetoHouseModel", name := "of", desc := "(II)I" } : Jvm.MethodName) ({ cls := "VetoHouseModel", name := "of", desc := "(II)I" } : Jvm.MethodName)) := ⟨List.mem_append_right _ (List.mem_of_getElem? (i := 908) (by decide +kernel)), rfl⟩
theorem tw_909 : zT (Jvm.Cond.code ({ cls := "VetoHouseModel", name := "of", desc := "(II)I" } : Jvm.MethodName) prog_14_method_30_code (3 : Nat) (Option.some Jvm.ClassFile.FieldType.int)) := ⟨List.mem_append_right _ (List.mem_of_getElem? (i := 909) (by decide +kernel)), rfl⟩
theorem tw_910 : zT (Jvm.Cond.constantLong "VetoHouseModel" (129 : Nat) (6 : Int64)) := ⟨List.mem_append_right _ (List.mem_of_getElem? (i := 910) (by decide +kernel)), rfl⟩
theorem tw_911 : zT (Jvm.Cond.methodLink "VetoHouseLaw" (64 : Nat) ({ cls := "VetoHouseModel", name := "joy", desc := "(II)I" } : Jvm.MethodName)) := ⟨List.mem_append_right _ (List.mem_of_getElem? (i := 911) (by decide +kernel)), rfl⟩
theorem tw_912 : zT (Jvm.Cond.instanceMethod ({ cls := "VetoHouseModel", name := "joy", desc := "(II)I" } : Jvm.MethodName)) := ⟨List.mem_append_right _ (List.mem_of_getElem? (i := 912) (by decide +kernel)), rfl⟩
theorem tw_913 : zT (Jvm.Cond.selects "VetoHouseModel" ({ cls := "VetoHouseModel", name := "joy", desc := "(II)I" } : Jvm.MethodName) ({ cls := "VetoHouseModel", name := "joy", desc := "(II)I" } : Jvm.MethodName)) := ⟨List.mem_append_right _ (List.mem_of_getElem? (i := 913) (by decide +kernel)), rfl⟩
theorem tw_914 : zT (Jvm.Cond.code ({ cls := "VetoHouseModel", name := "joy", desc := "(II)I" } : Jvm.MethodName) prog_14_method_31_code (3 : Nat) (Option.some Jvm.ClassFile.FieldType.int)) := ⟨List.mem_append_right _ (List.mem_of_getElem? (i := 914) (by decide +kernel)), rfl⟩
theorem tw_915 : zT (Jvm.Cond.methodLink "VetoHouseLaw" (68 : Nat) ({ cls := "VetoHouseModel", name := "acts", desc := "(I)I" } : Jvm.MethodName)) := ⟨List.mem_append_right _ (List.mem_of_getElem? (i := 915) (by decide +kernel)), rfl⟩
theorem tw_916 : zT (Jvm.Cond.instanceMethod ({ cls := "VetoHouseModel", name := "acts", desc := "(I)I" } : Jvm.MethodName)) := ⟨List.mem_append_right _ (List.mem_of_getElem? (i := 916) (by decide +kernel)), rfl⟩
theorem tw_917 : zT (Jvm.Cond.selects "VetoHouseModel" ({ cls := "VetoHouseModel", name := "acts", desc := "(I)I" } : Jvm.MethodName) ({ cls := "VetoHouseModel", name := "acts", desc := "(I)I" } : Jvm.MethodName)) := ⟨List.mem_append_right _ (List.mem_of_getElem? (i := 917) (by decide +kernel)), rfl⟩
theorem tw_918 : zT (Jvm.Cond.code ({ cls := "VetoHouseModel", name := "acts", desc := "(I)I" } : Jvm.MethodName) prog_14_method_32_code (2 : Nat) (Option.some Jvm.ClassFile.FieldType.int)) := ⟨List.mem_append_right _ (List.mem_of_getElem? (i := 918) (by decide +kernel)), rfl⟩
theorem tw_919 : zT (Jvm.Cond.methodLink "VetoHouseLaw" (72 : Nat) ({ cls := "VetoHouseModel", name := "stops", desc := "(I)I" } : Jvm.MethodName)) := ⟨List.mem_append_right _ (List.mem_of_getElem? (i := 919) (by decide +kernel)), rfl⟩
theorem tw_920 : zT (Jvm.Cond.instanceMethod ({ cls := "VetoHouseModel", name := "stops", desc := "(I)I" } : Jvm.MethodName)) := ⟨List.mem_append_right _ (List.mem_of_getElem? (i := 920) (by decide +kernel)), rfl⟩
theorem tw_921 : zT (Jvm.Cond.selects "VetoHouseModel" ({ cls := "VetoHouseModel", name := "stops", desc := "(I)I" } : Jvm.MethodName) ({ cls := "VetoHouseModel", name := "stops", desc := "(I)I" } : Jvm.MethodName)) := ⟨List.mem_append_right _ (List.mem_of_getElem? (i := 921) (by decide +kernel)), rfl⟩
theorem tw_922 : zT (Jvm.Cond.code ({ cls := "VetoHouseModel", name := "stops", desc := "(I)I" } : Jvm.MethodName) prog_14_method_33_code (2 : Nat) (Option.some Jvm.ClassFile.FieldType.int)) := ⟨List.mem_append_right _ (List.mem_of_getElem? (i := 922) (by decide +kernel)), rfl⟩
theorem tw_923 : zT (Jvm.Cond.methodLink "VetoHouseLaw" (76 : Nat) ({ cls := "VetoHouseModel", name := "most", desc := "()I" } : Jvm.MethodName)) := ⟨List.mem_append_right _ (List.mem_of_getElem? (i := 923) (by decide +kernel)), rfl⟩
theorem tw_924 : zT (Jvm.Cond.instanceMethod ({ cls := "VetoHouseModel", name := "most", desc := "()I" } : Jvm.MethodName)) := ⟨List.mem_append_right _ (List.mem_of_getElem? (i := 924) (by decide +kernel)), rfl⟩
theorem tw_925 : zT (Jvm.Cond.selects "VetoHouseModel" ({ cls := "VetoHouseModel", name := "most", desc := "()I" } : Jvm.MethodName) ({ cls := "VetoHouseModel", name := "most", desc := "()I" } : Jvm.MethodName)) := ⟨List.mem_append_right _ (List.mem_of_getElem? (i := 925) (by decide +kernel)), rfl⟩
theorem tw_926 : zT (Jvm.Cond.code ({ cls := "VetoHouseModel", name := "most", desc := "()I" } : Jvm.MethodName) prog_14_method_35_code (1 : Nat) (Option.some Jvm.ClassFile.FieldType.int)) := ⟨List.mem_append_right _ (List.mem_of_getElem? (i := 926) (by decide +kernel)), rfl⟩
theorem tw_927 : zT (Jvm.Cond.methodLink "VetoHouseModel" (131 : Nat) ({ cls := "VetoHouseModel", name := "mostFree", desc := "()I" } : Jvm.MethodName)) := ⟨List.mem_append_right _ (List.mem_of_getElem? (i := 927) (by decide +kernel)), rfl⟩
theorem tw_929 : zT (Jvm.Cond.instanceMethod ({ cls := "VetoHouseModel", name := "mostFree", desc := "()I" } : Jvm.MethodName)) := ⟨List.mem_append_right _ (List.mem_of_getElem? (i := 929) (by decide +kernel)), rfl⟩
theorem tw_930 : zT (Jvm.Cond.code ({ cls := "VetoHouseModel", name := "mostFree", desc := "()I" } : Jvm.MethodName) prog_14_method_34_code (4 : Nat) (Option.some Jvm.ClassFile.FieldType.int)) := ⟨List.mem_append_right _ (List.mem_of_getElem? (i := 930) (by decide +kernel)), rfl⟩
theorem tw_931 : zT (Jvm.Cond.methodLink "VetoHouseLaw" (80 : Nat) ({ cls := "VetoHouseModel", name := "money", desc := "(II)I" } : Jvm.MethodName)) := ⟨List.mem_append_right _ (List.mem_of_getElem? (i := 931) (by decide +kernel)), rfl⟩
theorem tw_932 : zT (Jvm.Cond.instanceMethod ({ cls := "VetoHouseModel", name := "money", desc := "(II)I" } : Jvm.MethodName)) := ⟨List.mem_append_right _ (List.mem_of_getElem? (i := 932) (by decide +kernel)), rfl⟩
theorem tw_933 : zT (Jvm.Cond.selects "VetoHouseModel" ({ cls := "VetoHouseModel", name := "money", desc := "(II)I" } : Jvm.MethodName) ({ cls := "VetoHouseModel", name := "money", desc := "(II)I" } : Jvm.MethodName)) := ⟨List.mem_append_right _ (List.mem_of_getElem? (i := 933) (by decide +kernel)), rfl⟩
theorem tw_934 : zT (Jvm.Cond.code ({ cls := "VetoHouseModel", name := "money", desc := "(II)I" } : Jvm.MethodName) prog_14_method_37_code (6 : Nat) (Option.some Jvm.ClassFile.FieldType.int)) := ⟨List.mem_append_right _ (List.mem_of_getElem? (i := 934) (by decide +kernel)), rfl⟩
theorem tw_935 : zT (Jvm.Cond.constantLong "VetoHouseModel" (134 : Nat) (200 : Int64)) := ⟨List.mem_append_right _ (List.mem_of_getElem? (i := 935) (by decide +kernel)), rfl⟩
theorem tw_936 : zT (Jvm.Cond.constantLong "VetoHouseModel" (136 : Nat) (2 : Int64)) := ⟨List.mem_append_right _ (List.mem_of_getElem? (i := 936) (by decide +kernel)), rfl⟩
theorem tw_937 : zT (Jvm.Cond.methodLink "VetoHouseModel" (138 : Nat) ({ cls := "VetoHouseModel", name := "costOfAll", desc := "(I)I" } : Jvm.MethodName)) := ⟨List.mem_append_right _ (List.mem_of_getElem? (i := 937) (by decide +kernel)), rfl⟩
theorem tw_939 : zT (Jvm.Cond.instanceMethod ({ cls := "VetoHouseModel", name := "costOfAll", desc := "(I)I" } : Jvm.MethodName)) := ⟨List.mem_append_right _ (List.mem_of_getElem? (i := 939) (by decide +kernel)), rfl⟩
theorem tw_940 : zT (Jvm.Cond.code ({ cls := "VetoHouseModel", name := "costOfAll", desc := "(I)I" } : Jvm.MethodName) prog_14_method_36_code (4 : Nat) (Option.some Jvm.ClassFile.FieldType.int)) := ⟨List.mem_append_right _ (List.mem_of_getElem? (i := 940) (by decide +kernel)), rfl⟩
theorem tw_941 : zT (Jvm.Cond.methodLink "VetoHouseLaw" (84 : Nat) ({ cls := "VetoHouseModel", name := "tied", desc := "(I)I" } : Jvm.MethodName)) := ⟨List.mem_append_right _ (List.mem_of_getElem? (i := 941) (by decide +kernel)), rfl⟩
theorem tw_942 : zT (Jvm.Cond.instanceMethod ({ cls := "VetoHouseModel", name := "tied", desc := "(I)I" } : Jvm.MethodName)) := ⟨List.mem_append_right _ (List.mem_of_getElem? (i := 942) (by decide +kernel)), rfl⟩
theorem tw_943 : zT (Jvm.Cond.selects "VetoHouseModel" ({ cls := "VetoHouseModel", name := "tied", desc := "(I)I" } : Jvm.MethodName) ({ cls := "VetoHouseModel", name := "tied", desc := "(I)I" } : Jvm.MethodName)) := ⟨List.mem_append_right _ (List.mem_of_getElem? (i := 943) (by decide +kernel)), rfl⟩
theorem tw_944 : zT (Jvm.Cond.code ({ cls := "VetoHouseModel", name := "tied", desc := "(I)I" } : Jvm.MethodName) prog_14_method_38_code (4 : Nat) (Option.some Jvm.ClassFile.FieldType.int)) := ⟨List.mem_append_right _ (List.mem_of_getElem? (i := 944) (by decide +kernel)), rfl⟩
theorem tw_945 : zT (Jvm.Cond.methodLink "VetoHouseLaw" (88 : Nat) ({ cls := "VetoHouseModel", name := "alone", desc := "()I" } : Jvm.MethodName)) := ⟨List.mem_append_right _ (List.mem_of_getElem? (i := 945) (by decide +kernel)), rfl⟩
theorem tw_946 : zT (Jvm.Cond.instanceMethod ({ cls := "VetoHouseModel", name := "alone", desc := "()I" } : Jvm.MethodName)) := ⟨List.mem_append_right _ (List.mem_of_getElem? (i := 946) (by decide +kernel)), rfl⟩
theorem tw_947 : zT (Jvm.Cond.selects "VetoHouseModel" ({ cls := "VetoHouseModel", name := "alone", desc := "()I" } : Jvm.MethodName) ({ cls := "VetoHouseModel", name := "alone", desc := "()I" } : Jvm.MethodName)) := ⟨List.mem_append_right _ (List.mem_of_getElem? (i := 947) (by decide +kernel)), rfl⟩
theorem tw_948 : zT (Jvm.Cond.code ({ cls := "VetoHouseModel", name := "alone", desc := "()I" } : Jvm.MethodName) prog_14_method_39_code (3 : Nat) (Option.some Jvm.ClassFile.FieldType.int)) := ⟨List.mem_append_right _ (List.mem_of_getElem? (i := 948) (by decide +kernel)), rfl⟩
theorem tw_949 : zT (Jvm.Cond.methodLink "VetoHouseLaw" (92 : Nat) ({ cls := "VetoHouseModel", name := "league", desc := "()I" } : Jvm.MethodName)) := ⟨List.mem_append_right _ (List.mem_of_getElem? (i := 949) (by decide +kernel)), rfl⟩
theorem tw_950 : zT (Jvm.Cond.instanceMethod ({ cls := "VetoHouseModel", name := "league", desc := "()I" } : Jvm.MethodName)) := ⟨List.mem_append_right _ (List.mem_of_getElem? (i := 950) (by decide +kernel)), rfl⟩
theorem tw_951 : zT (Jvm.Cond.selects "VetoHouseModel" ({ cls := "VetoHouseModel", name := "league", desc := "()I" } : Jvm.MethodName) ({ cls := "VetoHouseModel", name := "league", desc := "()I" } : Jvm.MethodName)) := ⟨List.mem_append_right _ (List.mem_of_getElem? (i := 951) (by decide +kernel)), rfl⟩
theorem tw_952 : zT (Jvm.Cond.code ({ cls := "VetoHouseModel", name := "league", desc := "()I" } : Jvm.MethodName) prog_14_method_40_code (5 : Nat) (Option.some Jvm.ClassFile.FieldType.int)) := ⟨List.mem_append_right _ (List.mem_of_getElem? (i := 952) (by decide +kernel)), rfl⟩
theorem tw_953 : zT (Jvm.Cond.methodLink "VetoHouseLaw" (96 : Nat) ({ cls := "VetoHouseModel", name := "courts", desc := "(I)I" } : Jvm.MethodName)) := ⟨List.mem_append_right _ (List.mem_of_getElem? (i := 953) (by decide +kernel)), rfl⟩
theorem tw_954 : zT (Jvm.Cond.instanceMethod ({ cls := "VetoHouseModel", name := "courts", desc := "(I)I" } : Jvm.MethodName)) := ⟨List.mem_append_right _ (List.mem_of_getElem? (i := 954) (by decide +kernel)), rfl⟩
theorem tw_955 : zT (Jvm.Cond.selects "VetoHouseModel" ({ cls := "VetoHouseModel", name := "courts", desc := "(I)I" } : Jvm.MethodName) ({ cls := "VetoHouseModel", name := "courts", desc := "(I)I" } : Jvm.MethodName)) := ⟨List.mem_append_right _ (List.mem_of_getElem? (i := 955) (by decide +kernel)), rfl⟩
theorem tw_956 : zT (Jvm.Cond.code ({ cls := "VetoHouseModel", name := "courts", desc := "(I)I" } : Jvm.MethodName) prog_14_method_42_code (9 : Nat) (Option.some Jvm.ClassFile.FieldType.int)) := ⟨List.mem_append_right _ (List.mem_of_getElem? (i := 956) (by decide +kernel)), rfl⟩
theorem tw_957 : zT (Jvm.Cond.methodLink "VetoHouseModel" (141 : Nat) ({ cls := "VetoHouseModel", name := "isStopped", desc := "(IIII)Z" } : Jvm.MethodName)) := ⟨List.mem_append_right _ (List.mem_of_getElem? (i := 957) (by decide +kernel)), rfl⟩
theorem tw_959 : zT (Jvm.Cond.instanceMethod ({ cls := "VetoHouseModel", name := "isStopped", desc := "(IIII)Z" } : Jvm.MethodName)) := ⟨List.mem_append_right _ (List.mem_of_getElem? (i := 959) (by decide +kernel)), rfl⟩
theorem tw_960 : zT (Jvm.Cond.code ({ cls := "VetoHouseModel", name := "isStopped", desc := "(IIII)Z" } : Jvm.MethodName) prog_14_method_41_code (7 : Nat) (Option.some Jvm.ClassFile.FieldType.boolean)) := ⟨List.mem_append_right _ (List.mem_of_getElem? (i := 960) (by decide +kernel)), rfl⟩
theorem tw_961 : zT (Jvm.Cond.methodLink "VetoHouseLaw" (100 : Nat) ({ cls := "VetoHouseModel", name := "gone", desc := "(I)I" } : Jvm.MethodName)) := ⟨List.mem_append_right _ (List.mem_of_getElem? (i := 961) (by decide +kernel)), rfl⟩
theorem tw_962 : zT (Jvm.Cond.instanceMethod ({ cls := "VetoHouseModel", name := "gone", desc := "(I)I" } : Jvm.MethodName)) := ⟨List.mem_append_right _ (List.mem_of_getElem? (i := 962) (by decide +kernel)), rfl⟩
theorem tw_963 : zT (Jvm.Cond.selects "VetoHouseModel" ({ cls := "VetoHouseModel", name := "gone", desc := "(I)I" } : Jvm.MethodName) ({ cls := "VetoHouseModel", name := "gone", desc := "(I)I" } : Jvm.MethodName)) := ⟨List.mem_append_right _ (List.mem_of_getElem? (i := 963) (by decide +kernel)), rfl⟩
theorem tw_964 : zT (Jvm.Cond.code ({ cls := "VetoHouseModel", name := "gone", desc := "(I)I" } : Jvm.MethodName) prog_14_method_43_code (7 : Nat) (Option.some Jvm.ClassFile.FieldType.int)) := ⟨List.mem_append_right _ (List.mem_of_getElem? (i := 964) (by decide +kernel)), rfl⟩
theorem tw_965 : zT (Jvm.Cond.methodLink "VetoHouseLaw" (104 : Nat) ({ cls := "VetoHouseModel", name := "note", desc := "(IIII)I" } : Jvm.MethodName)) := ⟨List.mem_append_right _ (List.mem_of_getElem? (i := 965) (by decide +kernel)), rfl⟩
theorem tw_966 : zT (Jvm.Cond.instanceMethod ({ cls := "VetoHouseModel", name := "note", desc := "(IIII)I" } : Jvm.MethodName)) := ⟨List.mem_append_right _ (List.mem_of_getElem? (i := 966) (by decide +kernel)), rfl⟩
theorem tw_967 : zT (Jvm.Cond.selects "VetoHouseModel" ({ cls := "VetoHouseModel", name := "note", desc := "(IIII)I" } : Jvm.MethodName) ({ cls := "VetoHouseModel", name := "note", desc := "(IIII)I" } : Jvm.MethodName)) := ⟨List.mem_append_right _ (List.mem_of_getElem? (i := 967) (by decide +kernel)), rfl⟩
theorem tw_968 : zT (Jvm.Cond.code ({ cls := "VetoHouseModel", name := "note", desc := "(IIII)I" } : Jvm.MethodName) prog_14_method_44_code (6 : Nat) (Option.some Jvm.ClassFile.FieldType.int)) := ⟨List.mem_append_right _ (List.mem_of_getElem? (i := 968) (by decide +kernel)), rfl⟩
theorem tw_969 : zT (Jvm.Cond.methodLink "VetoHouseLaw" (108 : Nat) ({ cls := "VetoHouseModel", name := "forget", desc := "()I" } : Jvm.MethodName)) := ⟨List.mem_append_right _ (List.mem_of_getElem? (i := 969) (by decide +kernel)), rfl⟩
theorem tw_970 : zT (Jvm.Cond.instanceMethod ({ cls := "VetoHouseModel", name := "forget", desc := "()I" } : Jvm.MethodName)) := ⟨List.mem_append_right _ (List.mem_of_getElem? (i := 970) (by decide +kernel)), rfl⟩
theorem tw_971 : zT (Jvm.Cond.selects "VetoHouseModel" ({ cls := "VetoHouseModel", name := "forget", desc := "()I" } : Jvm.MethodName) ({ cls := "VetoHouseModel", name := "forget", desc := "()I" } : Jvm.MethodName)) := ⟨List.mem_append_right _ (List.mem_of_getElem? (i := 971) (by decide +kernel)), rfl⟩
theorem tw_972 : zT (Jvm.Cond.code ({ cls := "VetoHouseModel", name := "forget", desc := "()I" } : Jvm.MethodName) prog_14_method_45_code (2 : Nat) (Option.some Jvm.ClassFile.FieldType.int)) := ⟨List.mem_append_right _ (List.mem_of_getElem? (i := 972) (by decide +kernel)), rfl⟩
theorem tw_973 : zT (Jvm.Cond.methodLink "VetoHouseLaw" (112 : Nat) ({ cls := "VetoHouseModel", name := "is", desc := "(I)I" } : Jvm.MethodName)) := ⟨List.mem_append_right _ (List.mem_of_getElem? (i := 973) (by decide +kernel)), rfl⟩
theorem tw_974 : zT (Jvm.Cond.instanceMethod ({ cls := "VetoHouseModel", name := "is", desc := "(I)I" } : Jvm.MethodName)) := ⟨List.mem_append_right _ (List.mem_of_getElem? (i := 974) (by decide +kernel)), rfl⟩
theorem tw_975 : zT (Jvm.Cond.selects "VetoHouseModel" ({ cls := "VetoHouseModel", name := "is", desc := "(I)I" } : Jvm.MethodName) ({ cls := "VetoHouseModel", name := "is", desc := "(I)I" } : Jvm.MethodName)) := ⟨List.mem_append_right _ (List.mem_of_getElem? (i := 975) (by decide +kernel)), rfl⟩
theorem tw_976 : zT (Jvm.Cond.code ({ cls := "VetoHouseModel", name := "is", desc := "(I)I" } : Jvm.MethodName) prog_14_method_48_code (2 : Nat) (Option.some Jvm.ClassFile.FieldType.int)) := ⟨List.mem_append_right _ (List.mem_of_getElem? (i := 976) (by decide +kernel)), rfl⟩
theorem tw_977 : zT (Jvm.Cond.methodLink "VetoHouseModel" (148 : Nat) ({ cls := "VetoHouseModel", name := "kindsOf", desc := "(I)I" } : Jvm.MethodName)) := ⟨List.mem_append_right _ (List.mem_of_getElem? (i := 977) (by decide +kernel)), rfl⟩
theorem tw_979 : zT (Jvm.Cond.instanceMethod ({ cls := "VetoHouseModel", name := "kindsOf", desc := "(I)I" } : Jvm.MethodName)) := ⟨List.mem_append_right _ (List.mem_of_getElem? (i := 979) (by decide +kernel)), rfl⟩
theorem tw_980 : zT (Jvm.Cond.code ({ cls := "VetoHouseModel", name := "kindsOf", desc := "(I)I" } : Jvm.MethodName) prog_14_method_47_code (4 : Nat) (Option.some Jvm.ClassFile.FieldType.int)) := ⟨List.mem_append_right _ (List.mem_of_getElem? (i := 980) (by decide +kernel)), rfl⟩
theorem tw_981 : zT (Jvm.Cond.methodLink "VetoHouseModel" (145 : Nat) ({ cls := "VetoHouseModel", name := "areSo", desc := "(I)Z" } : Jvm.MethodName)) := ⟨List.mem_append_right _ (List.mem_of_getElem? (i := 981) (by decide +kernel)), rfl⟩
theorem tw_983 : zT (Jvm.Cond.instanceMethod ({ cls := "VetoHouseModel", name := "areSo", desc := "(I)Z" } : Jvm.MethodName)) := ⟨List.mem_append_right _ (List.mem_of_getElem? (i := 983) (by decide +kernel)), rfl⟩
theorem tw_984 : zT (Jvm.Cond.code ({ cls := "VetoHouseModel", name := "areSo", desc := "(I)Z" } : Jvm.MethodName) prog_14_method_46_code (5 : Nat) (Option.some Jvm.ClassFile.FieldType.boolean)) := ⟨List.mem_append_right _ (List.mem_of_getElem? (i := 984) (by decide +kernel)), rfl⟩
theorem tw_985 : zT (Jvm.Cond.methodLink "VetoHouseLaw" (116 : Nat) ({ cls := "VetoHouseModel", name := "holds", desc := "(II)I" } : Jvm.MethodName)) := ⟨List.mem_append_right _ (List.mem_of_getElem? (i := 985) (by decide +kernel)), rfl⟩
theorem tw_986 : zT (Jvm.Cond.instanceMethod ({ cls := "VetoHouseModel", name := "holds", desc := "(II)I" } : Jvm.MethodName)) := ⟨List.mem_append_right _ (List.mem_of_getElem? (i := 986) (by decide +kernel)), rfl⟩
theorem tw_987 : zT (Jvm.Cond.selects "VetoHouseModel" ({ cls := "VetoHouseModel", name := "holds", desc := "(II)I" } : Jvm.MethodName) ({ cls := "VetoHouseModel", name := "holds", desc := "(II)I" } : Jvm.MethodName)) := ⟨List.mem_append_right _ (List.mem_of_getElem? (i := 987) (by decide +kernel)), rfl⟩
theorem tw_988 : zT (Jvm.Cond.code ({ cls := "VetoHouseModel", name := "holds", desc := "(II)I" } : Jvm.MethodName) prog_14_method_49_code (5 : Nat) (Option.some Jvm.ClassFile.FieldType.int)) := ⟨List.mem_append_right _ (List.mem_of_getElem? (i := 988) (by decide +kernel)), rfl⟩
theorem tw_989 : zT (Jvm.Cond.constantLong "VetoHouseModel" (151 : Nat) (7 : Int64)) := ⟨List.mem_append_right _ (List.mem_of_getElem? (i := 989) (by decide +kernel)), rfl⟩
theorem tw_990 : zT (Jvm.Cond.methodLink "VetoHouseLaw" (120 : Nat) ({ cls := "VetoHouseModel", name := "tryNext", desc := "(I)I" } : Jvm.MethodName)) := ⟨List.mem_append_right _ (List.mem_of_getElem? (i := 990) (by decide +kernel)), rfl⟩
theorem tw_991 : zT (Jvm.Cond.instanceMethod ({ cls := "VetoHouseModel", name := "tryNext", desc := "(I)I" } : Jvm.MethodName)) := ⟨List.mem_append_right _ (List.mem_of_getElem? (i := 991) (by decide +kernel)), rfl⟩
theorem tw_992 : zT (Jvm.Cond.selects "VetoHouseModel" ({ cls := "VetoHouseModel", name := "tryNext", desc := "(I)I" } : Jvm.MethodName) ({ cls := "VetoHouseModel", name := "tryNext", desc := "(I)I" } : Jvm.MethodName)) := ⟨List.mem_append_right _ (List.mem_of_getElem? (i := 992) (by decide +kernel)), rfl⟩
theorem tw_993 : zT (Jvm.Cond.code ({ cls := "VetoHouseModel", name := "tryNext", desc := "(I)I" } : Jvm.MethodName) prog_14_method_50_code (8 : Nat) (Option.some Jvm.ClassFile.FieldType.int)) := ⟨List.mem_append_right _ (List.mem_of_getElem? (i := 993) (by decide +kernel)), rfl⟩
theorem tw_994 : zT (Jvm.Cond.constant "VetoHouseModel" (153 : Nat) (1000000 : Int32)) := ⟨List.mem_append_right _ (List.mem_of_getElem? (i := 994) (by decide +kernel)), rfl⟩
theorem tw_995 : zT (Jvm.Cond.methodLink "VetoHouseLaw" (124 : Nat) ({ cls := "VetoHouseModel", name := "away", desc := "(II)I" } : Jvm.MethodName)) := ⟨List.mem_append_right _ (List.mem_of_getElem? (i := 995) (by decide +kernel)), rfl⟩
theorem tw_996 : zT (Jvm.Cond.instanceMethod ({ cls := "VetoHouseModel", name := "away", desc := "(II)I" } : Jvm.MethodName)) := ⟨List.mem_append_right _ (List.mem_of_getElem? (i := 996) (by decide +kernel)), rfl⟩
theorem tw_997 : zT (Jvm.Cond.selects "VetoHouseModel" ({ cls := "VetoHouseModel", name := "away", desc := "(II)I" } : Jvm.MethodName) ({ cls := "VetoHouseModel", name := "away", desc := "(II)I" } : Jvm.MethodName)) := ⟨List.mem_append_right _ (List.mem_of_getElem? (i := 997) (by decide +kernel)), rfl⟩
theorem tw_998 : zT (Jvm.Cond.code ({ cls := "VetoHouseModel", name := "away", desc := "(II)I" } : Jvm.MethodName) prog_14_method_52_code (8 : Nat) (Option.some Jvm.ClassFile.FieldType.int)) := ⟨List.mem_append_right _ (List.mem_of_getElem? (i := 998) (by decide +kernel)), rfl⟩
theorem tw_999 : zT (Jvm.Cond.constantLong "VetoHouseModel" (157 : Nat) (10 : Int64)) := ⟨List.mem_append_right _ (List.mem_of_getElem? (i := 999) (by decide +kernel)), rfl⟩
theorem tw_1000 : zT (Jvm.Cond.methodLink "VetoHouseModel" (159 : Nat) ({ cls := "VetoHouseModel", name := "fraction", desc := "(JJ)V" } : Jvm.MethodName)) := ⟨List.mem_append_right _ (List.mem_of_getElem? (i := 1000) (by decide +kernel)), rfl⟩
theorem tw_1002 : zT (Jvm.Cond.instanceMethod ({ cls := "VetoHouseModel", name := "fraction", desc := "(JJ)V" } : Jvm.MethodName)) := ⟨List.mem_append_right _ (List.mem_of_getElem? (i := 1002) (by decide +kernel)), rfl⟩
theorem tw_1003 : zT (Jvm.Cond.code ({ cls := "VetoHouseModel", name := "fraction", desc := "(JJ)V" } : Jvm.MethodName) prog_14_method_51_code (11 : Nat) (Option.none : Option Jvm.ClassFile.FieldType)) := ⟨List.mem_append_right _ (List.mem_of_getElem? (i := 1003) (by decide +kernel)), rfl⟩
theorem tw_1004 : zT (Jvm.Cond.methodLink "VetoHouseLaw" (128 : Nat) ({ cls := "VetoHouseModel", name := "diets", desc := "(II)I" } : Jvm.MethodName)) := ⟨List.mem_append_right _ (List.mem_of_getElem? (i := 1004) (by decide +kernel)), rfl⟩
theorem tw_1005 : zT (Jvm.Cond.instanceMethod ({ cls := "VetoHouseModel", name := "diets", desc := "(II)I" } : Jvm.MethodName)) := ⟨List.mem_append_right _ (List.mem_of_getElem? (i := 1005) (by decide +kernel)), rfl⟩
theorem tw_1006 : zT (Jvm.Cond.selects "VetoHouseModel" ({ cls := "VetoHouseModel", name := "diets", desc := "(II)I" } : Jvm.MethodName) ({ cls := "VetoHouseModel", name := "diets", desc := "(II)I" } : Jvm.MethodName)) := ⟨List.mem_append_right _ (List.mem_of_getElem? (i := 1006) (by decide +kernel)), rfl⟩
theorem tw_1007 : zT (Jvm.Cond.code ({ cls := "VetoHouseModel", name := "diets", desc := "(II)I" } : Jvm.MethodName) prog_14_method_53_code (10 : Nat) (Option.some Jvm.ClassFile.FieldType.int)) := ⟨List.mem_append_right _ (List.mem_of_getElem? (i := 1007) (by decide +kernel)), rfl⟩
theorem tw_1008 : zT (Jvm.Cond.constantLong "VetoHouseModel" (163 : Nat) (999999 : Int64)) := ⟨List.mem_append_right _ (List.mem_of_getElem? (i := 1008) (by decide +kernel)), rfl⟩
theorem tw_1009 : zT (Jvm.Cond.constantLong "VetoHouseModel" (165 : Nat) (30 : Int64)) := ⟨List.mem_append_right _ (List.mem_of_getElem? (i := 1009) (by decide +kernel)), rfl⟩
theorem tw_1010 : zT (Jvm.Cond.constantLong "VetoHouseModel" (167 : Nat) (1103515245 : Int64)) := ⟨List.mem_append_right _ (List.mem_of_getElem? (i := 1010) (by decide +kernel)), rfl⟩
theorem tw_1011 : zT (Jvm.Cond.constantLong "VetoHouseModel" (169 : Nat) (12345 : Int64)) := ⟨List.mem_append_right _ (List.mem_of_getElem? (i := 1011) (by decide +kernel)), rfl⟩
theorem tw_1012 : zT (Jvm.Cond.constantLong "VetoHouseModel" (171 : Nat) (2147483648 : Int64)) := ⟨List.mem_append_right _ (List.mem_of_getElem? (i := 1012) (by decide +kernel)), rfl⟩
theorem tw_1013 : zT (Jvm.Cond.constantLong "VetoHouseModel" (173 : Nat) (65536 : Int64)) := ⟨List.mem_append_right _ (List.mem_of_getElem? (i := 1013) (by decide +kernel)), rfl⟩
theorem tw_1014 : zT (Jvm.Cond.constantLong "VetoHouseModel" (175 : Nat) (256 : Int64)) := ⟨List.mem_append_right _ (List.mem_of_getElem? (i := 1014) (by decide +kernel)), rfl⟩
theorem tw_1015 : zT (Jvm.Cond.methodLink "VetoHouseLaw" (26 : Nat) ({ cls := "VetoHouseModel", name := "type", desc := "(I)I" } : Jvm.MethodName)) := ⟨List.mem_append_right _ (List.mem_of_getElem? (i := 1015) (by decide +kernel)), rfl⟩
theorem tw_1016 : zT (Jvm.Cond.instanceMethod ({ cls := "VetoHouseModel", name := "type", desc := "(I)I" } : Jvm.MethodName)) := ⟨List.mem_append_right _ (List.mem_of_getElem? (i := 1016) (by decide +kernel)), rfl⟩
theorem tw_1017 : zT (Jvm.Cond.selects "VetoHouseModel" ({ cls := "VetoHouseModel", name := "type", desc := "(I)I" } : Jvm.MethodName) ({ cls := "VetoHouseModel", name := "type", desc := "(I)I" } : Jvm.MethodName)) := ⟨List.mem_append_right _ (List.mem_of_getElem? (i := 1017) (by decide +kernel)), rfl⟩
theorem tw_1018 : zT (Jvm.Cond.code ({ cls := "VetoHouseModel", name := "type", desc := "(I)I" } : Jvm.MethodName) prog_14_method_54_code (2 : Nat) (Option.some Jvm.ClassFile.FieldType.int)) := ⟨List.mem_append_right _ (List.mem_of_getElem? (i := 1018) (by decide +kernel)), rfl⟩
theorem tw_1019 : zT (Jvm.Cond.constantLong "VetoHouseModel" (177 : Nat) (127 : Int64)) := ⟨List.mem_append_right _ (List.mem_of_getElem? (i := 1019) (by decide +kernel)), rfl⟩
theorem tw_1020 : zT (Jvm.Cond.methodLink "VetoHouseLaw" (31 : Nat) ({ cls := "VetoHouseModel", name := "clear", desc := "()I" } : Jvm.MethodName)) := ⟨List.mem_append_right _ (List.mem_of_getElem? (i := 1020) (by decide +kernel)), rfl⟩
theorem tw_1021 : zT (Jvm.Cond.instanceMethod ({ cls := "VetoHouseModel", name := "clear", desc := "()I" } : Jvm.MethodName)) := ⟨List.mem_append_right _ (List.mem_of_getElem? (i := 1021) (by decide +kernel)), rfl⟩
theorem tw_1022 : zT (Jvm.Cond.selects "VetoHouseModel" ({ cls := "VetoHouseModel", name := "clear", desc := "()I" } : Jvm.MethodName) ({ cls := "VetoHouseModel", name := "clear", desc := "()I" } : Jvm.MethodName)) := ⟨List.mem_append_right _ (List.mem_of_getElem? (i := 1022) (by decide +kernel)), rfl⟩
theorem tw_1023 : zT (Jvm.Cond.code ({ cls := "VetoHouseModel", name := "clear", desc := "()I" } : Jvm.MethodName) prog_14_method_55_code (2 : Nat) (Option.some Jvm.ClassFile.FieldType.int)) := ⟨List.mem_append_right _ (List.mem_of_getElem? (i := 1023) (by decide +kernel)), rfl⟩
theorem tw_1024 : zT (Jvm.Cond.methodLink "VetoHouseLaw" (35 : Nat) ({ cls := "VetoHouseModel", name := "read", desc := "()I" } : Jvm.MethodName)) := ⟨List.mem_append_right _ (List.mem_of_getElem? (i := 1024) (by decide +kernel)), rfl⟩
theorem tw_1025 : zT (Jvm.Cond.instanceMethod ({ cls := "VetoHouseModel", name := "read", desc := "()I" } : Jvm.MethodName)) := ⟨List.mem_append_right _ (List.mem_of_getElem? (i := 1025) (by decide +kernel)), rfl⟩
theorem tw_1026 : zT (Jvm.Cond.selects "VetoHouseModel" ({ cls := "VetoHouseModel", name := "read", desc := "()I" } : Jvm.MethodName) ({ cls := "VetoHouseModel", name := "read", desc := "()I" } : Jvm.MethodName)) := ⟨List.mem_append_right _ (List.mem_of_getElem? (i := 1026) (by decide +kernel)), rfl⟩
theorem tw_1027 : zT (Jvm.Cond.code ({ cls := "VetoHouseModel", name := "read", desc := "()I" } : Jvm.MethodName) prog_14_method_67_code (3 : Nat) (Option.some Jvm.ClassFile.FieldType.int)) := ⟨List.mem_append_right _ (List.mem_of_getElem? (i := 1027) (by decide +kernel)), rfl⟩
theorem tw_1028 : zT (Jvm.Cond.methodLink "VetoHouseModel" (208 : Nat) ({ cls := "VetoHouseModel", name := "lookAt", desc := "(I)V" } : Jvm.MethodName)) := ⟨List.mem_append_right _ (List.mem_of_getElem? (i := 1028) (by decide +kernel)), rfl⟩
theorem tw_1030 : zT (Jvm.Cond.instanceMethod ({ cls := "VetoHouseModel", name := "lookAt", desc := "(I)V" } : Jvm.MethodName)) := ⟨List.mem_append_right _ (List.mem_of_getElem? (i := 1030) (by decide +kernel)), rfl⟩
theorem tw_1031 : zT (Jvm.Cond.code ({ cls := "VetoHouseModel", name := "lookAt", desc := "(I)V" } : Jvm.MethodName) prog_14_method_58_code (5 : Nat) (Option.none : Option Jvm.ClassFile.FieldType)) := ⟨List.mem_append_right _ (List.mem_of_getElem? (i := 1031) (by decide +kernel)), rfl⟩
theorem tw_1032 : zT (Jvm.Cond.methodLink "VetoHouseModel" (202 : Nat) ({ cls := "VetoHouseModel", name := "isSmall", desc := "(I)Z" } : Jvm.MethodName)) := ⟨List.mem_append_right _ (List.mem_of_getElem? (i := 1032) (by decide +kernel)), rfl⟩
theorem tw_1033 : zT (Jvm.Cond.static ({ cls := "VetoHouseModel", name := "isSmall", desc := "(I)Z" } : Jvm.MethodName)) := ⟨List.mem_append_right _ (List.mem_of_getElem? (i := 1033) (by decide +kernel)), rfl⟩
theorem tw_1034 : zT (Jvm.Cond.code ({ cls := "VetoHouseModel", name := "isSmall", desc := "(I)Z" } : Jvm.MethodName) prog_14_method_56_code (1 : Nat) (Option.some Jvm.ClassFile.FieldType.boolean)) := ⟨List.mem_append_right _ (List.mem_of_getElem? (i := 1034) (by decide +kernel)), rfl⟩
theorem tw_1035 : zT (Jvm.Cond.constantLong "VetoHouseModel" (182 : Nat) (97 : Int64)) := ⟨List.mem_append_right _ (List.mem_of_getElem? (i := 1035) (by decide +kernel)), rfl⟩
theorem tw_1036 : zT (Jvm.Cond.constantLong "VetoHouseModel" (184 : Nat) (122 : Int64)) := ⟨List.mem_append_right _ (List.mem_of_getElem? (i := 1036) (by decide +kernel)), rfl⟩
theorem tw_1037 : zT (Jvm.Cond.methodLink "VetoHouseModel" (205 : Nat) ({ cls := "VetoHouseModel", name := "isFigure", desc := "(I)Z" } : Jvm.MethodName)) := ⟨List.mem_append_right _ (List.mem_of_getElem? (i := 1037) (by decide +kernel)), rfl⟩
theorem tw_1038 : zT (Jvm.Cond.static ({ cls := "VetoHouseModel", name := "isFigure", desc := "(I)Z" } : Jvm.MethodName)) := ⟨List.mem_append_right _ (List.mem_of_getElem? (i := 1038) (by decide +kernel)), rfl⟩
theorem tw_1039 : zT (Jvm.Cond.code ({ cls := "VetoHouseModel", name := "isFigure", desc := "(I)Z" } : Jvm.MethodName) prog_14_method_57_code (1 : Nat) (Option.some Jvm.ClassFile.FieldType.boolean)) := ⟨List.mem_append_right _ (List.mem_of_getElem? (i := 1039) (by decide +kernel)), rfl⟩
theorem tw_1040 : zT (Jvm.Cond.constantLong "VetoHouseModel" (186 : Nat) (48 : Int64)) := ⟨List.mem_append_right _ (List.mem_of_getElem? (i := 1040) (by decide +kernel)), rfl⟩
theorem tw_1041 : zT (Jvm.Cond.constantLong "VetoHouseModel" (188 : Nat) (57 : Int64)) := ⟨List.mem_append_right _ (List.mem_of_getElem? (i := 1041) (by decide +kernel)), rfl⟩
theorem tw_1042 : zT (Jvm.Cond.methodLink "VetoHouseModel" (232 : Nat) ({ cls := "VetoHouseModel", name := "takesHouse", desc := "()Z" } : Jvm.MethodName)) := ⟨List.mem_append_right _ (List.mem_of_getElem? (i := 1042) (by decide +kernel)), rfl⟩
theorem tw_1044 : zT (Jvm.Cond.instanceMethod ({ cls := "VetoHouseModel", name := "takesHouse", desc := "()Z" } : Jvm.MethodName)) := ⟨List.mem_append_right _ (List.mem_of_getElem? (i := 1044) (by decide +kernel)), rfl⟩
theorem tw_1045 : zT (Jvm.Cond.code ({ cls := "VetoHouseModel", name := "takesHouse", desc := "()Z" } : Jvm.MethodName) prog_14_method_62_code (1 : Nat) (Option.some Jvm.ClassFile.FieldType.boolean)) := ⟨List.mem_append_right _ (List.mem_of_getElem? (i := 1045) (by decide +kernel)), rfl⟩
theorem tw_1046 : zT (Jvm.Cond.methodLink "VetoHouseModel" (214 : Nat) ({ cls := "VetoHouseModel", name := "spells", desc := "(IIIIIII)Z" } : Jvm.MethodName)) := ⟨List.mem_append_right _ (List.mem_of_getElem? (i := 1046) (by decide +kernel)), rfl⟩
theorem tw_1048 : zT (Jvm.Cond.instanceMethod ({ cls := "VetoHouseModel", name := "spells", desc := "(IIIIIII)Z" } : Jvm.MethodName)) := ⟨List.mem_append_right _ (List.mem_of_getElem? (i := 1048) (by decide +kernel)), rfl⟩
theorem tw_1049 : zT (Jvm.Cond.code ({ cls := "VetoHouseModel", name := "spells", desc := "(IIIIIII)Z" } : Jvm.MethodName) prog_14_method_60_code (10 : Nat) (Option.some Jvm.ClassFile.FieldType.boolean)) := ⟨List.mem_append_right _ (List.mem_of_getElem? (i := 1049) (by decide +kernel)), rfl⟩
theorem tw_1050 : zT (Jvm.Cond.methodLink "VetoHouseModel" (211 : Nat) ({ cls := "VetoHouseModel", name := "goBehind", desc := "()V" } : Jvm.MethodName)) := ⟨List.mem_append_right _ (List.mem_of_getElem? (i := 1050) (by decide +kernel)), rfl⟩
theorem tw_1052 : zT (Jvm.Cond.instanceMethod ({ cls := "VetoHouseModel", name := "goBehind", desc := "()V" } : Jvm.MethodName)) := ⟨List.mem_append_right _ (List.mem_of_getElem? (i := 1052) (by decide +kernel)), rfl⟩
theorem tw_1053 : zT (Jvm.Cond.code ({ cls := "VetoHouseModel", name := "goBehind", desc := "()V" } : Jvm.MethodName) prog_14_method_59_code (1 : Nat) (Option.none : Option Jvm.ClassFile.FieldType)) := ⟨List.mem_append_right _ (List.mem_of_getElem? (i := 1053) (by decide +kernel)), rfl⟩
theorem tw_1054 : zT (Jvm.Cond.methodLink "VetoHouseModel" (218 : Nat) ({ cls := "VetoHouseModel", name := "takes", desc := "(III)Z" } : Jvm.MethodName)) := ⟨List.mem_append_right _ (List.mem_of_getElem? (i := 1054) (by decide +kernel)), rfl⟩
theorem tw_1056 : zT (Jvm.Cond.instanceMethod ({ cls := "VetoHouseModel", name := "takes", desc := "(III)Z" } : Jvm.MethodName)) := ⟨List.mem_append_right _ (List.mem_of_getElem? (i := 1056) (by decide +kernel)), rfl⟩
theorem tw_1057 : zT (Jvm.Cond.code ({ cls := "VetoHouseModel", name := "takes", desc := "(III)Z" } : Jvm.MethodName) prog_14_method_61_code (4 : Nat) (Option.some Jvm.ClassFile.FieldType.boolean)) := ⟨List.mem_append_right _ (List.mem_of_getElem? (i := 1057) (by decide +kernel)), rfl⟩
theorem tw_1058 : zT (Jvm.Cond.methodLink "VetoHouseModel" (235 : Nat) ({ cls := "VetoHouseModel", name := "takesItem", desc := "()Z" } : Jvm.MethodName)) := ⟨List.mem_append_right _ (List.mem_of_getElem? (i := 1058) (by decide +kernel)), rfl⟩
theorem tw_1060 : zT (Jvm.Cond.instanceMethod ({ cls := "VetoHouseModel", name := "takesItem", desc := "()Z" } : Jvm.MethodName)) := ⟨List.mem_append_right _ (List.mem_of_getElem? (i := 1060) (by decide +kernel)), rfl⟩
theorem tw_1061 : zT (Jvm.Cond.code ({ cls := "VetoHouseModel", name := "takesItem", desc := "()Z" } : Jvm.MethodName) prog_14_method_66_code (1 : Nat) (Option.some Jvm.ClassFile.FieldType.boolean)) := ⟨List.mem_append_right _ (List.mem_of_getElem? (i := 1061) (by decide +kernel)), rfl⟩
theorem tw_1062 : zT (Jvm.Cond.methodLink "VetoHouseModel" (225 : Nat) ({ cls := "VetoHouseModel", name := "takesDeputy", desc := "()Z" } : Jvm.MethodName)) := ⟨List.mem_append_right _ (List.mem_of_getElem? (i := 1062) (by decide +kernel)), rfl⟩
theorem tw_1064 : zT (Jvm.Cond.instanceMethod ({ cls := "VetoHouseModel", name := "takesDeputy", desc := "()Z" } : Jvm.MethodName)) := ⟨List.mem_append_right _ (List.mem_of_getElem? (i := 1064) (by decide +kernel)), rfl⟩
theorem tw_1065 : zT (Jvm.Cond.code ({ cls := "VetoHouseModel", name := "takesDeputy", desc := "()Z" } : Jvm.MethodName) prog_14_method_63_code (1 : Nat) (Option.some Jvm.ClassFile.FieldType.boolean)) := ⟨List.mem_append_right _ (List.mem_of_getElem? (i := 1065) (by decide +kernel)), rfl⟩
theorem tw_1066 : zT (Jvm.Cond.methodLink "VetoHouseModel" (229 : Nat) ({ cls := "VetoHouseModel", name := "takesMind", desc := "(I)Z" } : Jvm.MethodName)) := ⟨List.mem_append_right _ (List.mem_of_getElem? (i := 1066) (by decide +kernel)), rfl⟩
theorem tw_1068 : zT (Jvm.Cond.instanceMethod ({ cls := "VetoHouseModel", name := "takesMind", desc := "(I)Z" } : Jvm.MethodName)) := ⟨List.mem_append_right _ (List.mem_of_getElem? (i := 1068) (by decide +kernel)), rfl⟩
theorem tw_1069 : zT (Jvm.Cond.code ({ cls := "VetoHouseModel", name := "takesMind", desc := "(I)Z" } : Jvm.MethodName) prog_14_method_65_code (2 : Nat) (Option.some Jvm.ClassFile.FieldType.boolean)) := ⟨List.mem_append_right _ (List.mem_of_getElem? (i := 1069) (by decide +kernel)), rfl⟩
theorem tw_1070 : zT (Jvm.Cond.methodLink "VetoHouseModel" (222 : Nat) ({ cls := "VetoHouseModel", name := "takesLaws", desc := "(I)Z" } : Jvm.MethodName)) := ⟨List.mem_append_right _ (List.mem_of_getElem? (i := 1070) (by decide +kernel)), rfl⟩
theorem tw_1072 : zT (Jvm.Cond.instanceMethod ({ cls := "VetoHouseModel", name := "takesLaws", desc := "(I)Z" } : Jvm.MethodName)) := ⟨List.mem_append_right _ (List.mem_of_getElem? (i := 1072) (by decide +kernel)), rfl⟩
theorem tw_1073 : zT (Jvm.Cond.code ({ cls := "VetoHouseModel", name := "takesLaws", desc := "(I)Z" } : Jvm.MethodName) prog_14_method_64_code (3 : Nat) (Option.some Jvm.ClassFile.FieldType.boolean)) := ⟨List.mem_append_right _ (List.mem_of_getElem? (i := 1073) (by decide +kernel)), rfl⟩
theorem tw_1074 : zT (Jvm.Cond.methodLink "VetoHouseLaw" (133 : Nat) ({ cls := "VetoHouseModel", name := "part", desc := "(I)J" } : Jvm.MethodName)) := ⟨List.mem_append_right _ (List.mem_of_getElem? (i := 1074) (by decide +kernel)), rfl⟩
theorem tw_1075 : zT (Jvm.Cond.instanceMethod ({ cls := "VetoHouseModel", name := "part", desc := "(I)J" } : Jvm.MethodName)) := ⟨List.mem_append_right _ (List.mem_of_getElem? (i := 1075) (by decide +kernel)), rfl⟩
theorem tw_1076 : zT (Jvm.Cond.selects "VetoHouseModel" ({ cls := "VetoHouseModel", name := "part", desc := "(I)J" } : Jvm.MethodName) ({ cls := "VetoHouseModel", name := "part", desc := "(I)J" } : Jvm.MethodName)) := ⟨List.mem_append_right _ (List.mem_of_getElem? (i := 1076) (by decide +kernel)), rfl⟩
theorem tw_1077 : zT (Jvm.Cond.code ({ cls := "VetoHouseModel", name := "part", desc := "(I)J" } : Jvm.MethodName) prog_14_method_68_code (2 : Nat) (Option.some Jvm.ClassFile.FieldType.long)) := ⟨List.mem_append_right _ (List.mem_of_getElem? (i := 1077) (by decide +kernel)), rfl⟩
theorem tw_1078 : zT (Jvm.Cond.methodLink "VetoHouseLaw" (137 : Nat) ({ cls := "VetoHouseModel", name := "image", desc := "(I)I" } : Jvm.MethodName)) := ⟨List.mem_append_right _ (List.mem_of_getElem? (i := 1078) (by decide +kernel)), rfl⟩
theorem tw_1079 : zT (Jvm.Cond.instanceMethod ({ cls := "VetoHouseModel", name := "image", desc := "(I)I" } : Jvm.MethodName)) := ⟨List.mem_append_right _ (List.mem_of_getElem? (i := 1079) (by decide +kernel)), rfl⟩
theorem tw_1080 : zT (Jvm.Cond.selects "VetoHouseModel" ({ cls := "VetoHouseModel", name := "image", desc := "(I)I" } : Jvm.MethodName) ({ cls := "VetoHouseModel", name := "image", desc := "(I)I" } : Jvm.MethodName)) := ⟨List.mem_append_right _ (List.mem_of_getElem? (i := 1080) (by decide +kernel)), rfl⟩
theorem tw_1081 : zT (Jvm.Cond.code ({ cls := "VetoHouseModel", name := "image", desc := "(I)I" } : Jvm.MethodName) prog_14_method_69_code (3 : Nat) (Option.some Jvm.ClassFile.FieldType.int)) := ⟨List.mem_append_right _ (List.mem_of_getElem? (i := 1081) (by decide +kernel)), rfl⟩
theorem tw_1082 : zT (Jvm.Cond.methodLink "VetoHouseLaw" (141 : Nat) ({ cls := "VetoHouseModel", name := "from", desc := "(I)I" } : Jvm.MethodName)) := ⟨List.mem_append_right _ (List.mem_of_getElem? (i := 1082) (by decide +kernel)), rfl⟩
theorem tw_1083 : zT (Jvm.Cond.instanceMethod ({ cls := "VetoHouseModel", name := "from", desc := "(I)I" } : Jvm.MethodName)) := ⟨List.mem_append_right _ (List.mem_of_getElem? (i := 1083) (by decide +kernel)), rfl⟩
theorem tw_1084 : zT (Jvm.Cond.selects "VetoHouseModel" ({ cls := "VetoHouseModel", name := "from", desc := "(I)I" } : Jvm.MethodName) ({ cls := "VetoHouseModel", name := "from", desc := "(I)I" } : Jvm.MethodName)) := ⟨List.mem_append_right _ (List.mem_of_getElem? (i := 1084) (by decide +kernel)), rfl⟩
theorem tw_1085 : zT (Jvm.Cond.code ({ cls := "VetoHouseModel", name := "from", desc := "(I)I" } : Jvm.MethodName) prog_14_method_70_code (3 : Nat) (Option.some Jvm.ClassFile.FieldType.int)) := ⟨List.mem_append_right _ (List.mem_of_getElem? (i := 1085) (by decide +kernel)), rfl⟩
theorem tw_1086 : zT (Jvm.Cond.methodLink "VetoHouseLaw" (145 : Nat) ({ cls := "VetoHouseModel", name := "status", desc := "(I)I" } : Jvm.MethodName)) := ⟨List.mem_append_right _ (List.mem_of_getElem? (i := 1086) (by decide +kernel)), rfl⟩
theorem tw_1087 : zT (Jvm.Cond.instanceMethod ({ cls := "VetoHouseModel", name := "status", desc := "(I)I" } : Jvm.MethodName)) := ⟨List.mem_append_right _ (List.mem_of_getElem? (i := 1087) (by decide +kernel)), rfl⟩
theorem tw_1088 : zT (Jvm.Cond.selects "VetoHouseModel" ({ cls := "VetoHouseModel", name := "status", desc := "(I)I" } : Jvm.MethodName) ({ cls := "VetoHouseModel", name := "status", desc := "(I)I" } : Jvm.MethodName)) := ⟨List.mem_append_right _ (List.mem_of_getElem? (i := 1088) (by decide +kernel)), rfl⟩
theorem tw_1089 : zT (Jvm.Cond.code ({ cls := "VetoHouseModel", name := "status", desc := "(I)I" } : Jvm.MethodName) prog_14_method_71_code (2 : Nat) (Option.some Jvm.ClassFile.FieldType.int)) := ⟨List.mem_append_right _ (List.mem_of_getElem? (i := 1089) (by decide +kernel)), rfl⟩
theorem tw_1090 : zT (Jvm.Cond.methodLink "VetoHouseLaw" (149 : Nat) ({ cls := "VetoHouseModel", name := "count", desc := "(I)I" } : Jvm.MethodName)) := ⟨List.mem_append_right _ (List.mem_of_getElem? (i := 1090) (by decide +kernel)), rfl⟩
theorem tw_1091 : zT (Jvm.Cond.instanceMethod ({ cls := "VetoHouseModel", name := "count", desc := "(I)I" } : Jvm.MethodName)) := ⟨List.mem_append_right _ (List.mem_of_getElem? (i := 1091) (by decide +kernel)), rfl⟩
theorem tw_1092 : zT (Jvm.Cond.selects "VetoHouseModel" ({ cls := "VetoHouseModel", name := "count", desc := "(I)I" } : Jvm.MethodName) ({ cls := "VetoHouseModel", name := "count", desc := "(I)I" } : Jvm.MethodName)) := ⟨List.mem_append_right _ (List.mem_of_getElem? (i := 1092) (by decide +kernel)), rfl⟩
theorem tw_1093 : zT (Jvm.Cond.code ({ cls := "VetoHouseModel", name := "count", desc := "(I)I" } : Jvm.MethodName) prog_14_method_73_code (2 : Nat) (Option.some Jvm.ClassFile.FieldType.int)) := ⟨List.mem_append_right _ (List.mem_of_getElem? (i := 1093) (by decide +kernel)), rfl⟩
theorem tw_1094 : zT (Jvm.Cond.methodLink "VetoHouseModel" (238 : Nat) ({ cls := "VetoHouseModel", name := "counted", desc := "(I)I" } : Jvm.MethodName)) := ⟨List.mem_append_right _ (List.mem_of_getElem? (i := 1094) (by decide +kernel)), rfl⟩
theorem tw_1096 : zT (Jvm.Cond.instanceMethod ({ cls := "VetoHouseModel", name := "counted", desc := "(I)I" } : Jvm.MethodName)) := ⟨List.mem_append_right _ (List.mem_of_getElem? (i := 1096) (by decide +kernel)), rfl⟩
theorem tw_1097 : zT (Jvm.Cond.code ({ cls := "VetoHouseModel", name := "counted", desc := "(I)I" } : Jvm.MethodName) prog_14_method_72_code (2 : Nat) (Option.some Jvm.ClassFile.FieldType.int)) := ⟨List.mem_append_right _ (List.mem_of_getElem? (i := 1097) (by decide +kernel)), rfl⟩
theorem tw_1098 : zT (Jvm.Cond.methodLink "VetoHouseLaw" (154 : Nat) ({ cls := "VetoHouseModel", name := "digest", desc := "()J" } : Jvm.MethodName)) := ⟨List.mem_append_right _ (List.mem_of_getElem? (i := 1098) (by decide +kernel)), rfl⟩
theorem tw_1099 : zT (Jvm.Cond.instanceMethod ({ cls := "VetoHouseModel", name := "digest", desc := "()J" } : Jvm.MethodName)) := ⟨List.mem_append_right _ (List.mem_of_getElem? (i := 1099) (by decide +kernel)), rfl⟩
theorem tw_1100 : zT (Jvm.Cond.selects "VetoHouseModel" ({ cls := "VetoHouseModel", name := "digest", desc := "()J" } : Jvm.MethodName) ({ cls := "VetoHouseModel", name := "digest", desc := "()J" } : Jvm.MethodName)) := ⟨List.mem_append_right _ (List.mem_of_getElem? (i := 1100) (by decide +kernel)), rfl⟩
theorem tw_1101 : zT (Jvm.Cond.code ({ cls := "VetoHouseModel", name := "digest", desc := "()J" } : Jvm.MethodName) prog_14_method_75_code (4 : Nat) (Option.some Jvm.ClassFile.FieldType.long)) := ⟨List.mem_append_right _ (List.mem_of_getElem? (i := 1101) (by decide +kernel)), rfl⟩
theorem tw_1102 : zT (Jvm.Cond.constantLong "VetoHouseModel" (243 : Nat) (1187 : Int64)) := ⟨List.mem_append_right _ (List.mem_of_getElem? (i := 1102) (by decide +kernel)), rfl⟩
theorem tw_1103 : zT (Jvm.Cond.constantLong "VetoHouseModel" (241 : Nat) (31 : Int64)) := ⟨List.mem_append_right _ (List.mem_of_getElem? (i := 1103) (by decide +kernel)), rfl⟩
theorem tw_1104 : zT (Jvm.Cond.methodLink "VetoHouseModel" (245 : Nat) ({ cls := "VetoHouseModel", name := "sums", desc := "(JII)J" } : Jvm.MethodName)) := ⟨List.mem_append_right _ (List.mem_of_getElem? (i := 1104) (by decide +kernel)), rfl⟩
theorem tw_1106 : zT (Jvm.Cond.instanceMethod ({ cls := "VetoHouseModel", name := "sums", desc := "(JII)J" } : Jvm.MethodName)) := ⟨List.mem_append_right _ (List.mem_of_getElem? (i := 1106) (by decide +kernel)), rfl⟩
theorem tw_1107 : zT (Jvm.Cond.code ({ cls := "VetoHouseModel", name := "sums", desc := "(JII)J" } : Jvm.MethodName) prog_14_method_74_code (8 : Nat) (Option.some Jvm.ClassFile.FieldType.long)) := ⟨List.mem_append_right _ (List.mem_of_getElem? (i := 1107) (by decide +kernel)), rfl⟩
theorem tw_1108 : zT (Jvm.Cond.sameMethod "VetoHouse$Proud" "VetoHouse$Proud" "refuses" "(III)Z") := ⟨List.mem_append_right _ (List.mem_of_getElem? (i := 1108) (by decide +kernel)), rfl⟩
theorem tw_1114 : zT (Jvm.Cond.fieldLink "java/lang/String" (9 : Nat) "java/lang/String" "value" "[B") := ⟨List.mem_append_right _ (List.mem_of_getElem? (i := 1114) (by decide +kernel)), rfl⟩
theorem tw_1115 : zT (Jvm.Cond.fieldLink "java/lang/String" (15 : Nat) "java/lang/String" "coder" "B") := ⟨List.mem_append_right _ (List.mem_of_getElem? (i := 1115) (by decide +kernel)), rfl⟩
theorem tp_0 : zT (.selects "VetoHouse" ⟨"VetoHouse", "refuse", "(I)I"⟩ ⟨"VetoHouse", "refuse", "(I)I"⟩) := ⟨List.mem_append_left _ (List.mem_of_getElem? (i := 0) (by decide +kernel)), rfl⟩
theorem tp_1 : zT (.selects "VetoHouse$Text" ⟨"VetoHouse$Text", "endOfRun", "(III)I"⟩ ⟨"VetoHouse$Text", "endOfRun", "(III)I"⟩) := ⟨List.mem_append_left _ (List.mem_of_getElem? (i := 1) (by decide +kernel)), rfl⟩
theorem tp_2 : zT (.selects "VetoHouse$Text" ⟨"VetoHouse$Text", "numberAt", "(II)I"⟩ ⟨"VetoHouse$Text", "numberAt", "(II)I"⟩) := ⟨List.mem_append_left _ (List.mem_of_getElem? (i := 2) (by decide +kernel)), rfl⟩
theorem tp_3 : zT (.selects "VetoHouse$Text" ⟨"VetoHouse$Text", "byteAt", "(I)I"⟩ ⟨"VetoHouse$Text", "byteAt", "(I)I"⟩) := ⟨List.mem_append_left _ (List.mem_of_getElem? (i := 3) (by decide +kernel)), rfl⟩
theorem tp_4 : zT (.selects "VetoHouse$House" ⟨"VetoHouse$House", "takeItem", "(LVetoHouse$Text;Z)Z"⟩ ⟨"VetoHouse$House", "takeItem", "(LVetoHouse$Text;Z)Z"⟩) := ⟨List.mem_append_left _ (List.mem_of_getElem? (i := 4) (by decide +kernel)), rfl⟩
theorem tp_5 : zT (.selects "VetoHouse$House" ⟨"VetoHouse$House", "takeDay", "(LVetoHouse$Text;)Z"⟩ ⟨"VetoHouse$House", "takeDay", "(LVetoHouse$Text;)Z"⟩) := ⟨List.mem_append_left _ (List.mem_of_getElem? (i := 5) (by decide +kernel)), rfl⟩
theorem tp_6 : zT (.selects "VetoHouse$House" ⟨"VetoHouse$House", "takeDeputy", "(LVetoHouse$Text;)Z"⟩ ⟨"VetoHouse$House", "takeDeputy", "(LVetoHouse$Text;)Z"⟩) := ⟨List.mem_append_left _ (List.mem_of_getElem? (i := 6) (by decide +kernel)), rfl⟩
theorem tp_7 : zT (.selects "VetoHouse$House" ⟨"VetoHouse$House", "takeLeaning", "(LVetoHouse$Text;Z)Z"⟩ ⟨"VetoHouse$House", "takeLeaning", "(LVetoHouse$Text;Z)Z"⟩) := ⟨List.mem_append_left _ (List.mem_of_getElem? (i := 7) (by decide +kernel)), rfl⟩
theorem tp_8 : zT (.selects "VetoHouse$House" ⟨"VetoHouse$House", "takeForce", "(LVetoHouse$Text;)Z"⟩ ⟨"VetoHouse$House", "takeForce", "(LVetoHouse$Text;)Z"⟩) := ⟨List.mem_append_left _ (List.mem_of_getElem? (i := 8) (by decide +kernel)), rfl⟩
theorem tp_9 : zT (.selects "VetoHouse" ⟨"VetoHouse", "moveIn", "(LVetoHouse$Sitting;I)I"⟩ ⟨"VetoHouse", "moveIn", "(LVetoHouse$Sitting;I)I"⟩) := ⟨List.mem_append_left _ (List.mem_of_getElem? (i := 9) (by decide +kernel)), rfl⟩
theorem tp_10 : zT (.selects "VetoHouse" ⟨"VetoHouse", "stoppers", "(LVetoHouse$Sitting;I)I"⟩ ⟨"VetoHouse", "stoppers", "(LVetoHouse$Sitting;I)I"⟩) := ⟨List.mem_append_left _ (List.mem_of_getElem? (i := 10) (by decide +kernel)), rfl⟩
theorem tp_11 : zT (.selects "VetoHouse" ⟨"VetoHouse", "wouldStop", "(IIIII)Z"⟩ ⟨"VetoHouse", "wouldStop", "(IIIII)Z"⟩) := ⟨List.mem_append_left _ (List.mem_of_getElem? (i := 11) (by decide +kernel)), rfl⟩
theorem tp_12 : zT (.selects "VetoHouse" ⟨"VetoHouse", "kindAt", "(I)LVetoHouse$Plain;"⟩ ⟨"VetoHouse", "kindAt", "(I)LVetoHouse$Plain;"⟩) := ⟨List.mem_append_left _ (List.mem_of_getElem? (i := 12) (by decide +kernel)), rfl⟩
theorem tp_13 : zT (.selects "VetoHouse" ⟨"VetoHouse", "costOf", "(LVetoHouse$Deputy;)I"⟩ ⟨"VetoHouse", "costOf", "(LVetoHouse$Deputy;)I"⟩) := ⟨List.mem_append_left _ (List.mem_of_getElem? (i := 13) (by decide +kernel)), rfl⟩
theorem tp_14 : zT (.selects "VetoHouse" ⟨"VetoHouse", "joyFor", "(LVetoHouse$Deputy;I)I"⟩ ⟨"VetoHouse", "joyFor", "(LVetoHouse$Deputy;I)I"⟩) := ⟨List.mem_append_left _ (List.mem_of_getElem? (i := 14) (by decide +kernel)), rfl⟩
theorem tp_15 : zT (.selects "VetoHouse" ⟨"VetoHouse", "bestBundle", "(II)I"⟩ ⟨"VetoHouse", "bestBundle", "(II)I"⟩) := ⟨List.mem_append_left _ (List.mem_of_getElem? (i := 15) (by decide +kernel)), rfl⟩
theorem tp_16 : zT (.selects "VetoHouse" ⟨"VetoHouse", "costOfAll", "(I)I"⟩ ⟨"VetoHouse", "costOfAll", "(I)I"⟩) := ⟨List.mem_append_left _ (List.mem_of_getElem? (i := 16) (by decide +kernel)), rfl⟩
theorem tp_17 : zT (.selects "VetoHouse" ⟨"VetoHouse", "gladOf", "(I)I"⟩ ⟨"VetoHouse", "gladOf", "(I)I"⟩) := ⟨List.mem_append_left _ (List.mem_of_getElem? (i := 17) (by decide +kernel)), rfl⟩
theorem tp_18 : zT (.selects "VetoHouse" ⟨"VetoHouse", "pairRests", "(IIII)Z"⟩ ⟨"VetoHouse", "pairRests", "(IIII)Z"⟩) := ⟨List.mem_append_left _ (List.mem_of_getElem? (i := 18) (by decide +kernel)), rfl⟩
theorem tp_19 : zT (.selects "VetoHouse" ⟨"VetoHouse", "stoppedBetween", "(IIII)Z"⟩ ⟨"VetoHouse", "stoppedBetween", "(IIII)Z"⟩) := ⟨List.mem_append_left _ (List.mem_of_getElem? (i := 19) (by decide +kernel)), rfl⟩
theorem tp_20 : zT (.selects "VetoHouse" ⟨"VetoHouse", "kindsThatFit", "(ILVetoHouse$Deputy;)I"⟩ ⟨"VetoHouse", "kindsThatFit", "(ILVetoHouse$Deputy;)I"⟩) := ⟨List.mem_append_left _ (List.mem_of_getElem? (i := 20) (by decide +kernel)), rfl⟩
theorem tp_21 : zT (.selects "VetoHouse" ⟨"VetoHouse", "notesFit", "(IIII)Z"⟩ ⟨"VetoHouse", "notesFit", "(IIII)Z"⟩) := ⟨List.mem_append_left _ (List.mem_of_getElem? (i := 21) (by decide +kernel)), rfl⟩
theorem tp_22 : zT (.selects "VetoHouse" ⟨"VetoHouse", "kindsThatStop", "(LVetoHouse$Deputy;I)I"⟩ ⟨"VetoHouse", "kindsThatStop", "(LVetoHouse$Deputy;I)I"⟩) := ⟨List.mem_append_left _ (List.mem_of_getElem? (i := 22) (by decide +kernel)), rfl⟩
theorem tp_23 : zT (.selects "VetoHouse" ⟨"VetoHouse", "howMany", "(I)I"⟩ ⟨"VetoHouse", "howMany", "(I)I"⟩) := ⟨List.mem_append_left _ (List.mem_of_getElem? (i := 23) (by decide +kernel)), rfl⟩
theorem tp_24 : zT (.selects "VetoHouse" ⟨"VetoHouse", "deputyIntoDigest", "(JI)J"⟩ ⟨"VetoHouse", "deputyIntoDigest", "(JI)J"⟩) := ⟨List.mem_append_left _ (List.mem_of_getElem? (i := 24) (by decide +kernel)), rfl⟩
theorem tp_25 : zT (.selects "VetoHouse" ⟨"VetoHouse", "noteIntoDigest", "(JI)J"⟩ ⟨"VetoHouse", "noteIntoDigest", "(JI)J"⟩) := ⟨List.mem_append_left _ (List.mem_of_getElem? (i := 25) (by decide +kernel)), rfl⟩
theorem tp_26 : zT (.selects "VetoHouseModel" ⟨"VetoHouseModel", "bad", "(I)I"⟩ ⟨"VetoHouseModel", "bad", "(I)I"⟩) := ⟨List.mem_append_left _ (List.mem_of_getElem? (i := 26) (by decide +kernel)), rfl⟩
theorem tp_27 : zT (.selects "VetoHouseModel" ⟨"VetoHouseModel", "many", "()I"⟩ ⟨"VetoHouseModel", "many", "()I"⟩) := ⟨List.mem_append_left _ (List.mem_of_getElem? (i := 27) (by decide +kernel)), rfl⟩
theorem tp_28 : zT (.selects "VetoHouseModel" ⟨"VetoHouseModel", "full", "()I"⟩ ⟨"VetoHouseModel", "full", "()I"⟩) := ⟨List.mem_append_left _ (List.mem_of_getElem? (i := 28) (by decide +kernel)), rfl⟩
theorem tp_29 : zT (.selects "VetoHouseModel" ⟨"VetoHouseModel", "free", "()I"⟩ ⟨"VetoHouseModel", "free", "()I"⟩) := ⟨List.mem_append_left _ (List.mem_of_getElem? (i := 29) (by decide +kernel)), rfl⟩
theorem tp_30 : zT (.selects "VetoHouseModel" ⟨"VetoHouseModel", "no", "()I"⟩ ⟨"VetoHouseModel", "no", "()I"⟩) := ⟨List.mem_append_left _ (List.mem_of_getElem? (i := 30) (by decide +kernel)), rfl⟩
theorem tp_31 : zT (.selects "VetoHouseModel" ⟨"VetoHouseModel", "layHand", "()V"⟩ ⟨"VetoHouseModel", "layHand", "()V"⟩) := ⟨List.mem_append_left _ (List.mem_of_getElem? (i := 31) (by decide +kernel)), rfl⟩
theorem tp_32 : zT (.selects "VetoHouseModel" ⟨"VetoHouseModel", "get", "(II)I"⟩ ⟨"VetoHouseModel", "get", "(II)I"⟩) := ⟨List.mem_append_left _ (List.mem_of_getElem? (i := 32) (by decide +kernel)), rfl⟩
theorem tp_33 : zT (.selects "VetoHouseModel" ⟨"VetoHouseModel", "keep", "()V"⟩ ⟨"VetoHouseModel", "keep", "()V"⟩) := ⟨List.mem_append_left _ (List.mem_of_getElem? (i := 33) (by decide +kernel)), rfl⟩
theorem tp_34 : zT (.selects "VetoHouseModel" ⟨"VetoHouseModel", "stopping", "(I)I"⟩ ⟨"VetoHouseModel", "stopping", "(I)I"⟩) := ⟨List.mem_append_left _ (List.mem_of_getElem? (i := 34) (by decide +kernel)), rfl⟩
theorem tp_35 : zT (.selects "VetoHouseModel" ⟨"VetoHouseModel", "stopsOf", "(II)Z"⟩ ⟨"VetoHouseModel", "stopsOf", "(II)Z"⟩) := ⟨List.mem_append_left _ (List.mem_of_getElem? (i := 35) (by decide +kernel)), rfl⟩
theorem tp_36 : zT (.selects "VetoHouseModel" ⟨"VetoHouseModel", "joyOf", "(II)I"⟩ ⟨"VetoHouseModel", "joyOf", "(II)I"⟩) := ⟨List.mem_append_left _ (List.mem_of_getElem? (i := 36) (by decide +kernel)), rfl⟩
theorem tp_37 : zT (.selects "VetoHouseModel" ⟨"VetoHouseModel", "goEnd", "(I)V"⟩ ⟨"VetoHouseModel", "goEnd", "(I)V"⟩) := ⟨List.mem_append_left _ (List.mem_of_getElem? (i := 37) (by decide +kernel)), rfl⟩
theorem tp_38 : zT (.selects "VetoHouseModel" ⟨"VetoHouseModel", "isDeputy", "(I)Z"⟩ ⟨"VetoHouseModel", "isDeputy", "(I)Z"⟩) := ⟨List.mem_append_left _ (List.mem_of_getElem? (i := 38) (by decide +kernel)), rfl⟩
theorem tp_39 : zT (.selects "VetoHouseModel" ⟨"VetoHouseModel", "costOf", "(I)I"⟩ ⟨"VetoHouseModel", "costOf", "(I)I"⟩) := ⟨List.mem_append_left _ (List.mem_of_getElem? (i := 39) (by decide +kernel)), rfl⟩
theorem tp_40 : zT (.selects "VetoHouseModel" ⟨"VetoHouseModel", "mostFree", "()I"⟩ ⟨"VetoHouseModel", "mostFree", "()I"⟩) := ⟨List.mem_append_left _ (List.mem_of_getElem? (i := 40) (by decide +kernel)), rfl⟩
theorem tp_41 : zT (.selects "VetoHouseModel" ⟨"VetoHouseModel", "costOfAll", "(I)I"⟩ ⟨"VetoHouseModel", "costOfAll", "(I)I"⟩) := ⟨List.mem_append_left _ (List.mem_of_getElem? (i := 41) (by decide +kernel)), rfl⟩
theorem tp_42 : zT (.selects "VetoHouseModel" ⟨"VetoHouseModel", "isStopped", "(IIII)Z"⟩ ⟨"VetoHouseModel", "isStopped", "(IIII)Z"⟩) := ⟨List.mem_append_left _ (List.mem_of_getElem? (i := 42) (by decide +kernel)), rfl⟩
theorem tp_43 : zT (.selects "VetoHouseModel" ⟨"VetoHouseModel", "kindsOf", "(I)I"⟩ ⟨"VetoHouseModel", "kindsOf", "(I)I"⟩) := ⟨List.mem_append_left _ (List.mem_of_getElem? (i := 43) (by decide +kernel)), rfl⟩
theorem tp_44 : zT (.selects "VetoHouseModel" ⟨"VetoHouseModel", "areSo", "(I)Z"⟩ ⟨"VetoHouseModel", "areSo", "(I)Z"⟩) := ⟨List.mem_append_left _ (List.mem_of_getElem? (i := 44) (by decide +kernel)), rfl⟩
theorem tp_45 : zT (.selects "VetoHouseModel" ⟨"VetoHouseModel", "fraction", "(JJ)V"⟩ ⟨"VetoHouseModel", "fraction", "(JJ)V"⟩) := ⟨List.mem_append_left _ (List.mem_of_getElem? (i := 45) (by decide +kernel)), rfl⟩
theorem tp_46 : zT (.selects "VetoHouseModel" ⟨"VetoHouseModel", "lookAt", "(I)V"⟩ ⟨"VetoHouseModel", "lookAt", "(I)V"⟩) := ⟨List.mem_append_left _ (List.mem_of_getElem? (i := 46) (by decide +kernel)), rfl⟩
theorem tp_47 : zT (.selects "VetoHouseModel" ⟨"VetoHouseModel", "takesHouse", "()Z"⟩ ⟨"VetoHouseModel", "takesHouse", "()Z"⟩) := ⟨List.mem_append_left _ (List.mem_of_getElem? (i := 47) (by decide +kernel)), rfl⟩
theorem tp_48 : zT (.selects "VetoHouseModel" ⟨"VetoHouseModel", "spells", "(IIIIIII)Z"⟩ ⟨"VetoHouseModel", "spells", "(IIIIIII)Z"⟩) := ⟨List.mem_append_left _ (List.mem_of_getElem? (i := 48) (by decide +kernel)), rfl⟩
theorem tp_49 : zT (.selects "VetoHouseModel" ⟨"VetoHouseModel", "goBehind", "()V"⟩ ⟨"VetoHouseModel", "goBehind", "()V"⟩) := ⟨List.mem_append_left _ (List.mem_of_getElem? (i := 49) (by decide +kernel)), rfl⟩
theorem tp_50 : zT (.selects "VetoHouseModel" ⟨"VetoHouseModel", "takes", "(III)Z"⟩ ⟨"VetoHouseModel", "takes", "(III)Z"⟩) := ⟨List.mem_append_left _ (List.mem_of_getElem? (i := 50) (by decide +kernel)), rfl⟩
theorem tp_51 : zT (.selects "VetoHouseModel" ⟨"VetoHouseModel", "takesItem", "()Z"⟩ ⟨"VetoHouseModel", "takesItem", "()Z"⟩) := ⟨List.mem_append_left _ (List.mem_of_getElem? (i := 51) (by decide +kernel)), rfl⟩
theorem tp_52 : zT (.selects "VetoHouseModel" ⟨"VetoHouseModel", "takesDeputy", "()Z"⟩ ⟨"VetoHouseModel", "takesDeputy", "()Z"⟩) := ⟨List.mem_append_left _ (List.mem_of_getElem? (i := 52) (by decide +kernel)), rfl⟩
theorem tp_53 : zT (.selects "VetoHouseModel" ⟨"VetoHouseModel", "takesMind", "(I)Z"⟩ ⟨"VetoHouseModel", "takesMind", "(I)Z"⟩) := ⟨List.mem_append_left _ (List.mem_of_getElem? (i := 53) (by decide +kernel)), rfl⟩
theorem tp_54 : zT (.selects "VetoHouseModel" ⟨"VetoHouseModel", "takesLaws", "(I)Z"⟩ ⟨"VetoHouseModel", "takesLaws", "(I)Z"⟩) := ⟨List.mem_append_left _ (List.mem_of_getElem? (i := 54) (by decide +kernel)), rfl⟩
theorem tp_55 : zT (.selects "VetoHouseModel" ⟨"VetoHouseModel", "counted", "(I)I"⟩ ⟨"VetoHouseModel", "counted", "(I)I"⟩) := ⟨List.mem_append_left _ (List.mem_of_getElem? (i := 55) (by decide +kernel)), rfl⟩
theorem tp_56 : zT (.selects "VetoHouseModel" ⟨"VetoHouseModel", "sums", "(JII)J"⟩ ⟨"VetoHouseModel", "sums", "(JII)J"⟩) := ⟨List.mem_append_left _ (List.mem_of_getElem? (i := 56) (by decide +kernel)), rfl⟩
theorem zc_0 : ∀ w ∈ u_ws RX0 TX0 4, zT w := by decide +kernel
theorem zc_1 : ∀ w ∈ u_ws RX1 TX1 7, zT w := by decide +kernel
theorem zc_2 : ∀ w ∈ u_ws RX2 TX2 0, zT w := by decide +kernel
theorem zc_3 : ∀ w ∈ u_ws RX3 TX3 0, zT w := by decide +kernel
theorem zc_4 : ∀ w ∈ u_ws RX4 TX4 4, zT w := by decide +kernel
theorem zc_5 : ∀ w ∈ u_ws RX5 TX5 0, zT w := by decide +kernel
theorem zc_6 : ∀ w ∈ u_ws RX6 TX6 0, zT w := by decide +kernel
theorem zc_7 : ∀ w ∈ u_ws RX7 TX7 0, zT w := by decide +kernel
theorem zc_8 : ∀ w ∈ u_ws RX8 TX8 6, zT w := by decide +kernel
theorem zc_9 : ∀ w ∈ u_ws RX9 TX9 6, zT w := by decide +kernel
theorem zc_10 : ∀ w ∈ u_ws RX10 TX10 0, zT w := by decide +kernel
theorem zc_11 : ∀ w ∈ u_ws RX11 TX11 12, zT w := by decide +kernel
theorem zc_12 : ∀ w ∈ u_ws RX12 TX12 19, zT w := by decide +kernel
end
section
/-! A walk over ONE store: every cell that the law makes has a number k (its address is base + k); the store G says what each holds. Z: the machine at pc, with locals lv and stack st, over the store G, comes to the method's end. -/
abbrev zB : Type := Nat × va_G × (Nat → ClassId) × (Nat → Nat) × (Nat → Nat)
abbrev zX : Type := Program × Launch × Env × State × MethodId × Array Value × List Frame × Method × Code × (State → Prop)
abbrev zM : Type := MethodName × ByteArray × Nat × Option FieldType × Room
abbrev xS (X : zX) : State := X.2.2.2.1
abbrev xM (X : zX) : MethodId := X.2.2.2.2.1
abbrev xA (X : zX) : Array Value := X.2.2.2.2.2.1
abbrev xB (X : zX) : List Frame := X.2.2.2.2.2.2.1
abbrev xH (X : zX) : Method := X.2.2.2.2.2.2.2.1
abbrev xC (X : zX) : Code := X.2.2.2.2.2.2.2.2.1
abbrev xQ (X : zX) : State → Prop := X.2.2.2.2.2.2.2.2.2
def zA (B : zB) : Nat → Prop := fun q => B.1 ≤ q
def zTys (cA : Nat → ClassId) : List (ClassId × FieldType) := [(cA 0, .int), (cA 1, .byte), (cA 2, .boolean), (cA 3, .object RX0), (cA 4, .object RX1), (cA 5, .object RX4), (cA 6, .object RX5), (cA 7, .object RX8)]
def zw (B : zB) (n : Nat) (G : Nat → va_E) (H : Heap) : Prop := H.size = B.1 + n ∧ ∀ k, k < n → va_at B.2.1 vwCl (B.1 + k, G k) H
def zsI : Nat → Nat := fun i => [101, 111, 115, 119, 120].getD i 0
def zsT : Nat → String := fun i => ["house", "deputy", "love", "hate", "law"].getD i ""
def zsL : List Nat := [5, 6, 4, 4, 3]
def zsB : List (List Int32) := [[104, 111, 117, 115, 101], [100, 101, 112, 117, 116, 121], [108, 111, 118, 101], [104, 97, 116, 101], [108, 97, 119]]
/-- the links between nest mates -/
def zNest : List (String × Nat × MethodName) := [(RX11, 12, yX7_init), (RX11, 15, yX10_init), (RX11, 18, yX6_init), (RX11, 21, yX3_init), (RX11, 24, yX2_init), (RX11, 51, yX8_init), (RX11, 9, yX5_init), (RX1, 11, yX8_init), (RX1, 24, yX0_init), (RX1, 31, yX4_init), (RX2, 1, yX7_init), (RX3, 1, yX10_init), (RX6, 1, yX5_init), (RX7, 1, yX5_init), (RX9, 55, yX11_bitOf), (RX10, 1, yX5_init)]
/-- what holds of the machine's tables and of the cells that were there before -/
def zTab (U : State) : Prop := ∀ w, zT w → ∀ a' : Array Value, w.before a' U = true
def zEnv (B : zB) (U : State) (H : Heap) : Prop := zTab U ∧ va_K B.2.1 vwCl (zTys B.2.2.1) U ∧ (∀ i, i < 5 → vk_R RX1 (zsI i) (zsT i) (B.2.2.2.1 i) U) ∧ vk_S 5 zsL zsB B.2.2.2.1 B.2.2.2.2 (zA B) U H ∧ va_Z "java/lang/String" "COMPACT_STRINGS" "Z" (.int 1) (zA B) U H ∧ va_Zq "jdk/internal/util/Preconditions" "SIOOBE_FORMATTER" "Ljava/util/function/BiFunction;" (zA B) U H ∧ (∀ q ∈ zNest, va_Nw (.methodLinkNest q.1 q.2.1 q.2.2 RX11) U) ∧ (∀ C ∈ [RX7, RX10, RX6, RX3, RX2], va_Nw (.castable C RX5) U) ∧ ∀ C ∈ [RX0, RX1, RX4, RX5, RX8], va_AO C U
theorem zEnv.warm {B : zB} {s U : State} {H : Heap} (h : zEnv B s H) (hW : s.WarmedH U.vm) : zEnv B U H :=
  ⟨fun w hw a' => word_at hW (good_of_word hw.2) (h.1 w hw #[]), va_K.moved hW.alike h.2.1, fun i hi => (h.2.2.1 i hi).warm hW, h.2.2.2.1.moved hW.alike, h.2.2.2.2.1.moved hW.alike, h.2.2.2.2.2.1.moved hW.alike, fun q hq => (h.2.2.2.2.2.2.1 q hq).warmM hW, fun C hC => (h.2.2.2.2.2.2.2.1 C hC).warmC hW, fun C hC => (h.2.2.2.2.2.2.2.2 C hC).moved hW.alike⟩
theorem zEnv.same {B : zB} {s U : State} {H : Heap} (h : zEnv B s H) (hv : U.vm = s.vm) : zEnv B U H := h.warm (by rw [hv]; exact State.WarmedH.refl s)
theorem zEnv.kept {B : zB} {s : State} {H H1 : Heap} (h : zEnv B s H) (hq : ∀ a : Nat, a < H.size → ¬ zA B a → H1[a]? = H[a]?) : zEnv B s H1 :=
  ⟨h.1, h.2.1, h.2.2.1, h.2.2.2.1.kept hq, h.2.2.2.2.1.kept hq, h.2.2.2.2.2.1.kept hq, h.2.2.2.2.2.2⟩
def zC (X : zX) (B : zB) (μ : zM) : Prop := X.1.tables.exec = Jvm.exec ∧ (xC X).code = μ.2.1 ∧ (xC X).maxLocals = μ.2.2.1 ∧ (xS X).vm.findClass μ.1.cls = some (xM X).cls ∧ (xH X).locks = false ∧ zEnv B (xS X) (xS X).heap ∧ B.1 ≤ (xS X).heap.size
theorem zC.t {X : zX} {B : zB} {μ : zM} (C : zC X B μ) {w : Cond} (h : zT w) : w.before (xA X) (xS X) = true := C.2.2.2.2.2.1.1 w h _
theorem zC.ts {X : zX} {B : zB} {μ : zM} (C : zC X B μ) {ws : List Cond} (h : ∀ w ∈ ws, zT w) : ∀ w ∈ ws, w.before (xA X) (xS X) = true := fun w hw => C.t (h w hw)
theorem zC.fix {X : zX} {B : zB} {μ : zM} (C : zC X B μ) : CallFix X.1 (xM X) (xC X) μ.2.1 μ.2.2.1 (xS X) (xA X) [] μ.1.cls := ⟨C.1, C.2.1, C.2.2.1, C.2.2.2.1, fun _ h => by cases h⟩
abbrev zWW (X : zX) (R : Room) (H : Heap) (locs : List Loc) (k w : Nat) (g : JFrame) : Prop := W X.1 X.2.1 X.2.2.1 R (xS X) (xM X) (xA X) (xB X) (xH X) (xC X) H locs k w (xQ X) g
def Z (X : zX) (B : zB) (μ : zM) (n : Nat) (G : Nat → va_E) (a w pc : Nat) (lv : List (Nat × Value)) (st : List Value) : Prop :=
  ∀ (H : Heap) (locs : List Loc) (ls : Array Slot), lv_has ls μ.2.2.1 lv → zw B n G H → va_S (zA B) (xS X).heap H locs → (xS X).heap.size + a = B.1 + n → zWW X μ.2.2.2.2 H locs a w (F0 (xM X) pc ls st)
/-- the store as a list of cells -/
def zl (B : zB) (n : Nat) (G : Nat → va_E) : va_W := (List.range n).map (fun k => (B.1 + k, G k))
theorem zl_get {B : zB} {n k : Nat} {G : Nat → va_E} (h : k < n) : (zl B n G)[k]? = some (B.1 + k, G k) := by simp [zl, h]
theorem zl_at {B : zB} {n k : Nat} {G : Nat → va_E} {e : va_E} (h : k < n) (hG : G k = e) : (zl B n G)[k]? = some (B.1 + k, e) := by rw [zl_get h, hG]
theorem zl_set {B : zB} {n k : Nat} {G : Nat → va_E} {e : va_E} : (zl B n G).set k (B.1 + k, e) = zl B n (va_up G k e) := by
  apply List.ext_getElem?
  intro i
  by_cases hi : i < n
  · by_cases hk : i = k
    · subst hk
      simp [zl, hi, va_up]
    · rw [List.getElem?_set_ne (Ne.symm hk), zl_get hi, zl_get hi, va_up_ne _ _ hk]
  · have h1 : ((zl B n G).set k (B.1 + k, e))[i]? = none := by simp [zl]; omega
    have h2 : (zl B n (va_up G k e))[i]? = none := by simp [zl]; omega
    rw [h1, h2]
theorem zl_push {B : zB} {n : Nat} {G : Nat → va_E} {e : va_E} : zl B n G ++ [(B.1 + n, e)] = zl B (n + 1) (va_up G n e) := by
  unfold zl
  rw [List.range_succ, List.map_append]
  congr 1
  · apply List.map_congr_left
    intro k hk
    rw [va_up_ne _ _ (Nat.ne_of_lt (List.mem_range.mp hk))]
  · simp [va_up]
theorem zw.P {B : zB} {n : Nat} {G : Nat → va_E} {H : Heap} (h : zw B n G H) : va_P B.2.1 vwCl (zl B n G) H := by
  intro k q hq
  by_cases hk : k < n
  · rw [zl_get hk] at hq
    cases hq
    exact h.2 k hk
  · have : (zl B n G)[k]? = none := by simp [zl]; omega
    rw [this] at hq
    cases hq
theorem zl_D {B : zB} {n : Nat} {G : Nat → va_E} : va_D (zA B) (zl B n G) := by
  have key : ∀ (k : Nat) (q : Nat × va_E), (zl B n G)[k]? = some q → q.1 = B.1 + k := by
    intro k q hq
    by_cases hk : k < n
    · rw [zl_get hk] at hq
      cases hq
      rfl
    · have : (zl B n G)[k]? = none := by simp [zl]; omega
      rw [this] at hq
      cases hq
  refine ⟨fun i j x y hx hy hxy => ?_, fun k q hq => ?_⟩
  · rw [key i x hx, key j y hy] at hxy
    omega
  · show B.1 ≤ q.1
    rw [key k q hq]
    omega
theorem zw.of {B : zB} {n : Nat} {G : Nat → va_E} {H : Heap} (hP : va_P B.2.1 vwCl (zl B n G) H) (hn : 0 < n) (hz : H.size ≤ B.1 + n) : zw B n G H := by
  refine ⟨?_, fun k hk => hP k _ (zl_get hk)⟩
  have h := (hP (n - 1) _ (zl_get (by omega))).lt
  dsimp only at h
  omega
theorem zsize {p : Program} {l : Launch} {e : Env} {R : Room} {s : State} {m : MethodId} {args : Array Value} {below : List Frame} {meth : Method} {c : Code} {H : Heap} {locs : List Loc} {a w : Nat} {Q : State → Prop} {g : JFrame} (k : H.size ≤ s.heap.size + a → W p l e R s m args below meth c H locs a w Q g) : W p l e R s m args below meth c H locs a w Q g :=
  fun T hT X => k (by rw [← hT]; exact X.heapSize) T hT X
/-- the contract of a method: from the store G, with the arguments as, it comes back with Q of its answer and the new store; mc cells of ms slots are new -/
def zPre (B : zB) (n : Nat) (G : Nat → va_E) (U : State) : Prop := zw B n G U.heap ∧ zEnv B U U.heap
abbrev zWs (μ : zM) : List Cond := [Cond.code μ.1 μ.2.1 μ.2.2.1 μ.2.2.2.1]
def zMet (l : Launch) (B : zB) (μ : zM) (mc ms n : Nat) (G : Nat → va_E) (as : List Value) (Q : Option Value → Nat → (Nat → va_E) → Prop) : Prop :=
  Met l μ.1 (zWs μ) μ.2.2.2.2 (va_Pc as (zPre B n G)) (fun _ st oc t => (∃ (v : Option Value) (n' : Nat) (G' : Nat → va_E), oc = .returned v ∧ Q v n' G' ∧ zw B n' G' t.heap ∧ n' = n + mc) ∧ va_F (zA B) st t) mc ms (zA B)
/-- how a method's walk may end -/
def zE (X : zX) (B : zB) (μ : zM) (n mc ms : Nat) (Q : Option Value → Nat → (Nat → va_E) → Prop) : Prop :=
  (xH X).sig.returnType = μ.2.2.2.1 ∧ xQ X = MQ (xB X) (fun _ st oc t => (∃ (v : Option Value) (n' : Nat) (G' : Nat → va_E), oc = .returned v ∧ Q v n' G' ∧ zw B n' G' t.heap ∧ n' = n + mc) ∧ va_F (zA B) st t) (xA X) (xS X) mc ms (zA B) ∧ (xS X).heap.size = B.1 + n
theorem zEntry (as : List Value) {m : MethodId} {n : Nat} (h : (lg_sl as).length ≤ n) {P : JFrame → Prop} (k : ∀ ls : Array Slot, lv_has ls n (lv_args 0 as) → P (F0 m 0 ls [])) : P (entryFrame m as.toArray n) := by
  have hl := lv_entry as (n := n) h
  rw [lg_entry_eq]
  exact k _ hl
theorem z_met {l : Launch} {B : zB} {μ : zM} {mc ms n : Nat} {G : Nat → va_E} {as : List Value} {Q : Option Value → Nat → (Nat → va_E) → Prop}
    (hy : plainName μ.1.cls = true) (hl : (lg_sl as).length ≤ μ.2.2.1)
    (body : ∀ X : zX, X.2.1 = l → zC X B μ → zE X B μ n mc ms Q → (xH X).name = μ.1.name → Z X B μ n G 0 0 0 (lv_args 0 as) []) : zMet l B μ mc ms n G as Q := by
  refine Met.ofW (cc := μ.2.1) (maxL := μ.2.2.1) (ret := μ.2.2.2.1) hy rfl ?_
  intro p e s m args below meth c s₁ Bo hml hv
  obtain ⟨rfl, hz, hE⟩ := hv
  have hown : s.vm.findClass μ.1.cls = some m.cls := findClass_of_methodNamed Bo.named
  refine zEntry as hl (P := fun g => W p l e (headSpec (zWs μ) μ.2.2.2.2).room s m as.toArray below meth c s.heap [] 0 0 _ g) (fun ls hls => ?_)
  exact body (p, l, e, s, m, as.toArray, below, meth, c, _) rfl ⟨Bo.exec, Bo.bytes, hml, hown, Bo.notSynchronized, hE, by rw [hz.1]; exact Nat.le_add_right _ _⟩ ⟨Bo.returns, rfl, hz.1⟩ (name_of_methodNamed Bo.named Bo.method).1 s.heap [] ls hls hz va_S.rf (by rw [hz.1]; rfl)

section ZROWS
variable {X : zX} {B : zB} {μ : zM} {n : Nat} {G : Nat → va_E} {a w pc : Nat} {lv : List (Nat × Value)} {st : List Value}
theorem z_iconst (C : zC X B μ) {c : Int} {v : Int32} (d : decode μ.2.1 pc = .ok (.iconst c, 1)) (hv : Int32.ofInt c = v) (k : Z X B μ n G a w (pc + 1) lv (.int v :: st)) : Z X B μ n G a w pc lv st := fun H locs ls hl hw hS hk => lv_iconst C.1 C.2.1 d hv (k H locs ls hl hw hS hk)
theorem z_bipush (C : zC X B μ) {c : Int} {v : Int32} (d : decode μ.2.1 pc = .ok (.bipush c, 2)) (hv : (Int8.ofInt c).toInt32 = v) (k : Z X B μ n G a w (pc + 2) lv (.int v :: st)) : Z X B μ n G a w pc lv st := fun H locs ls hl hw hS hk => lv_bipush C.1 C.2.1 d hv (k H locs ls hl hw hS hk)
theorem z_sipush (C : zC X B μ) {c : Int} {v : Int32} (d : decode μ.2.1 pc = .ok (.sipush c, 3)) (hv : (Int16.ofInt c).toInt32 = v) (k : Z X B μ n G a w (pc + 3) lv (.int v :: st)) : Z X B μ n G a w pc lv st := fun H locs ls hl hw hS hk => lv_sipush C.1 C.2.1 d hv (k H locs ls hl hw hS hk)
theorem z_lconst (C : zC X B μ) {c : Fin 2} {v : Int64} (d : decode μ.2.1 pc = .ok (.lconst c, 1)) (hv : Int64.ofNat (c : Nat) = v) (k : Z X B μ n G a w (pc + 1) lv (.long v :: st)) : Z X B μ n G a w pc lv st := fun H locs ls hl hw hS hk => lv_lconst C.1 C.2.1 d hv (k H locs ls hl hw hS hk)
theorem z_null (C : zC X B μ)  (d : decode μ.2.1 pc = .ok (.aconst_null, 1)) (k : Z X B μ n G a w (pc + 1) lv (.null :: st)) : Z X B μ n G a w pc lv st := fun H locs ls hl hw hS hk => lv_null C.1 C.2.1 d (k H locs ls hl hw hS hk)
theorem z_iload_n (C : zC X B μ) {c : Fin 4} {i : Nat} {x : Int32} (d : decode μ.2.1 pc = .ok (.iload_n c, 1)) (q : Nat) (hq : lv[q]? = some (i, .int x)) (hi : (c : Nat) = i) (k : Z X B μ n G a w (pc + 1) lv (.int x :: st)) : Z X B μ n G a w pc lv st := fun H locs ls hl hw hS hk => lv_iload_n C.1 C.2.1 d hi (lv_at hl q hq) (k H locs ls hl hw hS hk)
theorem z_iload (C : zC X B μ) {i : Nat} {x : Int32} (d : decode μ.2.1 pc = .ok (.iload i, 2)) (q : Nat) (hq : lv[q]? = some (i, .int x)) (k : Z X B μ n G a w (pc + 2) lv (.int x :: st)) : Z X B μ n G a w pc lv st := fun H locs ls hl hw hS hk => lv_iload C.1 C.2.1 d (lv_at hl q hq) (k H locs ls hl hw hS hk)
theorem z_lload_n (C : zC X B μ) {c : Fin 4} {i : Nat} {x : Int64} (d : decode μ.2.1 pc = .ok (.lload_n c, 1)) (q : Nat) (hq : lv[q]? = some (i, .long x)) (hi : (c : Nat) = i) (k : Z X B μ n G a w (pc + 1) lv (.long x :: st)) : Z X B μ n G a w pc lv st := fun H locs ls hl hw hS hk => lv_lload_n C.1 C.2.1 d hi (lv_at hl q hq) (k H locs ls hl hw hS hk)
theorem z_lload (C : zC X B μ) {i : Nat} {x : Int64} (d : decode μ.2.1 pc = .ok (.lload i, 2)) (q : Nat) (hq : lv[q]? = some (i, .long x)) (k : Z X B μ n G a w (pc + 2) lv (.long x :: st)) : Z X B μ n G a w pc lv st := fun H locs ls hl hw hS hk => lv_lload C.1 C.2.1 d (lv_at hl q hq) (k H locs ls hl hw hS hk)
theorem z_aload_n (C : zC X B μ) {c : Fin 4} {i : Nat} {x : Nat} (d : decode μ.2.1 pc = .ok (.aload_n c, 1)) (q : Nat) (hq : lv[q]? = some (i, .ref x)) (hi : (c : Nat) = i) (k : Z X B μ n G a w (pc + 1) lv (.ref x :: st)) : Z X B μ n G a w pc lv st := fun H locs ls hl hw hS hk => lv_aload_n C.1 C.2.1 d hi (lv_at hl q hq) (k H locs ls hl hw hS hk)
theorem z_aload (C : zC X B μ) {i : Nat} {x : Nat} (d : decode μ.2.1 pc = .ok (.aload i, 2)) (q : Nat) (hq : lv[q]? = some (i, .ref x)) (k : Z X B μ n G a w (pc + 2) lv (.ref x :: st)) : Z X B μ n G a w pc lv st := fun H locs ls hl hw hS hk => lv_aload C.1 C.2.1 d (lv_at hl q hq) (k H locs ls hl hw hS hk)
theorem z_aload_nN (C : zC X B μ) {c : Fin 4} {i : Nat} (d : decode μ.2.1 pc = .ok (.aload_n c, 1)) (q : Nat) (hq : lv[q]? = some (i, .null)) (hi : (c : Nat) = i) (k : Z X B μ n G a w (pc + 1) lv (.null :: st)) : Z X B μ n G a w pc lv st := fun H locs ls hl hw hS hk => lv_aload_nN C.1 C.2.1 d hi (lv_at hl q hq) (k H locs ls hl hw hS hk)
theorem z_aloadN (C : zC X B μ) {i : Nat} (d : decode μ.2.1 pc = .ok (.aload i, 2)) (q : Nat) (hq : lv[q]? = some (i, .null)) (k : Z X B μ n G a w (pc + 2) lv (.null :: st)) : Z X B μ n G a w pc lv st := fun H locs ls hl hw hS hk => lv_aloadN C.1 C.2.1 d (lv_at hl q hq) (k H locs ls hl hw hS hk)
theorem z_istore_n (C : zC X B μ) {c : Fin 4} {i : Nat} {x : Int32} (lv' : List (Nat × Value)) (d : decode μ.2.1 pc = .ok (.istore_n c, 1)) (hi : (c : Nat) = i) (hn : i < μ.2.2.1) (hl' : (i, Value.int x) :: lv.filter (fun q => !(q.1 == i) && !(q.1 + 1 == i && q.2.category == 2)) = lv') (k : Z X B μ n G a w (pc + 1) lv' st) : Z X B μ n G a w pc lv (.int x :: st) := fun H locs ls hl hw hS hk => lv_istore_n C.1 C.2.1 d hi hl hn hl' (fun ls' h' => k H locs ls' h' hw hS hk)
theorem z_istore (C : zC X B μ) {i : Nat} {x : Int32} (lv' : List (Nat × Value)) (d : decode μ.2.1 pc = .ok (.istore i, 2)) (hn : i < μ.2.2.1) (hl' : (i, Value.int x) :: lv.filter (fun q => !(q.1 == i) && !(q.1 + 1 == i && q.2.category == 2)) = lv') (k : Z X B μ n G a w (pc + 2) lv' st) : Z X B μ n G a w pc lv (.int x :: st) := fun H locs ls hl hw hS hk => lv_istore C.1 C.2.1 d hl hn hl' (fun ls' h' => k H locs ls' h' hw hS hk)
theorem z_lstore_n (C : zC X B μ) {c : Fin 4} {i : Nat} {x : Int64} (lv' : List (Nat × Value)) (d : decode μ.2.1 pc = .ok (.lstore_n c, 1)) (hi : (c : Nat) = i) (hn : i + 1 < μ.2.2.1) (hl' : (i, Value.long x) :: lv.filter (fun q => !(q.1 == i) && (!(q.1 == i + 1) && !(q.1 + 1 == i && q.2.category == 2))) = lv') (k : Z X B μ n G a w (pc + 1) lv' st) : Z X B μ n G a w pc lv (.long x :: st) := fun H locs ls hl hw hS hk => lv_lstore_n C.1 C.2.1 d hi hl hn hl' (fun ls' h' => k H locs ls' h' hw hS hk)
theorem z_lstore (C : zC X B μ) {i : Nat} {x : Int64} (lv' : List (Nat × Value)) (d : decode μ.2.1 pc = .ok (.lstore i, 2)) (hn : i + 1 < μ.2.2.1) (hl' : (i, Value.long x) :: lv.filter (fun q => !(q.1 == i) && (!(q.1 == i + 1) && !(q.1 + 1 == i && q.2.category == 2))) = lv') (k : Z X B μ n G a w (pc + 2) lv' st) : Z X B μ n G a w pc lv (.long x :: st) := fun H locs ls hl hw hS hk => lv_lstore C.1 C.2.1 d hl hn hl' (fun ls' h' => k H locs ls' h' hw hS hk)
theorem z_astore_n (C : zC X B μ) {c : Fin 4} {i : Nat} {x : Nat} (lv' : List (Nat × Value)) (d : decode μ.2.1 pc = .ok (.astore_n c, 1)) (hi : (c : Nat) = i) (hn : i < μ.2.2.1) (hl' : (i, Value.ref x) :: lv.filter (fun q => !(q.1 == i) && !(q.1 + 1 == i && q.2.category == 2)) = lv') (k : Z X B μ n G a w (pc + 1) lv' st) : Z X B μ n G a w pc lv (.ref x :: st) := fun H locs ls hl hw hS hk => lv_astore_n C.1 C.2.1 d hi hl hn hl' (fun ls' h' => k H locs ls' h' hw hS hk)
theorem z_astore (C : zC X B μ) {i : Nat} {x : Nat} (lv' : List (Nat × Value)) (d : decode μ.2.1 pc = .ok (.astore i, 2)) (hn : i < μ.2.2.1) (hl' : (i, Value.ref x) :: lv.filter (fun q => !(q.1 == i) && !(q.1 + 1 == i && q.2.category == 2)) = lv') (k : Z X B μ n G a w (pc + 2) lv' st) : Z X B μ n G a w pc lv (.ref x :: st) := fun H locs ls hl hw hS hk => lv_astore C.1 C.2.1 d hl hn hl' (fun ls' h' => k H locs ls' h' hw hS hk)
theorem z_astore_nN (C : zC X B μ) {c : Fin 4} {i : Nat} (lv' : List (Nat × Value)) (d : decode μ.2.1 pc = .ok (.astore_n c, 1)) (hi : (c : Nat) = i) (hn : i < μ.2.2.1) (hl' : (i, Value.null) :: lv.filter (fun q => !(q.1 == i) && !(q.1 + 1 == i && q.2.category == 2)) = lv') (k : Z X B μ n G a w (pc + 1) lv' st) : Z X B μ n G a w pc lv (.null :: st) := fun H locs ls hl hw hS hk => lv_astore_nN C.1 C.2.1 d hi hl hn hl' (fun ls' h' => k H locs ls' h' hw hS hk)
theorem z_astoreN (C : zC X B μ) {i : Nat} (lv' : List (Nat × Value)) (d : decode μ.2.1 pc = .ok (.astore i, 2)) (hn : i < μ.2.2.1) (hl' : (i, Value.null) :: lv.filter (fun q => !(q.1 == i) && !(q.1 + 1 == i && q.2.category == 2)) = lv') (k : Z X B μ n G a w (pc + 2) lv' st) : Z X B μ n G a w pc lv (.null :: st) := fun H locs ls hl hw hS hk => lv_astoreN C.1 C.2.1 d hl hn hl' (fun ls' h' => k H locs ls' h' hw hS hk)
theorem z_iinc (C : zC X B μ) {i : Nat} {c : Int} {x v : Int32} (lv' : List (Nat × Value)) (d : decode μ.2.1 pc = .ok (.iinc i c, 3)) (q : Nat) (hq : lv[q]? = some (i, .int x)) (hv : x + Int32.ofInt c = v) (hn : i < μ.2.2.1) (hl' : (i, Value.int v) :: lv.filter (fun q => !(q.1 == i) && !(q.1 + 1 == i && q.2.category == 2)) = lv') (k : Z X B μ n G a w (pc + 3) lv' st) : Z X B μ n G a w pc lv st := fun H locs ls hl hw hS hk => lv_iinc (k := q) C.1 C.2.1 d hl hq hv hn hl' (fun ls' h' => k H locs ls' h' hw hS hk)
theorem z_iadd (C : zC X B μ) {x y : Int32} (d : decode μ.2.1 pc = .ok (.iadd, 1)) (k : Z X B μ n G a w (pc + 1) lv (.int (x + y) :: st)) : Z X B μ n G a w pc lv (.int y :: .int x :: st) := fun H locs ls hl hw hS hk => lv_iadd C.1 C.2.1 d (k H locs ls hl hw hS hk)
theorem z_isub (C : zC X B μ) {x y : Int32} (d : decode μ.2.1 pc = .ok (.isub, 1)) (k : Z X B μ n G a w (pc + 1) lv (.int (x - y) :: st)) : Z X B μ n G a w pc lv (.int y :: .int x :: st) := fun H locs ls hl hw hS hk => lv_isub C.1 C.2.1 d (k H locs ls hl hw hS hk)
theorem z_imul (C : zC X B μ) {x y : Int32} (d : decode μ.2.1 pc = .ok (.imul, 1)) (k : Z X B μ n G a w (pc + 1) lv (.int (x * y) :: st)) : Z X B μ n G a w pc lv (.int y :: .int x :: st) := fun H locs ls hl hw hS hk => lv_imul C.1 C.2.1 d (k H locs ls hl hw hS hk)
theorem z_iand (C : zC X B μ) {x y : Int32} (d : decode μ.2.1 pc = .ok (.iand, 1)) (k : Z X B μ n G a w (pc + 1) lv (.int (x &&& y) :: st)) : Z X B μ n G a w pc lv (.int y :: .int x :: st) := fun H locs ls hl hw hS hk => lv_iand C.1 C.2.1 d (k H locs ls hl hw hS hk)
theorem z_ior (C : zC X B μ) {x y : Int32} (d : decode μ.2.1 pc = .ok (.ior, 1)) (k : Z X B μ n G a w (pc + 1) lv (.int (x ||| y) :: st)) : Z X B μ n G a w pc lv (.int y :: .int x :: st) := fun H locs ls hl hw hS hk => lv_ior C.1 C.2.1 d (k H locs ls hl hw hS hk)
theorem z_ixor (C : zC X B μ) {x y : Int32} (d : decode μ.2.1 pc = .ok (.ixor, 1)) (k : Z X B μ n G a w (pc + 1) lv (.int (x ^^^ y) :: st)) : Z X B μ n G a w pc lv (.int y :: .int x :: st) := fun H locs ls hl hw hS hk => lv_ixor C.1 C.2.1 d (k H locs ls hl hw hS hk)
theorem z_ishl (C : zC X B μ) {x y : Int32} (d : decode μ.2.1 pc = .ok (.ishl, 1)) (k : Z X B μ n G a w (pc + 1) lv (.int (x <<< (y &&& 31)) :: st)) : Z X B μ n G a w pc lv (.int y :: .int x :: st) := fun H locs ls hl hw hS hk => lv_ishl C.1 C.2.1 d (k H locs ls hl hw hS hk)
theorem z_ishr (C : zC X B μ) {x y : Int32} (d : decode μ.2.1 pc = .ok (.ishr, 1)) (k : Z X B μ n G a w (pc + 1) lv (.int (x >>> (y &&& 31)) :: st)) : Z X B μ n G a w pc lv (.int y :: .int x :: st) := fun H locs ls hl hw hS hk => lv_ishr C.1 C.2.1 d (k H locs ls hl hw hS hk)
theorem z_idiv (C : zC X B μ) {x y : Int32} (d : decode μ.2.1 pc = .ok (.idiv, 1)) (hne : ¬ y = 0) (k : Z X B μ n G a w (pc + 1) lv (.int (x / y) :: st)) : Z X B μ n G a w pc lv (.int y :: .int x :: st) := fun H locs ls hl hw hS hk => lv_idiv C.1 C.2.1 d hne (k H locs ls hl hw hS hk)
theorem z_irem (C : zC X B μ) {x y : Int32} (d : decode μ.2.1 pc = .ok (.irem, 1)) (hne : ¬ y = 0) (k : Z X B μ n G a w (pc + 1) lv (.int (x - x / y * y) :: st)) : Z X B μ n G a w pc lv (.int y :: .int x :: st) := fun H locs ls hl hw hS hk => lv_irem C.1 C.2.1 d hne (k H locs ls hl hw hS hk)
theorem z_ladd (C : zC X B μ) {x y : Int64} (d : decode μ.2.1 pc = .ok (.ladd, 1)) (k : Z X B μ n G a w (pc + 1) lv (.long (x + y) :: st)) : Z X B μ n G a w pc lv (.long y :: .long x :: st) := fun H locs ls hl hw hS hk => lv_ladd C.1 C.2.1 d (k H locs ls hl hw hS hk)
theorem z_lsub (C : zC X B μ) {x y : Int64} (d : decode μ.2.1 pc = .ok (.lsub, 1)) (k : Z X B μ n G a w (pc + 1) lv (.long (x - y) :: st)) : Z X B μ n G a w pc lv (.long y :: .long x :: st) := fun H locs ls hl hw hS hk => lv_lsub C.1 C.2.1 d (k H locs ls hl hw hS hk)
theorem z_lmul (C : zC X B μ) {x y : Int64} (d : decode μ.2.1 pc = .ok (.lmul, 1)) (k : Z X B μ n G a w (pc + 1) lv (.long (x * y) :: st)) : Z X B μ n G a w pc lv (.long y :: .long x :: st) := fun H locs ls hl hw hS hk => lv_lmul C.1 C.2.1 d (k H locs ls hl hw hS hk)
theorem z_ldiv (C : zC X B μ) {x y : Int64} (d : decode μ.2.1 pc = .ok (.ldiv, 1)) (hne : ¬ y = 0) (k : Z X B μ n G a w (pc + 1) lv (.long (x / y) :: st)) : Z X B μ n G a w pc lv (.long y :: .long x :: st) := fun H locs ls hl hw hS hk => lv_ldiv C.1 C.2.1 d hne (k H locs ls hl hw hS hk)
theorem z_lrem (C : zC X B μ) {x y : Int64} (d : decode μ.2.1 pc = .ok (.lrem, 1)) (hne : ¬ y = 0) (k : Z X B μ n G a w (pc + 1) lv (.long (x - x / y * y) :: st)) : Z X B μ n G a w pc lv (.long y :: .long x :: st) := fun H locs ls hl hw hS hk => lv_lrem C.1 C.2.1 d hne (k H locs ls hl hw hS hk)
theorem z_ineg (C : zC X B μ) {x : Int32} (d : decode μ.2.1 pc = .ok (.ineg, 1)) (k : Z X B μ n G a w (pc + 1) lv (.int (-x) :: st)) : Z X B μ n G a w pc lv (.int x :: st) := fun H locs ls hl hw hS hk => lv_ineg C.1 C.2.1 d (k H locs ls hl hw hS hk)
theorem z_lcmp (C : zC X B μ) {x y : Int64} (d : decode μ.2.1 pc = .ok (.lcmp, 1)) (k : Z X B μ n G a w (pc + 1) lv (.int (lg_cmp x y) :: st)) : Z X B μ n G a w pc lv (.long y :: .long x :: st) := fun H locs ls hl hw hS hk => W.lcmp C.1 C.2.1 d (k H locs ls hl hw hS hk)
theorem z_i2l (C : zC X B μ) {x : Int32} (d : decode μ.2.1 pc = .ok (.i2l, 1)) (k : Z X B μ n G a w (pc + 1) lv (.long (x.toInt64) :: st)) : Z X B μ n G a w pc lv (.int x :: st) := fun H locs ls hl hw hS hk => lv_i2l C.1 C.2.1 d rfl (k H locs ls hl hw hS hk)
theorem z_l2i (C : zC X B μ) {x : Int64} (d : decode μ.2.1 pc = .ok (.l2i, 1)) (k : Z X B μ n G a w (pc + 1) lv (.int (x.toInt32) :: st)) : Z X B μ n G a w pc lv (.long x :: st) := fun H locs ls hl hw hS hk => lv_l2i C.1 C.2.1 d rfl (k H locs ls hl hw hS hk)
theorem z_i2b (C : zC X B μ) {x : Int32} (d : decode μ.2.1 pc = .ok (.i2b, 1)) (k : Z X B μ n G a w (pc + 1) lv (.int (x.toInt8.toInt32) :: st)) : Z X B μ n G a w pc lv (.int x :: st) := fun H locs ls hl hw hS hk => lv_i2b C.1 C.2.1 d rfl (k H locs ls hl hw hS hk)
theorem z_i2c (C : zC X B μ) {x : Int32} (d : decode μ.2.1 pc = .ok (.i2c, 1)) (k : Z X B μ n G a w (pc + 1) lv (.int ((x.toUInt32 % 65536).toInt32) :: st)) : Z X B μ n G a w pc lv (.int x :: st) := fun H locs ls hl hw hS hk => lv_i2c C.1 C.2.1 d rfl (k H locs ls hl hw hS hk)
theorem z_iushr (C : zC X B μ) {x y v : Int32} (d : decode μ.2.1 pc = .ok (.iushr, 1)) (hv : (x.toUInt32 >>> (y.toUInt32 &&& Int32.toUInt32 31)).toInt32 = v) (k : Z X B μ n G a w (pc + 1) lv (.int v :: st)) : Z X B μ n G a w pc lv (.int y :: .int x :: st) := fun H locs ls hl hw hS hk => lv_iushr C.1 C.2.1 d hv (k H locs ls hl hw hS hk)
theorem z_dup (C : zC X B μ) {va : Value} (d : decode μ.2.1 pc = .ok (.dup, 1)) (hva : va.category = 1) (k : Z X B μ n G a w (pc + 1) lv (va :: va :: st)) : Z X B μ n G a w pc lv (va :: st) := fun H locs ls hl hw hS hk => lv_dup C.1 C.2.1 d hva (k H locs ls hl hw hS hk)
theorem z_pop (C : zC X B μ) {va : Value} (d : decode μ.2.1 pc = .ok (.pop, 1)) (hva : va.category = 1) (k : Z X B μ n G a w (pc + 1) lv st) : Z X B μ n G a w pc lv (va :: st) := fun H locs ls hl hw hS hk => lv_pop C.1 C.2.1 d hva (k H locs ls hl hw hS hk)
theorem z_dup2 (C : zC X B μ) {va vb : Value} (d : decode μ.2.1 pc = .ok (.dup2, 1)) (hva : va.category = 1) (hvb : vb.category = 1) (k : Z X B μ n G a w (pc + 1) lv (va :: vb :: va :: vb :: st)) : Z X B μ n G a w pc lv (va :: vb :: st) := fun H locs ls hl hw hS hk => lv_dup2_11 C.1 C.2.1 d hva hvb (k H locs ls hl hw hS hk)
theorem z_dup_x1 (C : zC X B μ) {va vb : Value} (d : decode μ.2.1 pc = .ok (.dup_x1, 1)) (hva : va.category = 1) (hvb : vb.category = 1) (k : Z X B μ n G a w (pc + 1) lv (va :: vb :: va :: st)) : Z X B μ n G a w pc lv (va :: vb :: st) := fun H locs ls hl hw hS hk => lv_dup_x1 C.1 C.2.1 d hva hvb (k H locs ls hl hw hS hk)
theorem z_if_eq (C : zC X B μ) {x : Int32} {off : Int} (tgt : Nat) (d : decode μ.2.1 pc = .ok (.ifCond .eq off, 3)) (ht : (pc : Int) + off = (tgt : Int)) (kt : x = 0 → Z X B μ n G a w tgt lv st) (kf : ¬ x = 0 → Z X B μ n G a w (pc + 3) lv st) : Z X B μ n G a w pc lv (.int x :: st) := fun H locs ls hl hw hS hk => lv_if_eq C.1 C.2.1 d ht (fun c => kt c H locs ls hl hw hS hk) (fun c => kf c H locs ls hl hw hS hk)
theorem z_icmp_eq (C : zC X B μ) {x y : Int32} {off : Int} (tgt : Nat) (d : decode μ.2.1 pc = .ok (.if_icmp .eq off, 3)) (ht : (pc : Int) + off = (tgt : Int)) (kt : x = y → Z X B μ n G a w tgt lv st) (kf : ¬ x = y → Z X B μ n G a w (pc + 3) lv st) : Z X B μ n G a w pc lv (.int y :: .int x :: st) := fun H locs ls hl hw hS hk => lv_icmp_eq C.1 C.2.1 d ht (fun c => kt c H locs ls hl hw hS hk) (fun c => kf c H locs ls hl hw hS hk)
theorem z_if_ne (C : zC X B μ) {x : Int32} {off : Int} (tgt : Nat) (d : decode μ.2.1 pc = .ok (.ifCond .ne off, 3)) (ht : (pc : Int) + off = (tgt : Int)) (kt : ¬ x = 0 → Z X B μ n G a w tgt lv st) (kf : x = 0 → Z X B μ n G a w (pc + 3) lv st) : Z X B μ n G a w pc lv (.int x :: st) := fun H locs ls hl hw hS hk => lv_if_ne C.1 C.2.1 d ht (fun c => kt c H locs ls hl hw hS hk) (fun c => kf c H locs ls hl hw hS hk)
theorem z_icmp_ne (C : zC X B μ) {x y : Int32} {off : Int} (tgt : Nat) (d : decode μ.2.1 pc = .ok (.if_icmp .ne off, 3)) (ht : (pc : Int) + off = (tgt : Int)) (kt : ¬ x = y → Z X B μ n G a w tgt lv st) (kf : x = y → Z X B μ n G a w (pc + 3) lv st) : Z X B μ n G a w pc lv (.int y :: .int x :: st) := fun H locs ls hl hw hS hk => lv_icmp_ne C.1 C.2.1 d ht (fun c => kt c H locs ls hl hw hS hk) (fun c => kf c H locs ls hl hw hS hk)
theorem z_if_lt (C : zC X B μ) {x : Int32} {off : Int} (tgt : Nat) (d : decode μ.2.1 pc = .ok (.ifCond .lt off, 3)) (ht : (pc : Int) + off = (tgt : Int)) (kt : x < 0 → Z X B μ n G a w tgt lv st) (kf : ¬ x < 0 → Z X B μ n G a w (pc + 3) lv st) : Z X B μ n G a w pc lv (.int x :: st) := fun H locs ls hl hw hS hk => lv_if_lt C.1 C.2.1 d ht (fun c => kt c H locs ls hl hw hS hk) (fun c => kf c H locs ls hl hw hS hk)
theorem z_icmp_lt (C : zC X B μ) {x y : Int32} {off : Int} (tgt : Nat) (d : decode μ.2.1 pc = .ok (.if_icmp .lt off, 3)) (ht : (pc : Int) + off = (tgt : Int)) (kt : x < y → Z X B μ n G a w tgt lv st) (kf : ¬ x < y → Z X B μ n G a w (pc + 3) lv st) : Z X B μ n G a w pc lv (.int y :: .int x :: st) := fun H locs ls hl hw hS hk => lv_icmp_lt C.1 C.2.1 d ht (fun c => kt c H locs ls hl hw hS hk) (fun c => kf c H locs ls hl hw hS hk)
theorem z_if_ge (C : zC X B μ) {x : Int32} {off : Int} (tgt : Nat) (d : decode μ.2.1 pc = .ok (.ifCond .ge off, 3)) (ht : (pc : Int) + off = (tgt : Int)) (kt : 0 ≤ x → Z X B μ n G a w tgt lv st) (kf : ¬ 0 ≤ x → Z X B μ n G a w (pc + 3) lv st) : Z X B μ n G a w pc lv (.int x :: st) := fun H locs ls hl hw hS hk => lv_if_ge C.1 C.2.1 d ht (fun c => kt c H locs ls hl hw hS hk) (fun c => kf c H locs ls hl hw hS hk)
theorem z_icmp_ge (C : zC X B μ) {x y : Int32} {off : Int} (tgt : Nat) (d : decode μ.2.1 pc = .ok (.if_icmp .ge off, 3)) (ht : (pc : Int) + off = (tgt : Int)) (kt : y ≤ x → Z X B μ n G a w tgt lv st) (kf : ¬ y ≤ x → Z X B μ n G a w (pc + 3) lv st) : Z X B μ n G a w pc lv (.int y :: .int x :: st) := fun H locs ls hl hw hS hk => lv_icmp_ge C.1 C.2.1 d ht (fun c => kt c H locs ls hl hw hS hk) (fun c => kf c H locs ls hl hw hS hk)
theorem z_if_gt (C : zC X B μ) {x : Int32} {off : Int} (tgt : Nat) (d : decode μ.2.1 pc = .ok (.ifCond .gt off, 3)) (ht : (pc : Int) + off = (tgt : Int)) (kt : 0 < x → Z X B μ n G a w tgt lv st) (kf : ¬ 0 < x → Z X B μ n G a w (pc + 3) lv st) : Z X B μ n G a w pc lv (.int x :: st) := fun H locs ls hl hw hS hk => lv_if_gt C.1 C.2.1 d ht (fun c => kt c H locs ls hl hw hS hk) (fun c => kf c H locs ls hl hw hS hk)
theorem z_icmp_gt (C : zC X B μ) {x y : Int32} {off : Int} (tgt : Nat) (d : decode μ.2.1 pc = .ok (.if_icmp .gt off, 3)) (ht : (pc : Int) + off = (tgt : Int)) (kt : y < x → Z X B μ n G a w tgt lv st) (kf : ¬ y < x → Z X B μ n G a w (pc + 3) lv st) : Z X B μ n G a w pc lv (.int y :: .int x :: st) := fun H locs ls hl hw hS hk => lv_icmp_gt C.1 C.2.1 d ht (fun c => kt c H locs ls hl hw hS hk) (fun c => kf c H locs ls hl hw hS hk)
theorem z_if_le (C : zC X B μ) {x : Int32} {off : Int} (tgt : Nat) (d : decode μ.2.1 pc = .ok (.ifCond .le off, 3)) (ht : (pc : Int) + off = (tgt : Int)) (kt : x ≤ 0 → Z X B μ n G a w tgt lv st) (kf : ¬ x ≤ 0 → Z X B μ n G a w (pc + 3) lv st) : Z X B μ n G a w pc lv (.int x :: st) := fun H locs ls hl hw hS hk => lv_if_le C.1 C.2.1 d ht (fun c => kt c H locs ls hl hw hS hk) (fun c => kf c H locs ls hl hw hS hk)
theorem z_icmp_le (C : zC X B μ) {x y : Int32} {off : Int} (tgt : Nat) (d : decode μ.2.1 pc = .ok (.if_icmp .le off, 3)) (ht : (pc : Int) + off = (tgt : Int)) (kt : x ≤ y → Z X B μ n G a w tgt lv st) (kf : ¬ x ≤ y → Z X B μ n G a w (pc + 3) lv st) : Z X B μ n G a w pc lv (.int y :: .int x :: st) := fun H locs ls hl hw hS hk => lv_icmp_le C.1 C.2.1 d ht (fun c => kt c H locs ls hl hw hS hk) (fun c => kf c H locs ls hl hw hS hk)
theorem z_goto (C : zC X B μ) {off : Int} (tgt : Nat) (d : decode μ.2.1 pc = .ok (.goto off, 3)) (ht : (pc : Int) + off = (tgt : Int)) (k : Z X B μ n G a w tgt lv st) : Z X B μ n G a w pc lv st := fun H locs ls hl hw hS hk => lv_goto C.1 C.2.1 d ht (k H locs ls hl hw hS hk)
theorem z_ifnonnull (C : zC X B μ) {x : Nat} {off : Int} (tgt : Nat) (d : decode μ.2.1 pc = .ok (.ifnonnull off, 3)) (ht : (pc : Int) + off = (tgt : Int)) (k : Z X B μ n G a w tgt lv st) : Z X B μ n G a w pc lv (.ref x :: st) := fun H locs ls hl hw hS hk => lv_ifnonnull C.1 C.2.1 d ht (k H locs ls hl hw hS hk)
theorem z_ifnonnullN (C : zC X B μ) {off : Int} (d : decode μ.2.1 pc = .ok (.ifnonnull off, 3)) (k : Z X B μ n G a w (pc + 3) lv st) : Z X B μ n G a w pc lv (.null :: st) := fun H locs ls hl hw hS hk => lv_ifnonnullN C.1 C.2.1 d (k H locs ls hl hw hS hk)
theorem z_ifnull (C : zC X B μ) {x : Nat} {off : Int} (d : decode μ.2.1 pc = .ok (.ifnull off, 3)) (k : Z X B μ n G a w (pc + 3) lv st) : Z X B μ n G a w pc lv (.ref x :: st) := fun H locs ls hl hw hS hk => lv_ifnull C.1 C.2.1 d (k H locs ls hl hw hS hk)
theorem z_ifnullN (C : zC X B μ) {off : Int} (tgt : Nat) (d : decode μ.2.1 pc = .ok (.ifnull off, 3)) (ht : (pc : Int) + off = (tgt : Int)) (k : Z X B μ n G a w tgt lv st) : Z X B μ n G a w pc lv (.null :: st) := fun H locs ls hl hw hS hk => lv_ifnullN C.1 C.2.1 d ht (k H locs ls hl hw hS hk)
theorem z_ldc (C : zC X B μ) {i : Nat} {v : Int32} (d : decode μ.2.1 pc = .ok (.ldc i, 2)) (hm : zT (Cond.constant μ.1.cls i v)) (k : Z X B μ n G a w (pc + 2) lv (.int v :: st)) : Z X B μ n G a w pc lv st := fun H locs ls hl hw hS hk => lv_ldc C.1 C.2.1 C.2.2.2.1 (C.t hm) d (k H locs ls hl hw hS hk)
theorem z_ldcw (C : zC X B μ) {i : Nat} {v : Int32} (d : decode μ.2.1 pc = .ok (.ldc_w i, 3)) (hm : zT (Cond.constant μ.1.cls i v)) (k : Z X B μ n G a w (pc + 3) lv (.int v :: st)) : Z X B μ n G a w pc lv st := fun H locs ls hl hw hS hk => lv_ldcw C.1 C.2.1 C.2.2.2.1 (C.t hm) d (k H locs ls hl hw hS hk)
theorem z_ldc2 (C : zC X B μ) {i : Nat} {v : Int64} (d : decode μ.2.1 pc = .ok (.ldc2_w i, 3)) (hm : zT (Cond.constantLong μ.1.cls i v)) (k : Z X B μ n G a w (pc + 3) lv (.long v :: st)) : Z X B μ n G a w pc lv st := fun H locs ls hl hw hS hk => lv_ldc2 C.1 C.2.1 C.2.2.2.1 (C.t hm) d (k H locs ls hl hw hS hk)
theorem z_tableOut (C : zC X B μ) {dflt lo hi : Int} {offs : Array Int} {len : Nat} {x : Int32} (tgt : Nat) (d : decode μ.2.1 pc = .ok (.tableswitch dflt lo hi offs, len)) (h : x.toInt < lo ∨ hi < x.toInt) (ht : (pc : Int) + dflt = (tgt : Int)) (k : Z X B μ n G a w tgt lv st) : Z X B μ n G a w pc lv (.int x :: st) := fun H locs ls hl hw hS hk => lv_tableOut C.1 C.2.1 d h ht (k H locs ls hl hw hS hk)
theorem z_tableIn (C : zC X B μ) {dflt lo hi : Int} {offs : Array Int} {len : Nat} {x : Int32} {off : Int} (tgt : Nat) (d : decode μ.2.1 pc = .ok (.tableswitch dflt lo hi offs, len)) (h1 : ¬ x.toInt < lo) (h2 : ¬ hi < x.toInt) (ho : offs[(x.toInt - lo).toNat]? = some off) (ht : (pc : Int) + off = (tgt : Int)) (k : Z X B μ n G a w tgt lv st) : Z X B μ n G a w pc lv (.int x :: st) := fun H locs ls hl hw hS hk => lv_tableIn C.1 C.2.1 d h1 h2 ho ht (k H locs ls hl hw hS hk)
theorem z_lookup (C : zC X B μ) {dflt : Int} {ps : Array (Int × Int)} {len : Nat} {x : Int32} {off : Int} (tgt : Nat) (d : decode μ.2.1 pc = .ok (.lookupswitch dflt ps, len)) (hp : (ps.toList.zip (ps.toList.drop 1)).all (fun (a, next) => a.1 < next.1) = true) (ho : Op.lookupswitch.offset ps.toList dflt x.toInt = off) (ht : (pc : Int) + off = (tgt : Int)) (k : Z X B μ n G a w tgt lv st) : Z X B μ n G a w pc lv (.int x :: st) := fun H locs ls hl hw hS hk => lv_lookup C.1 C.2.1 d hp ho ht (k H locs ls hl hw hS hk)
theorem z_lv {lv2 : List (Nat × Value)} (ks : List Nat) (h : lv_pick lv ks = lv2) (k : Z X B μ n G a w pc lv2 st) : Z X B μ n G a w pc lv st := fun H locs ls hl hw hS hk => k H locs ls (lv_sub hl ks h) hw hS hk
theorem z_G {G2 : Nat → va_E} (h : G = G2) (k : Z X B μ n G2 a w pc lv st) : Z X B μ n G a w pc lv st := h ▸ k
theorem z_get (C : zC X B μ) {Cn ref : String} {T : u_T} {N ci index : Nat} {fs : List Value} {o j : Nat} {v : Value} (hin : ∀ w ∈ u_ws Cn T N, zT w) (hc : vwCl[ci]? = some (Cn, T, N)) (hj : j < N) (hm : zT (Cond.fieldLink μ.1.cls index ref (T j).2.1 (T j).2.2.1)) (hs : (T j).1 = ref) (ho : o < n) (hG : G o = .inr (ci, fs)) (hv : fs[j]? = some v) (d : decode μ.2.1 pc = .ok (.getfield index, 3)) (k : Z X B μ n G a w (pc + 3) lv (v :: st)) : Z X B μ n G a w pc lv (.ref (B.1 + o) :: st) :=
  fun H locs ls hl hw hS hk => va_get C.1 C.2.1 (C.ts hin) (fun _ h => h) C.2.2.2.1 C.2.2.2.2.2.1.2.1 hw.P o (zl_at ho hG) hc j hj (C.t hm) (fun _ h => hs ▸ h) hv d (k H locs ls hl hw hS hk)
theorem z_put (C : zC X B μ) {Cn ref : String} {T : u_T} {N ci index : Nat} {fs : List Value} {o j : Nat} {v : Value} {ty : FieldType} (ty0 : Nat → FieldType) (hty : ∀ k, k < N → parseFieldDescriptor (T k).2.2.1 = some (ty0 k)) (hnm : ∀ a, a < N → ∀ b, b < N → a ≠ b → (T a).2.1 ≠ (T b).2.1) (hin : ∀ w ∈ u_ws Cn T N, zT w) (hc : vwCl[ci]? = some (Cn, T, N)) (hj : j < N) (hm : zT (Cond.fieldLink μ.1.cls index ref (T j).2.1 (T j).2.2.1)) (hs : (T j).1 = ref) (hf : (T j).2.2.2 = false) (hd : parseFieldDescriptor (T j).2.2.1 = some ty) (hna : narrow ty v = v) (hft : fits ty v = true) (ho : o < n) (hG : G o = .inr (ci, fs)) (hjl : j < fs.length) (d : decode μ.2.1 pc = .ok (.putfield index, 3)) (k : Z X B μ n (va_up G o (.inr (ci, fs.set j v))) a w (pc + 3) lv st) : Z X B μ n G a w pc lv (v :: .ref (B.1 + o) :: st) :=
  fun H locs ls hl hw hS hk => va_put C.1 C.2.1 (C.ts hin) (fun _ h => h) ty0 hty hnm C.2.2.2.1 C.2.2.2.2.2.1.2.1 hw.P zl_D hS o (zl_at ho hG) hc j hj (C.t hm) (fun _ h => hs ▸ h) hf hd hna hft hjl d (fun H1 locs1 hP hD hS1 => zsize (fun hz => k H1 locs1 ls hl (zw.of (by rw [← zl_set]; exact hP) (by omega) (by omega)) hS1 hk))
theorem z_putF (C : zC X B μ) (hin2 : (xH X).name = "<init>") {Cn ref : String} {T : u_T} {N ci index : Nat} {fs : List Value} {o j : Nat} {v : Value} {ty : FieldType} (ty0 : Nat → FieldType) (hty : ∀ k, k < N → parseFieldDescriptor (T k).2.2.1 = some (ty0 k)) (hnm : ∀ a, a < N → ∀ b, b < N → a ≠ b → (T a).2.1 ≠ (T b).2.1) (hin : ∀ w ∈ u_ws Cn T N, zT w) (hc : vwCl[ci]? = some (Cn, T, N)) (hj : j < N) (hm : zT (Cond.fieldLink μ.1.cls index ref (T j).2.1 (T j).2.2.1)) (hs : (T j).1 = ref) (hf : (T j).2.2.2 = true) (hdecl : (T j).1 = μ.1.cls) (hd : parseFieldDescriptor (T j).2.2.1 = some ty) (hna : narrow ty v = v) (hft : fits ty v = true) (ho : o < n) (hG : G o = .inr (ci, fs)) (hjl : j < fs.length) (d : decode μ.2.1 pc = .ok (.putfield index, 3)) (k : Z X B μ n (va_up G o (.inr (ci, fs.set j v))) a w (pc + 3) lv st) : Z X B μ n G a w pc lv (v :: .ref (B.1 + o) :: st) :=
  fun H locs ls hl hw hS hk => va_putF C.1 C.2.1 (C.ts hin) (fun _ h => h) ty0 hty hnm C.2.2.2.1 C.2.2.2.2.2.1.2.1 hw.P zl_D hS o (zl_at ho hG) hc j hj (C.t hm) (fun _ h => hs ▸ h) hf hin2 hdecl hd hna hft hjl d (fun H1 locs1 hP hD hS1 => zsize (fun hz => k H1 locs1 ls hl (zw.of (by rw [← zl_set]; exact hP) (by omega) (by omega)) hS1 hk))
theorem z_iald (C : zC X B μ) {o N : Nat} {f : Nat → Int32} {i : Int32} (ho : o < n) (hG : G o = .inl (B.2.2.1 0, N, .inl f)) (hi : vp_in i N) (d : decode μ.2.1 pc = .ok (.iaload, 1)) (k : Z X B μ n G a w (pc + 1) lv (.int (f i.toNatClampNeg) :: st)) : Z X B μ n G a w pc lv (.int i :: .ref (B.1 + o) :: st) :=
  fun H locs ls hl hw hS hk => va_iald C.1 C.2.1 C.2.2.2.2.2.1.2.1 hw.P o 0 (zl_at ho hG) rfl hi d (k H locs ls hl hw hS hk)
theorem z_bald (C : zC X B μ) {o N : Nat} {f : Nat → Int32} {i : Int32} (ho : o < n) (hG : G o = .inl (B.2.2.1 1, N, .inl f)) (hi : vp_in i N) (d : decode μ.2.1 pc = .ok (.baload, 1)) (k : Z X B μ n G a w (pc + 1) lv (.int (f i.toNatClampNeg) :: st)) : Z X B μ n G a w pc lv (.int i :: .ref (B.1 + o) :: st) :=
  fun H locs ls hl hw hS hk => va_bald C.1 C.2.1 C.2.2.2.2.2.1.2.1 hw.P o 1 (zl_at ho hG) rfl hi d (k H locs ls hl hw hS hk)
theorem z_zald (C : zC X B μ) {o N : Nat} {f : Nat → Int32} {i : Int32} (ho : o < n) (hG : G o = .inl (B.2.2.1 2, N, .inl f)) (hi : vp_in i N) (d : decode μ.2.1 pc = .ok (.baload, 1)) (k : Z X B μ n G a w (pc + 1) lv (.int (f i.toNatClampNeg) :: st)) : Z X B μ n G a w pc lv (.int i :: .ref (B.1 + o) :: st) :=
  fun H locs ls hl hw hS hk => va_zald C.1 C.2.1 C.2.2.2.2.2.1.2.1 hw.P o 2 (zl_at ho hG) rfl hi d (k H locs ls hl hw hS hk)
theorem z_iast (C : zC X B μ) {o N : Nat} {f : Nat → Int32} {i x : Int32} (ho : o < n) (hG : G o = .inl (B.2.2.1 0, N, .inl f)) (hi : vp_in i N) (d : decode μ.2.1 pc = .ok (.iastore, 1)) (k : Z X B μ n (va_up G o (.inl (B.2.2.1 0, N, .inl (upd f i.toNatClampNeg x)))) a w (pc + 1) lv st) : Z X B μ n G a w pc lv (.int x :: .int i :: .ref (B.1 + o) :: st) :=
  fun H locs ls hl hw hS hk => va_iast C.1 C.2.1 C.2.2.2.2.2.1.2.1 hw.P zl_D hS o 0 (zl_at ho hG) rfl hi d (fun H1 locs1 hP hD hS1 => zsize (fun hz => k H1 locs1 ls hl (zw.of (by rw [← zl_set]; exact hP) (by omega) (by omega)) hS1 hk))
theorem z_bast (C : zC X B μ) {o N : Nat} {f : Nat → Int32} {i x : Int32} (ho : o < n) (hG : G o = .inl (B.2.2.1 1, N, .inl f)) (hi : vp_in i N) (d : decode μ.2.1 pc = .ok (.bastore, 1)) (k : Z X B μ n (va_up G o (.inl (B.2.2.1 1, N, .inl (upd f i.toNatClampNeg (vp_nar .byte x))))) a w (pc + 1) lv st) : Z X B μ n G a w pc lv (.int x :: .int i :: .ref (B.1 + o) :: st) :=
  fun H locs ls hl hw hS hk => va_bast C.1 C.2.1 C.2.2.2.2.2.1.2.1 hw.P zl_D hS o 1 (zl_at ho hG) rfl hi d (fun H1 locs1 hP hD hS1 => zsize (fun hz => k H1 locs1 ls hl (zw.of (by rw [← zl_set]; exact hP) (by omega) (by omega)) hS1 hk))
theorem z_zast (C : zC X B μ) {o N : Nat} {f : Nat → Int32} {i x : Int32} (ho : o < n) (hG : G o = .inl (B.2.2.1 2, N, .inl f)) (hi : vp_in i N) (d : decode μ.2.1 pc = .ok (.bastore, 1)) (k : Z X B μ n (va_up G o (.inl (B.2.2.1 2, N, .inl (upd f i.toNatClampNeg (vp_nar .boolean x))))) a w (pc + 1) lv st) : Z X B μ n G a w pc lv (.int x :: .int i :: .ref (B.1 + o) :: st) :=
  fun H locs ls hl hw hS hk => va_zast C.1 C.2.1 C.2.2.2.2.2.1.2.1 hw.P zl_D hS o 2 (zl_at ho hG) rfl hi d (fun H1 locs1 hP hD hS1 => zsize (fun hz => k H1 locs1 ls hl (zw.of (by rw [← zl_set]; exact hP) (by omega) (by omega)) hS1 hk))
theorem z_alen (C : zC X B μ) {o : Nat} {x : vp_A} {v : Int32} (t0 : Nat) {ty : FieldType} (ho : o < n) (hG : G o = .inl (B.2.2.1 t0, x)) (ht : (zTys B.2.2.1)[t0]? = some (B.2.2.1 t0, ty)) (hv : Int32.ofNat x.1 = v) (d : decode μ.2.1 pc = .ok (.arraylength, 1)) (k : Z X B μ n G a w (pc + 1) lv (.int v :: st)) : Z X B μ n G a w pc lv (.ref (B.1 + o) :: st) :=
  fun H locs ls hl hw hS hk => va_alen C.1 C.2.1 C.2.2.2.2.2.1.2.1 hw.P o t0 (zl_at ho hG) ht hv d (k H locs ls hl hw hS hk)
theorem z_aald (C : zC X B μ) {o N r : Nat} {f : Nat → Option Nat} {i : Int32} (t0 : Nat) {Cn : String} (ho : o < n) (hG : G o = .inl (B.2.2.1 t0, N, .inr (.inr (.inr (.inr f))))) (ht : (zTys B.2.2.1)[t0]? = some (B.2.2.1 t0, .object Cn)) (hi : vp_in i N) (hr : f i.toNatClampNeg = some r) (d : decode μ.2.1 pc = .ok (.aaload, 1)) (k : Z X B μ n G a w (pc + 1) lv (.ref r :: st)) : Z X B μ n G a w pc lv (.int i :: .ref (B.1 + o) :: st) :=
  fun H locs ls hl hw hS hk => va_aldq C.1 C.2.1 C.2.2.2.2.2.1.2.1 hw.P o t0 (zl_at ho hG) ht hi d (by rw [hr]; exact k H locs ls hl hw hS hk)
theorem z_iret (C : zC X B μ) {n0 mc ms : Nat} {Q : Option Value → Nat → (Nat → va_E) → Prop} (E : zE X B μ n0 mc ms Q) (hret : μ.2.2.2.1 = some .int) {v : Int32} (d : decode μ.2.1 pc = .ok (.ireturn, 1)) (hn : n = n0 + mc) (hw2 : w ≤ ms) (q : Q (some (.int v)) n G) : Z X B μ n G a w pc lv [.int v] := by
  intro H locs ls hl hw hS hk
  obtain ⟨e1, e2, e3⟩ := E
  rw [hret] at e1
  show W _ _ _ _ _ _ _ _ _ _ _ _ _ _ (xQ X) _
  rw [e2]
  refine W.widen (k := mc) (n := ms) (by omega) hw2 ?_
  exact W.iret (v := v) C.1 C.2.1 e1 (fun t ht _ => ⟨⟨_, n, G, rfl, q, by rw [ht]; exact hw, hn⟩, hS.F ht⟩) hS.2.2 d C.2.2.2.2.1
theorem z_lret (C : zC X B μ) {n0 mc ms : Nat} {Q : Option Value → Nat → (Nat → va_E) → Prop} (E : zE X B μ n0 mc ms Q) (hret : μ.2.2.2.1 = some .long) {v : Int64} (d : decode μ.2.1 pc = .ok (.lreturn, 1)) (hn : n = n0 + mc) (hw2 : w ≤ ms) (q : Q (some (.long v)) n G) : Z X B μ n G a w pc lv [.long v] := by
  intro H locs ls hl hw hS hk
  obtain ⟨e1, e2, e3⟩ := E
  rw [hret] at e1
  show W _ _ _ _ _ _ _ _ _ _ _ _ _ _ (xQ X) _
  rw [e2]
  refine W.widen (k := mc) (n := ms) (by omega) hw2 ?_
  exact W.lret (v := v) C.1 C.2.1 e1 (fun t ht _ => ⟨⟨_, n, G, rfl, q, by rw [ht]; exact hw, hn⟩, hS.F ht⟩) hS.2.2 d C.2.2.2.2.1
theorem z_zret (C : zC X B μ) {n0 mc ms : Nat} {ty : FieldType} {Q : Option Value → Nat → (Nat → va_E) → Prop} (E : zE X B μ n0 mc ms Q) (hret : μ.2.2.2.1 = some ty) {v : Int32} (d : decode μ.2.1 pc = .ok (.ireturn, 1)) (hv : narrow ty (.int v) = .int v) (hn : n = n0 + mc) (hw2 : w ≤ ms) (q : Q (some (.int v)) n G) : Z X B μ n G a w pc lv [.int v] := by
  intro H locs ls hl hw hS hk
  obtain ⟨e1, e2, e3⟩ := E
  rw [hret] at e1
  show W _ _ _ _ _ _ _ _ _ _ _ _ _ _ (xQ X) _
  rw [e2]
  refine W.widen (k := mc) (n := ms) (by omega) hw2 ?_
  exact W.zret (v := v) C.1 C.2.1 e1 hv (fun t ht _ => ⟨⟨_, n, G, rfl, q, by rw [ht]; exact hw, hn⟩, hS.F ht⟩) hS.2.2 d C.2.2.2.2.1
theorem z_aret (C : zC X B μ) {n0 mc ms : Nat} {rt : String} {Q : Option Value → Nat → (Nat → va_E) → Prop} (E : zE X B μ n0 mc ms Q) (hret : μ.2.2.2.1 = some (.object rt)) {v : Value} (d : decode μ.2.1 pc = .ok (.areturn, 1)) (hv : v = .null ∨ ∃ a, v = .ref a) (hn : n = n0 + mc) (hw2 : w ≤ ms) (q : Q (some v) n G) : Z X B μ n G a w pc lv [v] := by
  intro H locs ls hl hw hS hk
  obtain ⟨e1, e2, e3⟩ := E
  rw [hret] at e1
  show W _ _ _ _ _ _ _ _ _ _ _ _ _ _ (xQ X) _
  rw [e2]
  refine W.widen (k := mc) (n := ms) (by omega) hw2 ?_
  exact W.aret (v := v) C.1 C.2.1 e1 (Or.inl ⟨_, rfl⟩) hv (fun t ht _ => ⟨⟨_, n, G, rfl, q, by rw [ht]; exact hw, hn⟩, hS.F ht⟩) hS.2.2 d C.2.2.2.2.1
theorem z_vret (C : zC X B μ) {n0 mc ms : Nat} {Q : Option Value → Nat → (Nat → va_E) → Prop} (E : zE X B μ n0 mc ms Q) (hret : μ.2.2.2.1 = none) (d : decode μ.2.1 pc = .ok (.return_, 1)) (hn : n = n0 + mc) (hw2 : w ≤ ms) (q : Q none n G) : Z X B μ n G a w pc lv [] := by
  intro H locs ls hl hw hS hk
  obtain ⟨e1, e2, e3⟩ := E
  rw [hret] at e1
  show W _ _ _ _ _ _ _ _ _ _ _ _ _ _ (xQ X) _
  rw [e2]
  refine W.widen (k := mc) (n := ms) (by omega) hw2 ?_
  exact W.vret C.1 C.2.1 e1 (fun t ht _ => ⟨⟨_, n, G, rfl, q, by rw [ht]; exact hw, hn⟩, hS.F ht⟩) hS.2.2 d C.2.2.2.2.1
/-- behind a call -/
theorem z_run {mc ms : Nat} {Q : Option Value → Nat → (Nat → va_E) → Prop} {rest : List Value} (hr : ∀ (H : Heap) (locs : List Loc) (ls : Array Slot), lv_has ls μ.2.2.1 lv → zw B n G H → va_S (zA B) (xS X).heap H locs → va_Run X.1 X.2.1 X.2.2.1 μ.2.2.2.2 (xS X) (xM X) (xA X) (xB X) (xH X) (xC X) H locs a w mc ms (F0 (xM X) pc ls st) rest (fun st oc t => (∃ (v : Option Value) (n' : Nat) (G' : Nat → va_E), oc = .returned v ∧ Q v n' G' ∧ zw B n' G' t.heap ∧ n' = n + mc) ∧ va_F (zA B) st t) (zA B))
    (kk : ∀ (v : Option Value) (G' : Nat → va_E), Q v (n + mc) G' → Z X B μ (n + mc) G' (a + mc) (w + ms) (pc + 3) lv (v.toList ++ rest)) : Z X B μ n G a w pc lv st := by
  intro H locs ls hl hw hS hk T hT X0
  obtain ⟨v, st₀, t, T', L, h0, X', hL, e1, e2, ⟨⟨v', n', G', hv, hq, hz, hn⟩, hz1, hk1⟩, stp⟩ := hr H locs ls hl hw hS T hT X0
  cases hv
  subst hn
  rw [h0] at hz1 hk1
  obtain ⟨t2, a1, b1⟩ := kk v G' hq T'.heap (locs ++ L) ls hl (by rw [e1]; exact hz)
    ⟨Nat.le_trans hS.1 (by rw [e1]; exact hz1), fun q h1 h2 => by rw [e1, hk1 q (Nat.lt_of_lt_of_le h1 hS.1) h2]; exact hS.2.1 q h1 h2, fun q hq => by
      rcases List.mem_append.mp hq with h | h
      · exact hS.2.2 q h
      · exact hL q h⟩ (by omega) T' rfl X'
  exact ⟨t2, stp t2 a1, b1⟩
theorem zPre_blind {as : List Value} : FrameBlind (va_Pc as (zPre B n G)) := fun ar U g mk q => ⟨q.1, q.2.1, q.2.2.same rfl⟩
theorem zPre_at (C : zC X B μ) {H : Heap} {locs : List Loc} (hw : zw B n G H) (hS : va_S (zA B) (xS X).heap H locs) (as : List Value) : ∀ U : State, U.heap = H → (xS X).WarmedH U.vm → va_Pc as (zPre B n G) as.toArray U :=
  fun U hU hW => ⟨rfl, by rw [hU]; exact hw, by rw [hU]; exact (C.2.2.2.2.2.1.warm hW).kept hS.2.1⟩
theorem z_recv (C : zC X B μ) {H : Heap} (hw : zw B n G H) {o ci : Nat} {q : vw_C} {fs : List Value} (ho : o < n) (hG : G o = .inr (ci, fs)) (hc : vwCl[ci]? = some q) : ∃ cell : Cell, H[B.1 + o]? = some cell ∧ cell.vm.isStatics = false ∧ (xS X).vm.findClass q.1 = some cell.cls :=
  va_recv C.2.2.2.2.2.1.2.1 hw.P hc (zl_at ho hG)
end ZROWS
end
section
/-! THE STORE. 0 VetoHouse; 1 kinds, 2..7 the kinds; houses at 8, 33, 59, 84 (h: House, h+1 its Sitting, h+2 deputies, h+3.. Deputies, h+9 notes, h+10.. Notes, h+16 past, h+17.. Sittings); 58 images; 109 kept; 110 trial; 111 Text; 112 bytes; 113 VetoHouseModel; 114 now, 115 kept, 116 isKept, 117 refused, 118 kinds, 119 loves, 120 hates, 121 bytes, 122 anew, 123 values -/
abbrev zS : Type := Nat → Nat → Int32
abbrev zL : Type := Nat → Nat → Int64
def zkL : List Nat := [11, 26, 5, 7, 10, 6, 3, 2, 1, 8, 23, 0, 0, 0, 0, 0, 0, 25, 4, 4, 4, 4, 4, 4, 27, 8, 8, 8, 8, 8, 8, 8, 8, 1, 8, 23, 0, 0, 0, 0, 0, 0, 25, 4, 4, 4, 4, 4, 4, 27, 8, 8, 8, 8, 8, 8, 8, 8, 24, 1, 8, 23, 0, 0, 0, 0, 0, 0, 25, 4, 4, 4, 4, 4, 4, 27, 8, 8, 8, 8, 8, 8, 8, 8, 1, 8, 23, 0, 0, 0, 0, 0, 0, 25, 4, 4, 4, 4, 4, 4, 27, 8, 8, 8, 8, 8, 8, 8, 8, 22, 8, 9, 21, 12, 20, 20, 22, 20, 20, 20, 20, 20, 20, 20]
def zlL : List Nat := [0, 6, 0, 0, 0, 0, 0, 0, 0, 0, 6, 0, 0, 0, 0, 0, 0, 6, 0, 0, 0, 0, 0, 0, 8, 0, 0, 0, 0, 0, 0, 0, 0, 0, 0, 6, 0, 0, 0, 0, 0, 0, 6, 0, 0, 0, 0, 0, 0, 8, 0, 0, 0, 0, 0, 0, 0, 0, 2, 0, 0, 6, 0, 0, 0, 0, 0, 0, 6, 0, 0, 0, 0, 0, 0, 8, 0, 0, 0, 0, 0, 0, 0, 0, 0, 0, 6, 0, 0, 0, 0, 0, 0, 6, 0, 0, 0, 0, 0, 0, 8, 0, 0, 0, 0, 0, 0, 0, 0, 2, 0, 0, 150, 0, 105, 210, 2, 3, 6, 6, 6, 150, 57, 3]
def zk (k : Nat) : Nat := zkL.getD k 99
def zn (k : Nat) : Nat := zlL.getD k 0
def zu (s : zS) (k j : Nat) (v : Int32) : zS := fun k2 j2 => if k2 = k ∧ j2 = j then v else s k2 j2
def zv (t : zL) (k j : Nat) (v : Int64) : zL := fun k2 j2 => if k2 = k ∧ j2 = j then v else t k2 j2
theorem zu_same (s : zS) (k j : Nat) (v : Int32) : zu s k j v k j = v := by simp [zu]
theorem zu_ne (s : zS) {k j k2 j2 : Nat} (v : Int32) (h : ¬ (k2 = k ∧ j2 = j)) : zu s k j v k2 j2 = s k2 j2 := by simp [zu, h]
theorem zu_row (s : zS) {k j k2 : Nat} (v : Int32) (h : k2 ≠ k) : zu s k j v k2 = s k2 := by funext j2; simp [zu, h]
theorem zv_row (t : zL) {k j k2 : Nat} (v : Int64) (h : k2 ≠ k) : zv t k j v k2 = t k2 := by funext j2; simp [zv, h]
theorem zu_upd (s : zS) (k j : Nat) (v : Int32) : zu s k j v k = upd (s k) j v := by funext j2; simp [zu, upd]
def zg (B : zB) (s : zS) (t : zL) (k : Nat) : va_E := match zk k with
  | 0 => .inr (0, [.int (s k 0), .int (s k 1), .int (s k 2), .int (s k 3)])
  | 1 => .inr (1, [.ref (B.1 + (k + 1)), .ref (B.1 + (k + 2)), .ref (B.1 + (k + 9)), .ref (B.1 + (k + 16)), .int (s k 4), .int (s k 5), .int (s k 6)])
  | 2 => .inr (2, [])
  | 3 => .inr (3, [])
  | 4 => .inr (4, [.int (s k 0), .int (s k 1), .int (s k 2), .int (s k 3)])
  | 5 => .inr (5, [])
  | 6 => .inr (6, [])
  | 7 => .inr (7, [])
  | 8 => .inr (8, [.int (s k 0), .int (s k 1), .int (s k 2), .int (s k 3), .int (s k 4), .int (s k 5)])
  | 9 => .inr (9, [.ref (B.1 + (k + 1)), .int (s k 1), .int (s k 2), .int (s k 3), .int (s k 4), .int (s k 5)])
  | 10 => .inr (10, [])
  | 11 => .inr (11, [.ref (B.1 + 1), .ref (B.1 + 8), .ref (B.1 + 33), .ref (B.1 + 58), .ref (B.1 + 109), .ref (B.1 + 110), .ref (B.1 + 111), .long (t k 7), .long (t k 8), .int (s k 9), .int (s k 10), .int (s k 11)])
  | 12 => .inr (12, [.ref (B.1 + 114), .ref (B.1 + 115), .ref (B.1 + 116), .ref (B.1 + 117), .long (t k 4), .long (t k 5), .ref (B.1 + 118), .ref (B.1 + 119), .ref (B.1 + 120), .int (s k 9), .int (s k 10), .ref (B.1 + 121), .int (s k 12), .int (s k 13), .int (s k 14), .int (s k 15), .int (s k 16), .ref (B.1 + 122), .ref (B.1 + 123)])
  | 20 => .inl (B.2.2.1 0, zn k, .inl (s k))
  | 21 => .inl (B.2.2.1 1, zn k, .inl (s k))
  | 22 => .inl (B.2.2.1 2, zn k, .inl (s k))
  | 23 => .inl (B.2.2.1 3, zn k, .inr (.inr (.inr (.inr (fun j => some (B.1 + (k + 1 + j)))))))
  | 24 => .inl (B.2.2.1 4, zn k, .inr (.inr (.inr (.inr (fun j => some (B.1 + (k + 1 + 25 * j)))))))
  | 25 => .inl (B.2.2.1 5, zn k, .inr (.inr (.inr (.inr (fun j => some (B.1 + (k + 1 + j)))))))
  | 26 => .inl (B.2.2.1 6, zn k, .inr (.inr (.inr (.inr (fun j => some (B.1 + (k + 1 + j)))))))
  | 27 => .inl (B.2.2.1 7, zn k, .inr (.inr (.inr (.inr (fun j => some (B.1 + (k + 1 + j)))))))
  | _ => .inr (0, [])
theorem zg_0 {B : zB} {s : zS} {t : zL} {k : Nat} (h : zk k = 0) : zg B s t k = .inr (0, [.int (s k 0), .int (s k 1), .int (s k 2), .int (s k 3)]) := by simp only [zg, h]
theorem zg_1 {B : zB} {s : zS} {t : zL} {k : Nat} (h : zk k = 1) : zg B s t k = .inr (1, [.ref (B.1 + (k + 1)), .ref (B.1 + (k + 2)), .ref (B.1 + (k + 9)), .ref (B.1 + (k + 16)), .int (s k 4), .int (s k 5), .int (s k 6)]) := by simp only [zg, h]
theorem zg_2 {B : zB} {s : zS} {t : zL} {k : Nat} (h : zk k = 2) : zg B s t k = .inr (2, []) := by simp only [zg, h]
theorem zg_3 {B : zB} {s : zS} {t : zL} {k : Nat} (h : zk k = 3) : zg B s t k = .inr (3, []) := by simp only [zg, h]
theorem zg_4 {B : zB} {s : zS} {t : zL} {k : Nat} (h : zk k = 4) : zg B s t k = .inr (4, [.int (s k 0), .int (s k 1), .int (s k 2), .int (s k 3)]) := by simp only [zg, h]
theorem zg_5 {B : zB} {s : zS} {t : zL} {k : Nat} (h : zk k = 5) : zg B s t k = .inr (5, []) := by simp only [zg, h]
theorem zg_6 {B : zB} {s : zS} {t : zL} {k : Nat} (h : zk k = 6) : zg B s t k = .inr (6, []) := by simp only [zg, h]
theorem zg_7 {B : zB} {s : zS} {t : zL} {k : Nat} (h : zk k = 7) : zg B s t k = .inr (7, []) := by simp only [zg, h]
theorem zg_8 {B : zB} {s : zS} {t : zL} {k : Nat} (h : zk k = 8) : zg B s t k = .inr (8, [.int (s k 0), .int (s k 1), .int (s k 2), .int (s k 3), .int (s k 4), .int (s k 5)]) := by simp only [zg, h]
theorem zg_9 {B : zB} {s : zS} {t : zL} {k : Nat} (h : zk k = 9) : zg B s t k = .inr (9, [.ref (B.1 + (k + 1)), .int (s k 1), .int (s k 2), .int (s k 3), .int (s k 4), .int (s k 5)]) := by simp only [zg, h]
theorem zg_10 {B : zB} {s : zS} {t : zL} {k : Nat} (h : zk k = 10) : zg B s t k = .inr (10, []) := by simp only [zg, h]
theorem zg_11 {B : zB} {s : zS} {t : zL} {k : Nat} (h : zk k = 11) : zg B s t k = .inr (11, [.ref (B.1 + 1), .ref (B.1 + 8), .ref (B.1 + 33), .ref (B.1 + 58), .ref (B.1 + 109), .ref (B.1 + 110), .ref (B.1 + 111), .long (t k 7), .long (t k 8), .int (s k 9), .int (s k 10), .int (s k 11)]) := by simp only [zg, h]
theorem zg_12 {B : zB} {s : zS} {t : zL} {k : Nat} (h : zk k = 12) : zg B s t k = .inr (12, [.ref (B.1 + 114), .ref (B.1 + 115), .ref (B.1 + 116), .ref (B.1 + 117), .long (t k 4), .long (t k 5), .ref (B.1 + 118), .ref (B.1 + 119), .ref (B.1 + 120), .int (s k 9), .int (s k 10), .ref (B.1 + 121), .int (s k 12), .int (s k 13), .int (s k 14), .int (s k 15), .int (s k 16), .ref (B.1 + 122), .ref (B.1 + 123)]) := by simp only [zg, h]
theorem zg_20 {B : zB} {s : zS} {t : zL} {k : Nat} (h : zk k = 20) : zg B s t k = .inl (B.2.2.1 0, zn k, .inl (s k)) := by simp only [zg, h]
theorem zg_21 {B : zB} {s : zS} {t : zL} {k : Nat} (h : zk k = 21) : zg B s t k = .inl (B.2.2.1 1, zn k, .inl (s k)) := by simp only [zg, h]
theorem zg_22 {B : zB} {s : zS} {t : zL} {k : Nat} (h : zk k = 22) : zg B s t k = .inl (B.2.2.1 2, zn k, .inl (s k)) := by simp only [zg, h]
theorem zg_23 {B : zB} {s : zS} {t : zL} {k : Nat} (h : zk k = 23) : zg B s t k = .inl (B.2.2.1 3, zn k, .inr (.inr (.inr (.inr (fun j => some (B.1 + (k + 1 + j))))))) := by simp only [zg, h]
theorem zg_24 {B : zB} {s : zS} {t : zL} {k : Nat} (h : zk k = 24) : zg B s t k = .inl (B.2.2.1 4, zn k, .inr (.inr (.inr (.inr (fun j => some (B.1 + (k + 1 + 25 * j))))))) := by simp only [zg, h]
theorem zg_25 {B : zB} {s : zS} {t : zL} {k : Nat} (h : zk k = 25) : zg B s t k = .inl (B.2.2.1 5, zn k, .inr (.inr (.inr (.inr (fun j => some (B.1 + (k + 1 + j))))))) := by simp only [zg, h]
theorem zg_26 {B : zB} {s : zS} {t : zL} {k : Nat} (h : zk k = 26) : zg B s t k = .inl (B.2.2.1 6, zn k, .inr (.inr (.inr (.inr (fun j => some (B.1 + (k + 1 + j))))))) := by simp only [zg, h]
theorem zg_27 {B : zB} {s : zS} {t : zL} {k : Nat} (h : zk k = 27) : zg B s t k = .inl (B.2.2.1 7, zn k, .inr (.inr (.inr (.inr (fun j => some (B.1 + (k + 1 + j))))))) := by simp only [zg, h]
theorem zg_congr {B : zB} {s s2 : zS} {t t2 : zL} {k : Nat} (h1 : s2 k = s k) (h2 : t2 k = t k) : zg B s2 t2 k = zg B s t k := by simp only [zg, h1, h2]
theorem zg_up {B : zB} {s s2 : zS} {t t2 : zL} {k : Nat} {e : va_E} (h1 : ∀ q, q ≠ k → s2 q = s q) (h2 : ∀ q, q ≠ k → t2 q = t q) (he : zg B s2 t2 k = e) : va_up (zg B s t) k e = zg B s2 t2 := by
  funext q
  by_cases hq : q = k
  · subst hq; simp [va_up, he]
  · rw [va_up_ne _ _ hq, zg_congr (h1 q hq) (h2 q hq)]
theorem zg_p0_0 {B : zB} {s : zS} {t : zL} {k : Nat} {v : Int32} (h : zk k = 0) : va_up (zg B s t) k (.inr (0, [.int (s k 0), .int (s k 1), .int (s k 2), .int (s k 3)].set 0 (.int v))) = zg B (zu s k 0 v) t := zg_up (fun q hq => zu_row s v hq) (fun _ _ => rfl) (by rw [zg_0 h]; simp [zu])
theorem zg_p0_1 {B : zB} {s : zS} {t : zL} {k : Nat} {v : Int32} (h : zk k = 0) : va_up (zg B s t) k (.inr (0, [.int (s k 0), .int (s k 1), .int (s k 2), .int (s k 3)].set 1 (.int v))) = zg B (zu s k 1 v) t := zg_up (fun q hq => zu_row s v hq) (fun _ _ => rfl) (by rw [zg_0 h]; simp [zu])
theorem zg_p0_2 {B : zB} {s : zS} {t : zL} {k : Nat} {v : Int32} (h : zk k = 0) : va_up (zg B s t) k (.inr (0, [.int (s k 0), .int (s k 1), .int (s k 2), .int (s k 3)].set 2 (.int v))) = zg B (zu s k 2 v) t := zg_up (fun q hq => zu_row s v hq) (fun _ _ => rfl) (by rw [zg_0 h]; simp [zu])
theorem zg_p0_3 {B : zB} {s : zS} {t : zL} {k : Nat} {v : Int32} (h : zk k = 0) : va_up (zg B s t) k (.inr (0, [.int (s k 0), .int (s k 1), .int (s k 2), .int (s k 3)].set 3 (.int v))) = zg B (zu s k 3 v) t := zg_up (fun q hq => zu_row s v hq) (fun _ _ => rfl) (by rw [zg_0 h]; simp [zu])
theorem zg_p1_4 {B : zB} {s : zS} {t : zL} {k : Nat} {v : Int32} (h : zk k = 1) : va_up (zg B s t) k (.inr (1, [.ref (B.1 + (k + 1)), .ref (B.1 + (k + 2)), .ref (B.1 + (k + 9)), .ref (B.1 + (k + 16)), .int (s k 4), .int (s k 5), .int (s k 6)].set 4 (.int v))) = zg B (zu s k 4 v) t := zg_up (fun q hq => zu_row s v hq) (fun _ _ => rfl) (by rw [zg_1 h]; simp [zu])
theorem zg_p1_5 {B : zB} {s : zS} {t : zL} {k : Nat} {v : Int32} (h : zk k = 1) : va_up (zg B s t) k (.inr (1, [.ref (B.1 + (k + 1)), .ref (B.1 + (k + 2)), .ref (B.1 + (k + 9)), .ref (B.1 + (k + 16)), .int (s k 4), .int (s k 5), .int (s k 6)].set 5 (.int v))) = zg B (zu s k 5 v) t := zg_up (fun q hq => zu_row s v hq) (fun _ _ => rfl) (by rw [zg_1 h]; simp [zu])
theorem zg_p1_6 {B : zB} {s : zS} {t : zL} {k : Nat} {v : Int32} (h : zk k = 1) : va_up (zg B s t) k (.inr (1, [.ref (B.1 + (k + 1)), .ref (B.1 + (k + 2)), .ref (B.1 + (k + 9)), .ref (B.1 + (k + 16)), .int (s k 4), .int (s k 5), .int (s k 6)].set 6 (.int v))) = zg B (zu s k 6 v) t := zg_up (fun q hq => zu_row s v hq) (fun _ _ => rfl) (by rw [zg_1 h]; simp [zu])
theorem zg_p4_0 {B : zB} {s : zS} {t : zL} {k : Nat} {v : Int32} (h : zk k = 4) : va_up (zg B s t) k (.inr (4, [.int (s k 0), .int (s k 1), .int (s k 2), .int (s k 3)].set 0 (.int v))) = zg B (zu s k 0 v) t := zg_up (fun q hq => zu_row s v hq) (fun _ _ => rfl) (by rw [zg_4 h]; simp [zu])
theorem zg_p4_1 {B : zB} {s : zS} {t : zL} {k : Nat} {v : Int32} (h : zk k = 4) : va_up (zg B s t) k (.inr (4, [.int (s k 0), .int (s k 1), .int (s k 2), .int (s k 3)].set 1 (.int v))) = zg B (zu s k 1 v) t := zg_up (fun q hq => zu_row s v hq) (fun _ _ => rfl) (by rw [zg_4 h]; simp [zu])
theorem zg_p4_2 {B : zB} {s : zS} {t : zL} {k : Nat} {v : Int32} (h : zk k = 4) : va_up (zg B s t) k (.inr (4, [.int (s k 0), .int (s k 1), .int (s k 2), .int (s k 3)].set 2 (.int v))) = zg B (zu s k 2 v) t := zg_up (fun q hq => zu_row s v hq) (fun _ _ => rfl) (by rw [zg_4 h]; simp [zu])
theorem zg_p4_3 {B : zB} {s : zS} {t : zL} {k : Nat} {v : Int32} (h : zk k = 4) : va_up (zg B s t) k (.inr (4, [.int (s k 0), .int (s k 1), .int (s k 2), .int (s k 3)].set 3 (.int v))) = zg B (zu s k 3 v) t := zg_up (fun q hq => zu_row s v hq) (fun _ _ => rfl) (by rw [zg_4 h]; simp [zu])
theorem zg_p8_0 {B : zB} {s : zS} {t : zL} {k : Nat} {v : Int32} (h : zk k = 8) : va_up (zg B s t) k (.inr (8, [.int (s k 0), .int (s k 1), .int (s k 2), .int (s k 3), .int (s k 4), .int (s k 5)].set 0 (.int v))) = zg B (zu s k 0 v) t := zg_up (fun q hq => zu_row s v hq) (fun _ _ => rfl) (by rw [zg_8 h]; simp [zu])
theorem zg_p8_1 {B : zB} {s : zS} {t : zL} {k : Nat} {v : Int32} (h : zk k = 8) : va_up (zg B s t) k (.inr (8, [.int (s k 0), .int (s k 1), .int (s k 2), .int (s k 3), .int (s k 4), .int (s k 5)].set 1 (.int v))) = zg B (zu s k 1 v) t := zg_up (fun q hq => zu_row s v hq) (fun _ _ => rfl) (by rw [zg_8 h]; simp [zu])
theorem zg_p8_2 {B : zB} {s : zS} {t : zL} {k : Nat} {v : Int32} (h : zk k = 8) : va_up (zg B s t) k (.inr (8, [.int (s k 0), .int (s k 1), .int (s k 2), .int (s k 3), .int (s k 4), .int (s k 5)].set 2 (.int v))) = zg B (zu s k 2 v) t := zg_up (fun q hq => zu_row s v hq) (fun _ _ => rfl) (by rw [zg_8 h]; simp [zu])
theorem zg_p8_3 {B : zB} {s : zS} {t : zL} {k : Nat} {v : Int32} (h : zk k = 8) : va_up (zg B s t) k (.inr (8, [.int (s k 0), .int (s k 1), .int (s k 2), .int (s k 3), .int (s k 4), .int (s k 5)].set 3 (.int v))) = zg B (zu s k 3 v) t := zg_up (fun q hq => zu_row s v hq) (fun _ _ => rfl) (by rw [zg_8 h]; simp [zu])
theorem zg_p8_4 {B : zB} {s : zS} {t : zL} {k : Nat} {v : Int32} (h : zk k = 8) : va_up (zg B s t) k (.inr (8, [.int (s k 0), .int (s k 1), .int (s k 2), .int (s k 3), .int (s k 4), .int (s k 5)].set 4 (.int v))) = zg B (zu s k 4 v) t := zg_up (fun q hq => zu_row s v hq) (fun _ _ => rfl) (by rw [zg_8 h]; simp [zu])
theorem zg_p8_5 {B : zB} {s : zS} {t : zL} {k : Nat} {v : Int32} (h : zk k = 8) : va_up (zg B s t) k (.inr (8, [.int (s k 0), .int (s k 1), .int (s k 2), .int (s k 3), .int (s k 4), .int (s k 5)].set 5 (.int v))) = zg B (zu s k 5 v) t := zg_up (fun q hq => zu_row s v hq) (fun _ _ => rfl) (by rw [zg_8 h]; simp [zu])
theorem zg_p9_1 {B : zB} {s : zS} {t : zL} {k : Nat} {v : Int32} (h : zk k = 9) : va_up (zg B s t) k (.inr (9, [.ref (B.1 + (k + 1)), .int (s k 1), .int (s k 2), .int (s k 3), .int (s k 4), .int (s k 5)].set 1 (.int v))) = zg B (zu s k 1 v) t := zg_up (fun q hq => zu_row s v hq) (fun _ _ => rfl) (by rw [zg_9 h]; simp [zu])
theorem zg_p9_2 {B : zB} {s : zS} {t : zL} {k : Nat} {v : Int32} (h : zk k = 9) : va_up (zg B s t) k (.inr (9, [.ref (B.1 + (k + 1)), .int (s k 1), .int (s k 2), .int (s k 3), .int (s k 4), .int (s k 5)].set 2 (.int v))) = zg B (zu s k 2 v) t := zg_up (fun q hq => zu_row s v hq) (fun _ _ => rfl) (by rw [zg_9 h]; simp [zu])
theorem zg_p9_3 {B : zB} {s : zS} {t : zL} {k : Nat} {v : Int32} (h : zk k = 9) : va_up (zg B s t) k (.inr (9, [.ref (B.1 + (k + 1)), .int (s k 1), .int (s k 2), .int (s k 3), .int (s k 4), .int (s k 5)].set 3 (.int v))) = zg B (zu s k 3 v) t := zg_up (fun q hq => zu_row s v hq) (fun _ _ => rfl) (by rw [zg_9 h]; simp [zu])
theorem zg_p9_4 {B : zB} {s : zS} {t : zL} {k : Nat} {v : Int32} (h : zk k = 9) : va_up (zg B s t) k (.inr (9, [.ref (B.1 + (k + 1)), .int (s k 1), .int (s k 2), .int (s k 3), .int (s k 4), .int (s k 5)].set 4 (.int v))) = zg B (zu s k 4 v) t := zg_up (fun q hq => zu_row s v hq) (fun _ _ => rfl) (by rw [zg_9 h]; simp [zu])
theorem zg_p9_5 {B : zB} {s : zS} {t : zL} {k : Nat} {v : Int32} (h : zk k = 9) : va_up (zg B s t) k (.inr (9, [.ref (B.1 + (k + 1)), .int (s k 1), .int (s k 2), .int (s k 3), .int (s k 4), .int (s k 5)].set 5 (.int v))) = zg B (zu s k 5 v) t := zg_up (fun q hq => zu_row s v hq) (fun _ _ => rfl) (by rw [zg_9 h]; simp [zu])
theorem zg_p11_7 {B : zB} {s : zS} {t : zL} {k : Nat} {v : Int64} (h : zk k = 11) : va_up (zg B s t) k (.inr (11, [.ref (B.1 + 1), .ref (B.1 + 8), .ref (B.1 + 33), .ref (B.1 + 58), .ref (B.1 + 109), .ref (B.1 + 110), .ref (B.1 + 111), .long (t k 7), .long (t k 8), .int (s k 9), .int (s k 10), .int (s k 11)].set 7 (.long v))) = zg B s (zv t k 7 v) := zg_up (fun _ _ => rfl) (fun q hq => zv_row t v hq) (by rw [zg_11 h]; simp [zv])
theorem zg_p11_8 {B : zB} {s : zS} {t : zL} {k : Nat} {v : Int64} (h : zk k = 11) : va_up (zg B s t) k (.inr (11, [.ref (B.1 + 1), .ref (B.1 + 8), .ref (B.1 + 33), .ref (B.1 + 58), .ref (B.1 + 109), .ref (B.1 + 110), .ref (B.1 + 111), .long (t k 7), .long (t k 8), .int (s k 9), .int (s k 10), .int (s k 11)].set 8 (.long v))) = zg B s (zv t k 8 v) := zg_up (fun _ _ => rfl) (fun q hq => zv_row t v hq) (by rw [zg_11 h]; simp [zv])
theorem zg_p11_9 {B : zB} {s : zS} {t : zL} {k : Nat} {v : Int32} (h : zk k = 11) : va_up (zg B s t) k (.inr (11, [.ref (B.1 + 1), .ref (B.1 + 8), .ref (B.1 + 33), .ref (B.1 + 58), .ref (B.1 + 109), .ref (B.1 + 110), .ref (B.1 + 111), .long (t k 7), .long (t k 8), .int (s k 9), .int (s k 10), .int (s k 11)].set 9 (.int v))) = zg B (zu s k 9 v) t := zg_up (fun q hq => zu_row s v hq) (fun _ _ => rfl) (by rw [zg_11 h]; simp [zu])
theorem zg_p11_10 {B : zB} {s : zS} {t : zL} {k : Nat} {v : Int32} (h : zk k = 11) : va_up (zg B s t) k (.inr (11, [.ref (B.1 + 1), .ref (B.1 + 8), .ref (B.1 + 33), .ref (B.1 + 58), .ref (B.1 + 109), .ref (B.1 + 110), .ref (B.1 + 111), .long (t k 7), .long (t k 8), .int (s k 9), .int (s k 10), .int (s k 11)].set 10 (.int v))) = zg B (zu s k 10 v) t := zg_up (fun q hq => zu_row s v hq) (fun _ _ => rfl) (by rw [zg_11 h]; simp [zu])
theorem zg_p11_11 {B : zB} {s : zS} {t : zL} {k : Nat} {v : Int32} (h : zk k = 11) : va_up (zg B s t) k (.inr (11, [.ref (B.1 + 1), .ref (B.1 + 8), .ref (B.1 + 33), .ref (B.1 + 58), .ref (B.1 + 109), .ref (B.1 + 110), .ref (B.1 + 111), .long (t k 7), .long (t k 8), .int (s k 9), .int (s k 10), .int (s k 11)].set 11 (.int v))) = zg B (zu s k 11 v) t := zg_up (fun q hq => zu_row s v hq) (fun _ _ => rfl) (by rw [zg_11 h]; simp [zu])
theorem zg_p12_4 {B : zB} {s : zS} {t : zL} {k : Nat} {v : Int64} (h : zk k = 12) : va_up (zg B s t) k (.inr (12, [.ref (B.1 + 114), .ref (B.1 + 115), .ref (B.1 + 116), .ref (B.1 + 117), .long (t k 4), .long (t k 5), .ref (B.1 + 118), .ref (B.1 + 119), .ref (B.1 + 120), .int (s k 9), .int (s k 10), .ref (B.1 + 121), .int (s k 12), .int (s k 13), .int (s k 14), .int (s k 15), .int (s k 16), .ref (B.1 + 122), .ref (B.1 + 123)].set 4 (.long v))) = zg B s (zv t k 4 v) := zg_up (fun _ _ => rfl) (fun q hq => zv_row t v hq) (by rw [zg_12 h]; simp [zv])
theorem zg_p12_5 {B : zB} {s : zS} {t : zL} {k : Nat} {v : Int64} (h : zk k = 12) : va_up (zg B s t) k (.inr (12, [.ref (B.1 + 114), .ref (B.1 + 115), .ref (B.1 + 116), .ref (B.1 + 117), .long (t k 4), .long (t k 5), .ref (B.1 + 118), .ref (B.1 + 119), .ref (B.1 + 120), .int (s k 9), .int (s k 10), .ref (B.1 + 121), .int (s k 12), .int (s k 13), .int (s k 14), .int (s k 15), .int (s k 16), .ref (B.1 + 122), .ref (B.1 + 123)].set 5 (.long v))) = zg B s (zv t k 5 v) := zg_up (fun _ _ => rfl) (fun q hq => zv_row t v hq) (by rw [zg_12 h]; simp [zv])
theorem zg_p12_9 {B : zB} {s : zS} {t : zL} {k : Nat} {v : Int32} (h : zk k = 12) : va_up (zg B s t) k (.inr (12, [.ref (B.1 + 114), .ref (B.1 + 115), .ref (B.1 + 116), .ref (B.1 + 117), .long (t k 4), .long (t k 5), .ref (B.1 + 118), .ref (B.1 + 119), .ref (B.1 + 120), .int (s k 9), .int (s k 10), .ref (B.1 + 121), .int (s k 12), .int (s k 13), .int (s k 14), .int (s k 15), .int (s k 16), .ref (B.1 + 122), .ref (B.1 + 123)].set 9 (.int v))) = zg B (zu s k 9 v) t := zg_up (fun q hq => zu_row s v hq) (fun _ _ => rfl) (by rw [zg_12 h]; simp [zu])
theorem zg_p12_10 {B : zB} {s : zS} {t : zL} {k : Nat} {v : Int32} (h : zk k = 12) : va_up (zg B s t) k (.inr (12, [.ref (B.1 + 114), .ref (B.1 + 115), .ref (B.1 + 116), .ref (B.1 + 117), .long (t k 4), .long (t k 5), .ref (B.1 + 118), .ref (B.1 + 119), .ref (B.1 + 120), .int (s k 9), .int (s k 10), .ref (B.1 + 121), .int (s k 12), .int (s k 13), .int (s k 14), .int (s k 15), .int (s k 16), .ref (B.1 + 122), .ref (B.1 + 123)].set 10 (.int v))) = zg B (zu s k 10 v) t := zg_up (fun q hq => zu_row s v hq) (fun _ _ => rfl) (by rw [zg_12 h]; simp [zu])
theorem zg_p12_12 {B : zB} {s : zS} {t : zL} {k : Nat} {v : Int32} (h : zk k = 12) : va_up (zg B s t) k (.inr (12, [.ref (B.1 + 114), .ref (B.1 + 115), .ref (B.1 + 116), .ref (B.1 + 117), .long (t k 4), .long (t k 5), .ref (B.1 + 118), .ref (B.1 + 119), .ref (B.1 + 120), .int (s k 9), .int (s k 10), .ref (B.1 + 121), .int (s k 12), .int (s k 13), .int (s k 14), .int (s k 15), .int (s k 16), .ref (B.1 + 122), .ref (B.1 + 123)].set 12 (.int v))) = zg B (zu s k 12 v) t := zg_up (fun q hq => zu_row s v hq) (fun _ _ => rfl) (by rw [zg_12 h]; simp [zu])
theorem zg_p12_13 {B : zB} {s : zS} {t : zL} {k : Nat} {v : Int32} (h : zk k = 12) : va_up (zg B s t) k (.inr (12, [.ref (B.1 + 114), .ref (B.1 + 115), .ref (B.1 + 116), .ref (B.1 + 117), .long (t k 4), .long (t k 5), .ref (B.1 + 118), .ref (B.1 + 119), .ref (B.1 + 120), .int (s k 9), .int (s k 10), .ref (B.1 + 121), .int (s k 12), .int (s k 13), .int (s k 14), .int (s k 15), .int (s k 16), .ref (B.1 + 122), .ref (B.1 + 123)].set 13 (.int v))) = zg B (zu s k 13 v) t := zg_up (fun q hq => zu_row s v hq) (fun _ _ => rfl) (by rw [zg_12 h]; simp [zu])
theorem zg_p12_14 {B : zB} {s : zS} {t : zL} {k : Nat} {v : Int32} (h : zk k = 12) : va_up (zg B s t) k (.inr (12, [.ref (B.1 + 114), .ref (B.1 + 115), .ref (B.1 + 116), .ref (B.1 + 117), .long (t k 4), .long (t k 5), .ref (B.1 + 118), .ref (B.1 + 119), .ref (B.1 + 120), .int (s k 9), .int (s k 10), .ref (B.1 + 121), .int (s k 12), .int (s k 13), .int (s k 14), .int (s k 15), .int (s k 16), .ref (B.1 + 122), .ref (B.1 + 123)].set 14 (.int v))) = zg B (zu s k 14 v) t := zg_up (fun q hq => zu_row s v hq) (fun _ _ => rfl) (by rw [zg_12 h]; simp [zu])
theorem zg_p12_15 {B : zB} {s : zS} {t : zL} {k : Nat} {v : Int32} (h : zk k = 12) : va_up (zg B s t) k (.inr (12, [.ref (B.1 + 114), .ref (B.1 + 115), .ref (B.1 + 116), .ref (B.1 + 117), .long (t k 4), .long (t k 5), .ref (B.1 + 118), .ref (B.1 + 119), .ref (B.1 + 120), .int (s k 9), .int (s k 10), .ref (B.1 + 121), .int (s k 12), .int (s k 13), .int (s k 14), .int (s k 15), .int (s k 16), .ref (B.1 + 122), .ref (B.1 + 123)].set 15 (.int v))) = zg B (zu s k 15 v) t := zg_up (fun q hq => zu_row s v hq) (fun _ _ => rfl) (by rw [zg_12 h]; simp [zu])
theorem zg_p12_16 {B : zB} {s : zS} {t : zL} {k : Nat} {v : Int32} (h : zk k = 12) : va_up (zg B s t) k (.inr (12, [.ref (B.1 + 114), .ref (B.1 + 115), .ref (B.1 + 116), .ref (B.1 + 117), .long (t k 4), .long (t k 5), .ref (B.1 + 118), .ref (B.1 + 119), .ref (B.1 + 120), .int (s k 9), .int (s k 10), .ref (B.1 + 121), .int (s k 12), .int (s k 13), .int (s k 14), .int (s k 15), .int (s k 16), .ref (B.1 + 122), .ref (B.1 + 123)].set 16 (.int v))) = zg B (zu s k 16 v) t := zg_up (fun q hq => zu_row s v hq) (fun _ _ => rfl) (by rw [zg_12 h]; simp [zu])
theorem zg_p20 {B : zB} {s : zS} {t : zL} {k j : Nat} {v : Int32} (h : zk k = 20) : va_up (zg B s t) k (.inl (B.2.2.1 0, zn k, .inl (upd (s k) j v))) = zg B (zu s k j v) t := zg_up (fun q hq => zu_row s v hq) (fun _ _ => rfl) (by rw [zg_20 h, zu_upd])
theorem zg_p21 {B : zB} {s : zS} {t : zL} {k j : Nat} {v : Int32} (h : zk k = 21) : va_up (zg B s t) k (.inl (B.2.2.1 1, zn k, .inl (upd (s k) j v))) = zg B (zu s k j v) t := zg_up (fun q hq => zu_row s v hq) (fun _ _ => rfl) (by rw [zg_21 h, zu_upd])
theorem zg_p22 {B : zB} {s : zS} {t : zL} {k j : Nat} {v : Int32} (h : zk k = 22) : va_up (zg B s t) k (.inl (B.2.2.1 2, zn k, .inl (upd (s k) j v))) = zg B (zu s k j v) t := zg_up (fun q hq => zu_row s v hq) (fun _ _ => rfl) (by rw [zg_22 h, zu_upd])
/-- a method's contract over the flat store: it answers v and leaves s2, t2 -/
def zR (B : zB) (v0 : Option Value) (s2 : zS) (t2 : zL) : Option Value → Nat → (Nat → va_E) → Prop := fun v _ G => v = v0 ∧ G = zg B s2 t2
abbrev zD (l : Launch) (B : zB) (κ : zM) (s : zS) (t : zL) (as : List Value) (v0 : Option Value) (s2 : zS) (t2 : zL) : Prop := zMet l B κ 0 0 124 (zg B s t) as (zR B v0 s2 t2)
/-- the same, of what only is said -/
def zRq (B : zB) (Q : Option Value → zS → zL → Prop) : Option Value → Nat → (Nat → va_E) → Prop := fun v _ G => ∃ s2 t2, Q v s2 t2 ∧ G = zg B s2 t2
abbrev zDq (l : Launch) (B : zB) (κ : zM) (s : zS) (t : zL) (as : List Value) (Q : Option Value → zS → zL → Prop) : Prop := zMet l B κ 0 0 124 (zg B s t) as (zRq B Q)
section ZF
variable {X : zX} {B : zB} {μ : zM} {s : zS} {t : zL} {w pc : Nat} {lv : List (Nat × Value)} {st : List Value}
abbrev Zf (X : zX) (B : zB) (μ : zM) (s : zS) (t : zL) (pc : Nat) (lv : List (Nat × Value)) (st : List Value) : Prop := Z X B μ 124 (zg B s t) 0 0 pc lv st
theorem f_get0 (C : zC X B μ) {index k : Nat} (j : Nat) {v : Value} (hj : j < 4) (hm : zT (Cond.fieldLink μ.1.cls index RX0 (TX0 j).2.1 (TX0 j).2.2.1)) (hs : (TX0 j).1 = RX0) (hk : zk k = 0) (ho : k < 124) (hv : [.int (s k 0), .int (s k 1), .int (s k 2), .int (s k 3)][j]? = some v) (d : decode μ.2.1 pc = .ok (.getfield index, 3)) (kk : Zf X B μ s t (pc + 3) lv (v :: st)) : Zf X B μ s t pc lv (.ref (B.1 + k) :: st) := z_get C zc_0 rfl hj hm hs ho (zg_0 hk) hv d kk
theorem f_put0_0 (C : zC X B μ) {index k : Nat} {v : Int32} (hm : zT (Cond.fieldLink μ.1.cls index RX0 (TX0 0).2.1 (TX0 0).2.2.1)) (hk : zk k = 0) (ho : k < 124) (d : decode μ.2.1 pc = .ok (.putfield index, 3)) (kk : Zf X B μ (zu s k 0 v) t (pc + 3) lv st) : Zf X B μ s t pc lv (.int v :: .ref (B.1 + k) :: st) := z_put C (ty := .int) tyX0 tyX0_ok nmX0 zc_0 rfl (by decide) hm rfl rfl (by decide +kernel) rfl rfl ho (zg_0 hk) (Nat.le_of_ble_eq_true rfl) d (z_G (zg_p0_0 hk) kk)
theorem f_put0_1 (C : zC X B μ) {index k : Nat} {v : Int32} (hm : zT (Cond.fieldLink μ.1.cls index RX0 (TX0 1).2.1 (TX0 1).2.2.1)) (hk : zk k = 0) (ho : k < 124) (d : decode μ.2.1 pc = .ok (.putfield index, 3)) (kk : Zf X B μ (zu s k 1 v) t (pc + 3) lv st) : Zf X B μ s t pc lv (.int v :: .ref (B.1 + k) :: st) := z_put C (ty := .int) tyX0 tyX0_ok nmX0 zc_0 rfl (by decide) hm rfl rfl (by decide +kernel) rfl rfl ho (zg_0 hk) (Nat.le_of_ble_eq_true rfl) d (z_G (zg_p0_1 hk) kk)
theorem f_put0_2 (C : zC X B μ) {index k : Nat} {v : Int32} (hm : zT (Cond.fieldLink μ.1.cls index RX0 (TX0 2).2.1 (TX0 2).2.2.1)) (hk : zk k = 0) (ho : k < 124) (d : decode μ.2.1 pc = .ok (.putfield index, 3)) (kk : Zf X B μ (zu s k 2 v) t (pc + 3) lv st) : Zf X B μ s t pc lv (.int v :: .ref (B.1 + k) :: st) := z_put C (ty := .int) tyX0 tyX0_ok nmX0 zc_0 rfl (by decide) hm rfl rfl (by decide +kernel) rfl rfl ho (zg_0 hk) (Nat.le_of_ble_eq_true rfl) d (z_G (zg_p0_2 hk) kk)
theorem f_put0_3 (C : zC X B μ) {index k : Nat} {v : Int32} (hm : zT (Cond.fieldLink μ.1.cls index RX0 (TX0 3).2.1 (TX0 3).2.2.1)) (hk : zk k = 0) (ho : k < 124) (d : decode μ.2.1 pc = .ok (.putfield index, 3)) (kk : Zf X B μ (zu s k 3 v) t (pc + 3) lv st) : Zf X B μ s t pc lv (.int v :: .ref (B.1 + k) :: st) := z_put C (ty := .int) tyX0 tyX0_ok nmX0 zc_0 rfl (by decide) hm rfl rfl (by decide +kernel) rfl rfl ho (zg_0 hk) (Nat.le_of_ble_eq_true rfl) d (z_G (zg_p0_3 hk) kk)
theorem f_get1 (C : zC X B μ) {index k : Nat} (j : Nat) {v : Value} (hj : j < 7) (hm : zT (Cond.fieldLink μ.1.cls index RX1 (TX1 j).2.1 (TX1 j).2.2.1)) (hs : (TX1 j).1 = RX1) (hk : zk k = 1) (ho : k < 124) (hv : [.ref (B.1 + (k + 1)), .ref (B.1 + (k + 2)), .ref (B.1 + (k + 9)), .ref (B.1 + (k + 16)), .int (s k 4), .int (s k 5), .int (s k 6)][j]? = some v) (d : decode μ.2.1 pc = .ok (.getfield index, 3)) (kk : Zf X B μ s t (pc + 3) lv (v :: st)) : Zf X B μ s t pc lv (.ref (B.1 + k) :: st) := z_get C zc_1 rfl hj hm hs ho (zg_1 hk) hv d kk
theorem f_put1_4 (C : zC X B μ) {index k : Nat} {v : Int32} (hm : zT (Cond.fieldLink μ.1.cls index RX1 (TX1 4).2.1 (TX1 4).2.2.1)) (hk : zk k = 1) (ho : k < 124) (d : decode μ.2.1 pc = .ok (.putfield index, 3)) (kk : Zf X B μ (zu s k 4 v) t (pc + 3) lv st) : Zf X B μ s t pc lv (.int v :: .ref (B.1 + k) :: st) := z_put C (ty := .int) tyX1 tyX1_ok nmX1 zc_1 rfl (by decide) hm rfl rfl (by decide +kernel) rfl rfl ho (zg_1 hk) (Nat.le_of_ble_eq_true rfl) d (z_G (zg_p1_4 hk) kk)
theorem f_put1_5 (C : zC X B μ) {index k : Nat} {v : Int32} (hm : zT (Cond.fieldLink μ.1.cls index RX1 (TX1 5).2.1 (TX1 5).2.2.1)) (hk : zk k = 1) (ho : k < 124) (d : decode μ.2.1 pc = .ok (.putfield index, 3)) (kk : Zf X B μ (zu s k 5 v) t (pc + 3) lv st) : Zf X B μ s t pc lv (.int v :: .ref (B.1 + k) :: st) := z_put C (ty := .int) tyX1 tyX1_ok nmX1 zc_1 rfl (by decide) hm rfl rfl (by decide +kernel) rfl rfl ho (zg_1 hk) (Nat.le_of_ble_eq_true rfl) d (z_G (zg_p1_5 hk) kk)
theorem f_put1_6 (C : zC X B μ) {index k : Nat} {v : Int32} (hm : zT (Cond.fieldLink μ.1.cls index RX1 (TX1 6).2.1 (TX1 6).2.2.1)) (hk : zk k = 1) (ho : k < 124) (d : decode μ.2.1 pc = .ok (.putfield index, 3)) (kk : Zf X B μ (zu s k 6 v) t (pc + 3) lv st) : Zf X B μ s t pc lv (.int v :: .ref (B.1 + k) :: st) := z_put C (ty := .int) tyX1 tyX1_ok nmX1 zc_1 rfl (by decide) hm rfl rfl (by decide +kernel) rfl rfl ho (zg_1 hk) (Nat.le_of_ble_eq_true rfl) d (z_G (zg_p1_6 hk) kk)
theorem f_get4 (C : zC X B μ) {index k : Nat} (j : Nat) {v : Value} (hj : j < 4) (hm : zT (Cond.fieldLink μ.1.cls index RX4 (TX4 j).2.1 (TX4 j).2.2.1)) (hs : (TX4 j).1 = RX4) (hk : zk k = 4) (ho : k < 124) (hv : [.int (s k 0), .int (s k 1), .int (s k 2), .int (s k 3)][j]? = some v) (d : decode μ.2.1 pc = .ok (.getfield index, 3)) (kk : Zf X B μ s t (pc + 3) lv (v :: st)) : Zf X B μ s t pc lv (.ref (B.1 + k) :: st) := z_get C zc_4 rfl hj hm hs ho (zg_4 hk) hv d kk
theorem f_put4_0 (C : zC X B μ) {index k : Nat} {v : Int32} (hm : zT (Cond.fieldLink μ.1.cls index RX4 (TX4 0).2.1 (TX4 0).2.2.1)) (hk : zk k = 4) (ho : k < 124) (d : decode μ.2.1 pc = .ok (.putfield index, 3)) (kk : Zf X B μ (zu s k 0 v) t (pc + 3) lv st) : Zf X B μ s t pc lv (.int v :: .ref (B.1 + k) :: st) := z_put C (ty := .int) tyX4 tyX4_ok nmX4 zc_4 rfl (by decide) hm rfl rfl (by decide +kernel) rfl rfl ho (zg_4 hk) (Nat.le_of_ble_eq_true rfl) d (z_G (zg_p4_0 hk) kk)
theorem f_put4_1 (C : zC X B μ) {index k : Nat} {v : Int32} (hm : zT (Cond.fieldLink μ.1.cls index RX4 (TX4 1).2.1 (TX4 1).2.2.1)) (hk : zk k = 4) (ho : k < 124) (d : decode μ.2.1 pc = .ok (.putfield index, 3)) (kk : Zf X B μ (zu s k 1 v) t (pc + 3) lv st) : Zf X B μ s t pc lv (.int v :: .ref (B.1 + k) :: st) := z_put C (ty := .int) tyX4 tyX4_ok nmX4 zc_4 rfl (by decide) hm rfl rfl (by decide +kernel) rfl rfl ho (zg_4 hk) (Nat.le_of_ble_eq_true rfl) d (z_G (zg_p4_1 hk) kk)
theorem f_put4_2 (C : zC X B μ) {index k : Nat} {v : Int32} (hm : zT (Cond.fieldLink μ.1.cls index RX4 (TX4 2).2.1 (TX4 2).2.2.1)) (hk : zk k = 4) (ho : k < 124) (d : decode μ.2.1 pc = .ok (.putfield index, 3)) (kk : Zf X B μ (zu s k 2 v) t (pc + 3) lv st) : Zf X B μ s t pc lv (.int v :: .ref (B.1 + k) :: st) := z_put C (ty := .int) tyX4 tyX4_ok nmX4 zc_4 rfl (by decide) hm rfl rfl (by decide +kernel) rfl rfl ho (zg_4 hk) (Nat.le_of_ble_eq_true rfl) d (z_G (zg_p4_2 hk) kk)
theorem f_put4_3 (C : zC X B μ) {index k : Nat} {v : Int32} (hm : zT (Cond.fieldLink μ.1.cls index RX4 (TX4 3).2.1 (TX4 3).2.2.1)) (hk : zk k = 4) (ho : k < 124) (d : decode μ.2.1 pc = .ok (.putfield index, 3)) (kk : Zf X B μ (zu s k 3 v) t (pc + 3) lv st) : Zf X B μ s t pc lv (.int v :: .ref (B.1 + k) :: st) := z_put C (ty := .int) tyX4 tyX4_ok nmX4 zc_4 rfl (by decide) hm rfl rfl (by decide +kernel) rfl rfl ho (zg_4 hk) (Nat.le_of_ble_eq_true rfl) d (z_G (zg_p4_3 hk) kk)
theorem f_get8 (C : zC X B μ) {index k : Nat} (j : Nat) {v : Value} (hj : j < 6) (hm : zT (Cond.fieldLink μ.1.cls index RX8 (TX8 j).2.1 (TX8 j).2.2.1)) (hs : (TX8 j).1 = RX8) (hk : zk k = 8) (ho : k < 124) (hv : [.int (s k 0), .int (s k 1), .int (s k 2), .int (s k 3), .int (s k 4), .int (s k 5)][j]? = some v) (d : decode μ.2.1 pc = .ok (.getfield index, 3)) (kk : Zf X B μ s t (pc + 3) lv (v :: st)) : Zf X B μ s t pc lv (.ref (B.1 + k) :: st) := z_get C zc_8 rfl hj hm hs ho (zg_8 hk) hv d kk
theorem f_put8_0 (C : zC X B μ) {index k : Nat} {v : Int32} (hm : zT (Cond.fieldLink μ.1.cls index RX8 (TX8 0).2.1 (TX8 0).2.2.1)) (hk : zk k = 8) (ho : k < 124) (d : decode μ.2.1 pc = .ok (.putfield index, 3)) (kk : Zf X B μ (zu s k 0 v) t (pc + 3) lv st) : Zf X B μ s t pc lv (.int v :: .ref (B.1 + k) :: st) := z_put C (ty := .int) tyX8 tyX8_ok nmX8 zc_8 rfl (by decide) hm rfl rfl (by decide +kernel) rfl rfl ho (zg_8 hk) (Nat.le_of_ble_eq_true rfl) d (z_G (zg_p8_0 hk) kk)
theorem f_put8_1 (C : zC X B μ) {index k : Nat} {v : Int32} (hm : zT (Cond.fieldLink μ.1.cls index RX8 (TX8 1).2.1 (TX8 1).2.2.1)) (hk : zk k = 8) (ho : k < 124) (d : decode μ.2.1 pc = .ok (.putfield index, 3)) (kk : Zf X B μ (zu s k 1 v) t (pc + 3) lv st) : Zf X B μ s t pc lv (.int v :: .ref (B.1 + k) :: st) := z_put C (ty := .int) tyX8 tyX8_ok nmX8 zc_8 rfl (by decide) hm rfl rfl (by decide +kernel) rfl rfl ho (zg_8 hk) (Nat.le_of_ble_eq_true rfl) d (z_G (zg_p8_1 hk) kk)
theorem f_put8_2 (C : zC X B μ) {index k : Nat} {v : Int32} (hm : zT (Cond.fieldLink μ.1.cls index RX8 (TX8 2).2.1 (TX8 2).2.2.1)) (hk : zk k = 8) (ho : k < 124) (d : decode μ.2.1 pc = .ok (.putfield index, 3)) (kk : Zf X B μ (zu s k 2 v) t (pc + 3) lv st) : Zf X B μ s t pc lv (.int v :: .ref (B.1 + k) :: st) := z_put C (ty := .int) tyX8 tyX8_ok nmX8 zc_8 rfl (by decide) hm rfl rfl (by decide +kernel) rfl rfl ho (zg_8 hk) (Nat.le_of_ble_eq_true rfl) d (z_G (zg_p8_2 hk) kk)
theorem f_put8_3 (C : zC X B μ) {index k : Nat} {v : Int32} (hm : zT (Cond.fieldLink μ.1.cls index RX8 (TX8 3).2.1 (TX8 3).2.2.1)) (hk : zk k = 8) (ho : k < 124) (d : decode μ.2.1 pc = .ok (.putfield index, 3)) (kk : Zf X B μ (zu s k 3 v) t (pc + 3) lv st) : Zf X B μ s t pc lv (.int v :: .ref (B.1 + k) :: st) := z_put C (ty := .int) tyX8 tyX8_ok nmX8 zc_8 rfl (by decide) hm rfl rfl (by decide +kernel) rfl rfl ho (zg_8 hk) (Nat.le_of_ble_eq_true rfl) d (z_G (zg_p8_3 hk) kk)
theorem f_put8_4 (C : zC X B μ) {index k : Nat} {v : Int32} (hm : zT (Cond.fieldLink μ.1.cls index RX8 (TX8 4).2.1 (TX8 4).2.2.1)) (hk : zk k = 8) (ho : k < 124) (d : decode μ.2.1 pc = .ok (.putfield index, 3)) (kk : Zf X B μ (zu s k 4 v) t (pc + 3) lv st) : Zf X B μ s t pc lv (.int v :: .ref (B.1 + k) :: st) := z_put C (ty := .int) tyX8 tyX8_ok nmX8 zc_8 rfl (by decide) hm rfl rfl (by decide +kernel) rfl rfl ho (zg_8 hk) (Nat.le_of_ble_eq_true rfl) d (z_G (zg_p8_4 hk) kk)
theorem f_put8_5 (C : zC X B μ) {index k : Nat} {v : Int32} (hm : zT (Cond.fieldLink μ.1.cls index RX8 (TX8 5).2.1 (TX8 5).2.2.1)) (hk : zk k = 8) (ho : k < 124) (d : decode μ.2.1 pc = .ok (.putfield index, 3)) (kk : Zf X B μ (zu s k 5 v) t (pc + 3) lv st) : Zf X B μ s t pc lv (.int v :: .ref (B.1 + k) :: st) := z_put C (ty := .int) tyX8 tyX8_ok nmX8 zc_8 rfl (by decide) hm rfl rfl (by decide +kernel) rfl rfl ho (zg_8 hk) (Nat.le_of_ble_eq_true rfl) d (z_G (zg_p8_5 hk) kk)
theorem f_get9 (C : zC X B μ) {index k : Nat} (j : Nat) {v : Value} (hj : j < 6) (hm : zT (Cond.fieldLink μ.1.cls index RX9 (TX9 j).2.1 (TX9 j).2.2.1)) (hs : (TX9 j).1 = RX9) (hk : zk k = 9) (ho : k < 124) (hv : [.ref (B.1 + (k + 1)), .int (s k 1), .int (s k 2), .int (s k 3), .int (s k 4), .int (s k 5)][j]? = some v) (d : decode μ.2.1 pc = .ok (.getfield index, 3)) (kk : Zf X B μ s t (pc + 3) lv (v :: st)) : Zf X B μ s t pc lv (.ref (B.1 + k) :: st) := z_get C zc_9 rfl hj hm hs ho (zg_9 hk) hv d kk
theorem f_put9_1 (C : zC X B μ) {index k : Nat} {v : Int32} (hm : zT (Cond.fieldLink μ.1.cls index RX9 (TX9 1).2.1 (TX9 1).2.2.1)) (hk : zk k = 9) (ho : k < 124) (d : decode μ.2.1 pc = .ok (.putfield index, 3)) (kk : Zf X B μ (zu s k 1 v) t (pc + 3) lv st) : Zf X B μ s t pc lv (.int v :: .ref (B.1 + k) :: st) := z_put C (ty := .int) tyX9 tyX9_ok nmX9 zc_9 rfl (by decide) hm rfl rfl (by decide +kernel) rfl rfl ho (zg_9 hk) (Nat.le_of_ble_eq_true rfl) d (z_G (zg_p9_1 hk) kk)
theorem f_put9_2 (C : zC X B μ) {index k : Nat} {v : Int32} (hm : zT (Cond.fieldLink μ.1.cls index RX9 (TX9 2).2.1 (TX9 2).2.2.1)) (hk : zk k = 9) (ho : k < 124) (d : decode μ.2.1 pc = .ok (.putfield index, 3)) (kk : Zf X B μ (zu s k 2 v) t (pc + 3) lv st) : Zf X B μ s t pc lv (.int v :: .ref (B.1 + k) :: st) := z_put C (ty := .int) tyX9 tyX9_ok nmX9 zc_9 rfl (by decide) hm rfl rfl (by decide +kernel) rfl rfl ho (zg_9 hk) (Nat.le_of_ble_eq_true rfl) d (z_G (zg_p9_2 hk) kk)
theorem f_put9_3 (C : zC X B μ) {index k : Nat} {v : Int32} (hm : zT (Cond.fieldLink μ.1.cls index RX9 (TX9 3).2.1 (TX9 3).2.2.1)) (hk : zk k = 9) (ho : k < 124) (d : decode μ.2.1 pc = .ok (.putfield index, 3)) (kk : Zf X B μ (zu s k 3 v) t (pc + 3) lv st) : Zf X B μ s t pc lv (.int v :: .ref (B.1 + k) :: st) := z_put C (ty := .int) tyX9 tyX9_ok nmX9 zc_9 rfl (by decide) hm rfl rfl (by decide +kernel) rfl rfl ho (zg_9 hk) (Nat.le_of_ble_eq_true rfl) d (z_G (zg_p9_3 hk) kk)
theorem f_put9_4 (C : zC X B μ) {index k : Nat} {v : Int32} (hm : zT (Cond.fieldLink μ.1.cls index RX9 (TX9 4).2.1 (TX9 4).2.2.1)) (hk : zk k = 9) (ho : k < 124) (d : decode μ.2.1 pc = .ok (.putfield index, 3)) (kk : Zf X B μ (zu s k 4 v) t (pc + 3) lv st) : Zf X B μ s t pc lv (.int v :: .ref (B.1 + k) :: st) := z_put C (ty := .int) tyX9 tyX9_ok nmX9 zc_9 rfl (by decide) hm rfl rfl (by decide +kernel) rfl rfl ho (zg_9 hk) (Nat.le_of_ble_eq_true rfl) d (z_G (zg_p9_4 hk) kk)
theorem f_put9_5 (C : zC X B μ) {index k : Nat} {v : Int32} (hm : zT (Cond.fieldLink μ.1.cls index RX9 (TX9 5).2.1 (TX9 5).2.2.1)) (hk : zk k = 9) (ho : k < 124) (d : decode μ.2.1 pc = .ok (.putfield index, 3)) (kk : Zf X B μ (zu s k 5 v) t (pc + 3) lv st) : Zf X B μ s t pc lv (.int v :: .ref (B.1 + k) :: st) := z_put C (ty := .int) tyX9 tyX9_ok nmX9 zc_9 rfl (by decide) hm rfl rfl (by decide +kernel) rfl rfl ho (zg_9 hk) (Nat.le_of_ble_eq_true rfl) d (z_G (zg_p9_5 hk) kk)
theorem f_get11 (C : zC X B μ) {index k : Nat} (j : Nat) {v : Value} (hj : j < 12) (hm : zT (Cond.fieldLink μ.1.cls index RX11 (TX11 j).2.1 (TX11 j).2.2.1)) (hs : (TX11 j).1 = RX11) (hk : zk k = 11) (ho : k < 124) (hv : [.ref (B.1 + 1), .ref (B.1 + 8), .ref (B.1 + 33), .ref (B.1 + 58), .ref (B.1 + 109), .ref (B.1 + 110), .ref (B.1 + 111), .long (t k 7), .long (t k 8), .int (s k 9), .int (s k 10), .int (s k 11)][j]? = some v) (d : decode μ.2.1 pc = .ok (.getfield index, 3)) (kk : Zf X B μ s t (pc + 3) lv (v :: st)) : Zf X B μ s t pc lv (.ref (B.1 + k) :: st) := z_get C zc_11 rfl hj hm hs ho (zg_11 hk) hv d kk
theorem f_put11_7 (C : zC X B μ) {index k : Nat} {v : Int64} (hm : zT (Cond.fieldLink μ.1.cls index RX11 (TX11 7).2.1 (TX11 7).2.2.1)) (hk : zk k = 11) (ho : k < 124) (d : decode μ.2.1 pc = .ok (.putfield index, 3)) (kk : Zf X B μ s (zv t k 7 v) (pc + 3) lv st) : Zf X B μ s t pc lv (.long v :: .ref (B.1 + k) :: st) := z_put C (ty := .long) tyX11 tyX11_ok nmX11 zc_11 rfl (by decide) hm rfl rfl (by decide +kernel) rfl rfl ho (zg_11 hk) (Nat.le_of_ble_eq_true rfl) d (z_G (zg_p11_7 hk) kk)
theorem f_put11_8 (C : zC X B μ) {index k : Nat} {v : Int64} (hm : zT (Cond.fieldLink μ.1.cls index RX11 (TX11 8).2.1 (TX11 8).2.2.1)) (hk : zk k = 11) (ho : k < 124) (d : decode μ.2.1 pc = .ok (.putfield index, 3)) (kk : Zf X B μ s (zv t k 8 v) (pc + 3) lv st) : Zf X B μ s t pc lv (.long v :: .ref (B.1 + k) :: st) := z_put C (ty := .long) tyX11 tyX11_ok nmX11 zc_11 rfl (by decide) hm rfl rfl (by decide +kernel) rfl rfl ho (zg_11 hk) (Nat.le_of_ble_eq_true rfl) d (z_G (zg_p11_8 hk) kk)
theorem f_put11_9 (C : zC X B μ) {index k : Nat} {v : Int32} (hm : zT (Cond.fieldLink μ.1.cls index RX11 (TX11 9).2.1 (TX11 9).2.2.1)) (hk : zk k = 11) (ho : k < 124) (d : decode μ.2.1 pc = .ok (.putfield index, 3)) (kk : Zf X B μ (zu s k 9 v) t (pc + 3) lv st) : Zf X B μ s t pc lv (.int v :: .ref (B.1 + k) :: st) := z_put C (ty := .int) tyX11 tyX11_ok nmX11 zc_11 rfl (by decide) hm rfl rfl (by decide +kernel) rfl rfl ho (zg_11 hk) (Nat.le_of_ble_eq_true rfl) d (z_G (zg_p11_9 hk) kk)
theorem f_put11_10 (C : zC X B μ) {index k : Nat} {v : Int32} (hm : zT (Cond.fieldLink μ.1.cls index RX11 (TX11 10).2.1 (TX11 10).2.2.1)) (hk : zk k = 11) (ho : k < 124) (d : decode μ.2.1 pc = .ok (.putfield index, 3)) (kk : Zf X B μ (zu s k 10 v) t (pc + 3) lv st) : Zf X B μ s t pc lv (.int v :: .ref (B.1 + k) :: st) := z_put C (ty := .int) tyX11 tyX11_ok nmX11 zc_11 rfl (by decide) hm rfl rfl (by decide +kernel) rfl rfl ho (zg_11 hk) (Nat.le_of_ble_eq_true rfl) d (z_G (zg_p11_10 hk) kk)
theorem f_put11_11 (C : zC X B μ) {index k : Nat} {v : Int32} (hm : zT (Cond.fieldLink μ.1.cls index RX11 (TX11 11).2.1 (TX11 11).2.2.1)) (hk : zk k = 11) (ho : k < 124) (d : decode μ.2.1 pc = .ok (.putfield index, 3)) (kk : Zf X B μ (zu s k 11 v) t (pc + 3) lv st) : Zf X B μ s t pc lv (.int v :: .ref (B.1 + k) :: st) := z_put C (ty := .int) tyX11 tyX11_ok nmX11 zc_11 rfl (by decide) hm rfl rfl (by decide +kernel) rfl rfl ho (zg_11 hk) (Nat.le_of_ble_eq_true rfl) d (z_G (zg_p11_11 hk) kk)
theorem f_get12 (C : zC X B μ) {index k : Nat} (j : Nat) {v : Value} (hj : j < 19) (hm : zT (Cond.fieldLink μ.1.cls index RX12 (TX12 j).2.1 (TX12 j).2.2.1)) (hs : (TX12 j).1 = RX12) (hk : zk k = 12) (ho : k < 124) (hv : [.ref (B.1 + 114), .ref (B.1 + 115), .ref (B.1 + 116), .ref (B.1 + 117), .long (t k 4), .long (t k 5), .ref (B.1 + 118), .ref (B.1 + 119), .ref (B.1 + 120), .int (s k 9), .int (s k 10), .ref (B.1 + 121), .int (s k 12), .int (s k 13), .int (s k 14), .int (s k 15), .int (s k 16), .ref (B.1 + 122), .ref (B.1 + 123)][j]? = some v) (d : decode μ.2.1 pc = .ok (.getfield index, 3)) (kk : Zf X B μ s t (pc + 3) lv (v :: st)) : Zf X B μ s t pc lv (.ref (B.1 + k) :: st) := z_get C zc_12 rfl hj hm hs ho (zg_12 hk) hv d kk
theorem f_put12_4 (C : zC X B μ) {index k : Nat} {v : Int64} (hm : zT (Cond.fieldLink μ.1.cls index RX12 (TX12 4).2.1 (TX12 4).2.2.1)) (hk : zk k = 12) (ho : k < 124) (d : decode μ.2.1 pc = .ok (.putfield index, 3)) (kk : Zf X B μ s (zv t k 4 v) (pc + 3) lv st) : Zf X B μ s t pc lv (.long v :: .ref (B.1 + k) :: st) := z_put C (ty := .long) tyX12 tyX12_ok nmX12 zc_12 rfl (by decide) hm rfl rfl (by decide +kernel) rfl rfl ho (zg_12 hk) (Nat.le_of_ble_eq_true rfl) d (z_G (zg_p12_4 hk) kk)
theorem f_put12_5 (C : zC X B μ) {index k : Nat} {v : Int64} (hm : zT (Cond.fieldLink μ.1.cls index RX12 (TX12 5).2.1 (TX12 5).2.2.1)) (hk : zk k = 12) (ho : k < 124) (d : decode μ.2.1 pc = .ok (.putfield index, 3)) (kk : Zf X B μ s (zv t k 5 v) (pc + 3) lv st) : Zf X B μ s t pc lv (.long v :: .ref (B.1 + k) :: st) := z_put C (ty := .long) tyX12 tyX12_ok nmX12 zc_12 rfl (by decide) hm rfl rfl (by decide +kernel) rfl rfl ho (zg_12 hk) (Nat.le_of_ble_eq_true rfl) d (z_G (zg_p12_5 hk) kk)
theorem f_put12_9 (C : zC X B μ) {index k : Nat} {v : Int32} (hm : zT (Cond.fieldLink μ.1.cls index RX12 (TX12 9).2.1 (TX12 9).2.2.1)) (hk : zk k = 12) (ho : k < 124) (d : decode μ.2.1 pc = .ok (.putfield index, 3)) (kk : Zf X B μ (zu s k 9 v) t (pc + 3) lv st) : Zf X B μ s t pc lv (.int v :: .ref (B.1 + k) :: st) := z_put C (ty := .int) tyX12 tyX12_ok nmX12 zc_12 rfl (by decide) hm rfl rfl (by decide +kernel) rfl rfl ho (zg_12 hk) (Nat.le_of_ble_eq_true rfl) d (z_G (zg_p12_9 hk) kk)
theorem f_put12_10 (C : zC X B μ) {index k : Nat} {v : Int32} (hm : zT (Cond.fieldLink μ.1.cls index RX12 (TX12 10).2.1 (TX12 10).2.2.1)) (hk : zk k = 12) (ho : k < 124) (d : decode μ.2.1 pc = .ok (.putfield index, 3)) (kk : Zf X B μ (zu s k 10 v) t (pc + 3) lv st) : Zf X B μ s t pc lv (.int v :: .ref (B.1 + k) :: st) := z_put C (ty := .int) tyX12 tyX12_ok nmX12 zc_12 rfl (by decide) hm rfl rfl (by decide +kernel) rfl rfl ho (zg_12 hk) (Nat.le_of_ble_eq_true rfl) d (z_G (zg_p12_10 hk) kk)
theorem f_put12_12 (C : zC X B μ) {index k : Nat} {v : Int32} (hm : zT (Cond.fieldLink μ.1.cls index RX12 (TX12 12).2.1 (TX12 12).2.2.1)) (hk : zk k = 12) (ho : k < 124) (d : decode μ.2.1 pc = .ok (.putfield index, 3)) (kk : Zf X B μ (zu s k 12 v) t (pc + 3) lv st) : Zf X B μ s t pc lv (.int v :: .ref (B.1 + k) :: st) := z_put C (ty := .int) tyX12 tyX12_ok nmX12 zc_12 rfl (by decide) hm rfl rfl (by decide +kernel) rfl rfl ho (zg_12 hk) (Nat.le_of_ble_eq_true rfl) d (z_G (zg_p12_12 hk) kk)
theorem f_put12_13 (C : zC X B μ) {index k : Nat} {v : Int32} (hm : zT (Cond.fieldLink μ.1.cls index RX12 (TX12 13).2.1 (TX12 13).2.2.1)) (hk : zk k = 12) (ho : k < 124) (d : decode μ.2.1 pc = .ok (.putfield index, 3)) (kk : Zf X B μ (zu s k 13 v) t (pc + 3) lv st) : Zf X B μ s t pc lv (.int v :: .ref (B.1 + k) :: st) := z_put C (ty := .int) tyX12 tyX12_ok nmX12 zc_12 rfl (by decide) hm rfl rfl (by decide +kernel) rfl rfl ho (zg_12 hk) (Nat.le_of_ble_eq_true rfl) d (z_G (zg_p12_13 hk) kk)
theorem f_put12_14 (C : zC X B μ) {index k : Nat} {v : Int32} (hm : zT (Cond.fieldLink μ.1.cls index RX12 (TX12 14).2.1 (TX12 14).2.2.1)) (hk : zk k = 12) (ho : k < 124) (d : decode μ.2.1 pc = .ok (.putfield index, 3)) (kk : Zf X B μ (zu s k 14 v) t (pc + 3) lv st) : Zf X B μ s t pc lv (.int v :: .ref (B.1 + k) :: st) := z_put C (ty := .int) tyX12 tyX12_ok nmX12 zc_12 rfl (by decide) hm rfl rfl (by decide +kernel) rfl rfl ho (zg_12 hk) (Nat.le_of_ble_eq_true rfl) d (z_G (zg_p12_14 hk) kk)
theorem f_put12_15 (C : zC X B μ) {index k : Nat} {v : Int32} (hm : zT (Cond.fieldLink μ.1.cls index RX12 (TX12 15).2.1 (TX12 15).2.2.1)) (hk : zk k = 12) (ho : k < 124) (d : decode μ.2.1 pc = .ok (.putfield index, 3)) (kk : Zf X B μ (zu s k 15 v) t (pc + 3) lv st) : Zf X B μ s t pc lv (.int v :: .ref (B.1 + k) :: st) := z_put C (ty := .int) tyX12 tyX12_ok nmX12 zc_12 rfl (by decide) hm rfl rfl (by decide +kernel) rfl rfl ho (zg_12 hk) (Nat.le_of_ble_eq_true rfl) d (z_G (zg_p12_15 hk) kk)
theorem f_put12_16 (C : zC X B μ) {index k : Nat} {v : Int32} (hm : zT (Cond.fieldLink μ.1.cls index RX12 (TX12 16).2.1 (TX12 16).2.2.1)) (hk : zk k = 12) (ho : k < 124) (d : decode μ.2.1 pc = .ok (.putfield index, 3)) (kk : Zf X B μ (zu s k 16 v) t (pc + 3) lv st) : Zf X B μ s t pc lv (.int v :: .ref (B.1 + k) :: st) := z_put C (ty := .int) tyX12 tyX12_ok nmX12 zc_12 rfl (by decide) hm rfl rfl (by decide +kernel) rfl rfl ho (zg_12 hk) (Nat.le_of_ble_eq_true rfl) d (z_G (zg_p12_16 hk) kk)
theorem f_iald (C : zC X B μ) {k : Nat} {i : Int32} (hk : zk k = 20) (ho : k < 124) (hi : vp_in i (zn k)) (d : decode μ.2.1 pc = .ok (.iaload, 1)) (kk : Zf X B μ s t (pc + 1) lv (.int (s k i.toNatClampNeg) :: st)) : Zf X B μ s t pc lv (.int i :: .ref (B.1 + k) :: st) := z_iald C ho (zg_20 hk) hi d kk
theorem f_iast (C : zC X B μ) {k : Nat} {i v : Int32} (hk : zk k = 20) (ho : k < 124) (hi : vp_in i (zn k)) (d : decode μ.2.1 pc = .ok (.iastore, 1)) (kk : Zf X B μ (zu s k i.toNatClampNeg v) t (pc + 1) lv st) : Zf X B μ s t pc lv (.int v :: .int i :: .ref (B.1 + k) :: st) := z_iast C ho (zg_20 hk) hi d (z_G (zg_p20 hk) kk)
theorem f_bald (C : zC X B μ) {k : Nat} {i : Int32} (hk : zk k = 21) (ho : k < 124) (hi : vp_in i (zn k)) (d : decode μ.2.1 pc = .ok (.baload, 1)) (kk : Zf X B μ s t (pc + 1) lv (.int (s k i.toNatClampNeg) :: st)) : Zf X B μ s t pc lv (.int i :: .ref (B.1 + k) :: st) := z_bald C ho (zg_21 hk) hi d kk
theorem f_bast (C : zC X B μ) {k : Nat} {i v : Int32} (hk : zk k = 21) (ho : k < 124) (hi : vp_in i (zn k)) (d : decode μ.2.1 pc = .ok (.bastore, 1)) (kk : Zf X B μ (zu s k i.toNatClampNeg (vp_nar .byte v)) t (pc + 1) lv st) : Zf X B μ s t pc lv (.int v :: .int i :: .ref (B.1 + k) :: st) := z_bast C ho (zg_21 hk) hi d (z_G (zg_p21 hk) kk)
theorem f_zald (C : zC X B μ) {k : Nat} {i : Int32} (hk : zk k = 22) (ho : k < 124) (hi : vp_in i (zn k)) (d : decode μ.2.1 pc = .ok (.baload, 1)) (kk : Zf X B μ s t (pc + 1) lv (.int (s k i.toNatClampNeg) :: st)) : Zf X B μ s t pc lv (.int i :: .ref (B.1 + k) :: st) := z_zald C ho (zg_22 hk) hi d kk
theorem f_zast (C : zC X B μ) {k : Nat} {i v : Int32} (hk : zk k = 22) (ho : k < 124) (hi : vp_in i (zn k)) (d : decode μ.2.1 pc = .ok (.bastore, 1)) (kk : Zf X B μ (zu s k i.toNatClampNeg (vp_nar .boolean v)) t (pc + 1) lv st) : Zf X B μ s t pc lv (.int v :: .int i :: .ref (B.1 + k) :: st) := z_zast C ho (zg_22 hk) hi d (z_G (zg_p22 hk) kk)
theorem f_alen20 (C : zC X B μ) {k : Nat} {v : Int32} (hk : zk k = 20) (ho : k < 124) (hv : Int32.ofNat (zn k) = v) (d : decode μ.2.1 pc = .ok (.arraylength, 1)) (kk : Zf X B μ s t (pc + 1) lv (.int v :: st)) : Zf X B μ s t pc lv (.ref (B.1 + k) :: st) := z_alen C 0 (ty := .int) ho (zg_20 hk) rfl hv d kk
theorem f_alen21 (C : zC X B μ) {k : Nat} {v : Int32} (hk : zk k = 21) (ho : k < 124) (hv : Int32.ofNat (zn k) = v) (d : decode μ.2.1 pc = .ok (.arraylength, 1)) (kk : Zf X B μ s t (pc + 1) lv (.int v :: st)) : Zf X B μ s t pc lv (.ref (B.1 + k) :: st) := z_alen C 1 (ty := .byte) ho (zg_21 hk) rfl hv d kk
theorem f_alen22 (C : zC X B μ) {k : Nat} {v : Int32} (hk : zk k = 22) (ho : k < 124) (hv : Int32.ofNat (zn k) = v) (d : decode μ.2.1 pc = .ok (.arraylength, 1)) (kk : Zf X B μ s t (pc + 1) lv (.int v :: st)) : Zf X B μ s t pc lv (.ref (B.1 + k) :: st) := z_alen C 2 (ty := .boolean) ho (zg_22 hk) rfl hv d kk
theorem f_alen23 (C : zC X B μ) {k : Nat} {v : Int32} (hk : zk k = 23) (ho : k < 124) (hv : Int32.ofNat (zn k) = v) (d : decode μ.2.1 pc = .ok (.arraylength, 1)) (kk : Zf X B μ s t (pc + 1) lv (.int v :: st)) : Zf X B μ s t pc lv (.ref (B.1 + k) :: st) := z_alen C 3 (ty := .object RX0) ho (zg_23 hk) rfl hv d kk
theorem f_alen24 (C : zC X B μ) {k : Nat} {v : Int32} (hk : zk k = 24) (ho : k < 124) (hv : Int32.ofNat (zn k) = v) (d : decode μ.2.1 pc = .ok (.arraylength, 1)) (kk : Zf X B μ s t (pc + 1) lv (.int v :: st)) : Zf X B μ s t pc lv (.ref (B.1 + k) :: st) := z_alen C 4 (ty := .object RX1) ho (zg_24 hk) rfl hv d kk
theorem f_alen25 (C : zC X B μ) {k : Nat} {v : Int32} (hk : zk k = 25) (ho : k < 124) (hv : Int32.ofNat (zn k) = v) (d : decode μ.2.1 pc = .ok (.arraylength, 1)) (kk : Zf X B μ s t (pc + 1) lv (.int v :: st)) : Zf X B μ s t pc lv (.ref (B.1 + k) :: st) := z_alen C 5 (ty := .object RX4) ho (zg_25 hk) rfl hv d kk
theorem f_alen26 (C : zC X B μ) {k : Nat} {v : Int32} (hk : zk k = 26) (ho : k < 124) (hv : Int32.ofNat (zn k) = v) (d : decode μ.2.1 pc = .ok (.arraylength, 1)) (kk : Zf X B μ s t (pc + 1) lv (.int v :: st)) : Zf X B μ s t pc lv (.ref (B.1 + k) :: st) := z_alen C 6 (ty := .object RX5) ho (zg_26 hk) rfl hv d kk
theorem f_alen27 (C : zC X B μ) {k : Nat} {v : Int32} (hk : zk k = 27) (ho : k < 124) (hv : Int32.ofNat (zn k) = v) (d : decode μ.2.1 pc = .ok (.arraylength, 1)) (kk : Zf X B μ s t (pc + 1) lv (.int v :: st)) : Zf X B μ s t pc lv (.ref (B.1 + k) :: st) := z_alen C 7 (ty := .object RX8) ho (zg_27 hk) rfl hv d kk
theorem f_aald23 (C : zC X B μ) {k : Nat} {i : Int32} (hk : zk k = 23) (ho : k < 124) (hi : vp_in i (zn k)) (d : decode μ.2.1 pc = .ok (.aaload, 1)) (kk : Zf X B μ s t (pc + 1) lv (.ref (B.1 + (k + 1 + i.toNatClampNeg)) :: st)) : Zf X B μ s t pc lv (.int i :: .ref (B.1 + k) :: st) := z_aald C 3 ho (zg_23 hk) rfl hi rfl d kk
theorem f_aald25 (C : zC X B μ) {k : Nat} {i : Int32} (hk : zk k = 25) (ho : k < 124) (hi : vp_in i (zn k)) (d : decode μ.2.1 pc = .ok (.aaload, 1)) (kk : Zf X B μ s t (pc + 1) lv (.ref (B.1 + (k + 1 + i.toNatClampNeg)) :: st)) : Zf X B μ s t pc lv (.int i :: .ref (B.1 + k) :: st) := z_aald C 5 ho (zg_25 hk) rfl hi rfl d kk
theorem f_aald26 (C : zC X B μ) {k : Nat} {i : Int32} (hk : zk k = 26) (ho : k < 124) (hi : vp_in i (zn k)) (d : decode μ.2.1 pc = .ok (.aaload, 1)) (kk : Zf X B μ s t (pc + 1) lv (.ref (B.1 + (k + 1 + i.toNatClampNeg)) :: st)) : Zf X B μ s t pc lv (.int i :: .ref (B.1 + k) :: st) := z_aald C 6 ho (zg_26 hk) rfl hi rfl d kk
theorem f_aald27 (C : zC X B μ) {k : Nat} {i : Int32} (hk : zk k = 27) (ho : k < 124) (hi : vp_in i (zn k)) (d : decode μ.2.1 pc = .ok (.aaload, 1)) (kk : Zf X B μ s t (pc + 1) lv (.ref (B.1 + (k + 1 + i.toNatClampNeg)) :: st)) : Zf X B μ s t pc lv (.int i :: .ref (B.1 + k) :: st) := z_aald C 7 ho (zg_27 hk) rfl hi rfl d kk
theorem f_aald24 (C : zC X B μ) {k : Nat} {i : Int32} (hk : zk k = 24) (ho : k < 124) (hi : vp_in i (zn k)) (d : decode μ.2.1 pc = .ok (.aaload, 1)) (kk : Zf X B μ s t (pc + 1) lv (.ref (B.1 + (k + 1 + 25 * i.toNatClampNeg)) :: st)) : Zf X B μ s t pc lv (.int i :: .ref (B.1 + k) :: st) := z_aald C 4 ho (zg_24 hk) rfl hi rfl d kk
theorem f_aaldL23 (C : zC X B μ) {k : Nat} {i : Int32} (hk : zk k = 23) (ho : k < 124) (hi : vp_in i (zn k)) {r : Nat} (hr : k + 1 + i.toNatClampNeg = r) (d : decode μ.2.1 pc = .ok (.aaload, 1)) (kk : Zf X B μ s t (pc + 1) lv (.ref (B.1 + r) :: st)) : Zf X B μ s t pc lv (.int i :: .ref (B.1 + k) :: st) := f_aald23 C hk ho hi d (by rw [hr]; exact kk)
theorem f_aaldL25 (C : zC X B μ) {k : Nat} {i : Int32} (hk : zk k = 25) (ho : k < 124) (hi : vp_in i (zn k)) {r : Nat} (hr : k + 1 + i.toNatClampNeg = r) (d : decode μ.2.1 pc = .ok (.aaload, 1)) (kk : Zf X B μ s t (pc + 1) lv (.ref (B.1 + r) :: st)) : Zf X B μ s t pc lv (.int i :: .ref (B.1 + k) :: st) := f_aald25 C hk ho hi d (by rw [hr]; exact kk)
theorem f_aaldL26 (C : zC X B μ) {k : Nat} {i : Int32} (hk : zk k = 26) (ho : k < 124) (hi : vp_in i (zn k)) {r : Nat} (hr : k + 1 + i.toNatClampNeg = r) (d : decode μ.2.1 pc = .ok (.aaload, 1)) (kk : Zf X B μ s t (pc + 1) lv (.ref (B.1 + r) :: st)) : Zf X B μ s t pc lv (.int i :: .ref (B.1 + k) :: st) := f_aald26 C hk ho hi d (by rw [hr]; exact kk)
theorem f_aaldL27 (C : zC X B μ) {k : Nat} {i : Int32} (hk : zk k = 27) (ho : k < 124) (hi : vp_in i (zn k)) {r : Nat} (hr : k + 1 + i.toNatClampNeg = r) (d : decode μ.2.1 pc = .ok (.aaload, 1)) (kk : Zf X B μ s t (pc + 1) lv (.ref (B.1 + r) :: st)) : Zf X B μ s t pc lv (.int i :: .ref (B.1 + k) :: st) := f_aald27 C hk ho hi d (by rw [hr]; exact kk)
theorem f_aaldL24 (C : zC X B μ) {k : Nat} {i : Int32} (hk : zk k = 24) (ho : k < 124) (hi : vp_in i (zn k)) {r : Nat} (hr : k + 1 + 25 * i.toNatClampNeg = r) (d : decode μ.2.1 pc = .ok (.aaload, 1)) (kk : Zf X B μ s t (pc + 1) lv (.ref (B.1 + r) :: st)) : Zf X B μ s t pc lv (.int i :: .ref (B.1 + k) :: st) := f_aald24 C hk ho hi d (by rw [hr]; exact kk)
theorem f_ialdL (C : zC X B μ) {k : Nat} {i : Int32} (hk : zk k = 20) (ho : k < 124) (hi : vp_in i (zn k)) {j : Nat} (hj : i.toNatClampNeg = j) (d : decode μ.2.1 pc = .ok (.iaload, 1)) (kk : Zf X B μ s t (pc + 1) lv (.int (s k j) :: st)) : Zf X B μ s t pc lv (.int i :: .ref (B.1 + k) :: st) := f_iald C hk ho hi d (by rw [hj]; exact kk)
theorem f_iastL (C : zC X B μ) {k : Nat} {i v : Int32} (hk : zk k = 20) (ho : k < 124) (hi : vp_in i (zn k)) {j : Nat} (hj : i.toNatClampNeg = j) (d : decode μ.2.1 pc = .ok (.iastore, 1)) (kk : Zf X B μ (zu s k j v) t (pc + 1) lv st) : Zf X B μ s t pc lv (.int v :: .int i :: .ref (B.1 + k) :: st) := f_iast C hk ho hi d (by rw [hj]; exact kk)
theorem f_baldL (C : zC X B μ) {k : Nat} {i : Int32} (hk : zk k = 21) (ho : k < 124) (hi : vp_in i (zn k)) {j : Nat} (hj : i.toNatClampNeg = j) (d : decode μ.2.1 pc = .ok (.baload, 1)) (kk : Zf X B μ s t (pc + 1) lv (.int (s k j) :: st)) : Zf X B μ s t pc lv (.int i :: .ref (B.1 + k) :: st) := f_bald C hk ho hi d (by rw [hj]; exact kk)
theorem f_bastL (C : zC X B μ) {k : Nat} {i v : Int32} (hk : zk k = 21) (ho : k < 124) (hi : vp_in i (zn k)) {j : Nat} (hj : i.toNatClampNeg = j) (d : decode μ.2.1 pc = .ok (.bastore, 1)) (kk : Zf X B μ (zu s k j (vp_nar .byte v)) t (pc + 1) lv st) : Zf X B μ s t pc lv (.int v :: .int i :: .ref (B.1 + k) :: st) := f_bast C hk ho hi d (by rw [hj]; exact kk)
theorem f_zaldL (C : zC X B μ) {k : Nat} {i : Int32} (hk : zk k = 22) (ho : k < 124) (hi : vp_in i (zn k)) {j : Nat} (hj : i.toNatClampNeg = j) (d : decode μ.2.1 pc = .ok (.baload, 1)) (kk : Zf X B μ s t (pc + 1) lv (.int (s k j) :: st)) : Zf X B μ s t pc lv (.int i :: .ref (B.1 + k) :: st) := f_zald C hk ho hi d (by rw [hj]; exact kk)
theorem f_zastL (C : zC X B μ) {k : Nat} {i v : Int32} (hk : zk k = 22) (ho : k < 124) (hi : vp_in i (zn k)) {j : Nat} (hj : i.toNatClampNeg = j) (d : decode μ.2.1 pc = .ok (.bastore, 1)) (kk : Zf X B μ (zu s k j (vp_nar .boolean v)) t (pc + 1) lv st) : Zf X B μ s t pc lv (.int v :: .int i :: .ref (B.1 + k) :: st) := f_zast C hk ho hi d (by rw [hj]; exact kk)
theorem f_topi {n : Nat} {G : Nat → va_E} {a : Nat} {x y : Int32} (h : x = y) (k : Z X B μ n G a w pc lv (.int y :: st)) : Z X B μ n G a w pc lv (.int x :: st) := h ▸ k
theorem f_topl {n : Nat} {G : Nat → va_E} {a : Nat} {x y : Int64} (h : x = y) (k : Z X B μ n G a w pc lv (.long y :: st)) : Z X B μ n G a w pc lv (.long x :: st) := h ▸ k
theorem f_topr {n : Nat} {G : Nat → va_E} {a : Nat} {x y : Nat} (h : x = y) (k : Z X B μ n G a w pc lv (.ref (B.1 + y) :: st)) : Z X B μ n G a w pc lv (.ref (B.1 + x) :: st) := h ▸ k
theorem zCB (C : zC X B μ) {κ : zM} {index nA mc ms : Nat} (hrc : κ.2.2.2.2.cells = mc) (hrs : κ.2.2.2.2.slots = ms) (hcode : zT (.code κ.1 κ.2.1 κ.2.2.1 κ.2.2.2.1)) (hini : zT (.initialized κ.1.cls)) (hlink : zT (.methodLink μ.1.cls index κ.1)) (hd : κ.1.cls ≠ "java/lang/invoke/MethodHandle" ∧ κ.1.cls ≠ "java/lang/invoke/VarHandle" ∧ (parseMethodDescriptor κ.1.desc).map (fun d => d.parameters.length) = some nA) (hR : κ.2.2.2.2.frames + 1 ≤ μ.2.2.2.2.frames ∧ 8 + (κ.2.2.1 + 11) + κ.2.2.2.2.locals ≤ μ.2.2.2.2.locals) : CallB μ.2.2.2.2 (xS X) (xA X) μ.1.cls index κ.1 κ.2.1 κ.2.2.1 κ.2.2.2.1 (zWs κ) κ.2.2.2.2 mc ms nA := by
  refine ⟨hrc, hrs, hR.1, hR.2, fun w hw a' U hW => ?_, List.mem_cons_self, C.t hcode, C.t hini, ⟨hd.1, hd.2.1⟩, fun sig h => ?_, C.t hlink⟩
  · rw [List.mem_singleton.mp hw]
    exact word_at hW (good_of_word hcode.2) (C.t hcode)
  · have h2 := hd.2.2
    rw [h] at h2
    exact (Option.some.inj h2).symm
theorem zCN (C : zC X B μ) {κ : zM} {index nA mc ms : Nat} (hrc : κ.2.2.2.2.cells = mc) (hrs : κ.2.2.2.2.slots = ms) (hcode : zT (.code κ.1 κ.2.1 κ.2.2.1 κ.2.2.2.1)) (hini : zT (.initialized κ.1.cls)) (hlink : (μ.1.cls, index, κ.1) ∈ zNest) (hd : κ.1.cls ≠ "java/lang/invoke/MethodHandle" ∧ κ.1.cls ≠ "java/lang/invoke/VarHandle" ∧ (parseMethodDescriptor κ.1.desc).map (fun d => d.parameters.length) = some nA) (hR : κ.2.2.2.2.frames + 1 ≤ μ.2.2.2.2.frames ∧ 8 + (κ.2.2.1 + 11) + κ.2.2.2.2.locals ≤ μ.2.2.2.2.locals) : va_CN μ.2.2.2.2 (xS X) (xA X) μ.1.cls index κ.1 RX11 κ.2.1 κ.2.2.1 κ.2.2.2.1 (zWs κ) κ.2.2.2.2 mc ms nA := by
  refine ⟨⟨hrc, hrs, hR.1, hR.2, fun w hw a' U hW => ?_, List.mem_cons_self⟩, C.t hcode, C.t hini, ⟨hd.1, hd.2.1⟩, fun sig h => ?_, va_Nw.use rfl (C.2.2.2.2.2.1.2.2.2.2.2.2.1 _ hlink)⟩
  · rw [List.mem_singleton.mp hw]
    exact word_at hW (good_of_word hcode.2) (C.t hcode)
  · have h2 := hd.2.2
    rw [h] at h2
    exact (Option.some.inj h2).symm
theorem zCU (C : zC X B μ) {κ : zM} {x : MethodName} {Cn owner : String} {index nA : Nat} (hrc : κ.2.2.2.2.cells = 0) (hrs : κ.2.2.2.2.slots = 0) (hcode : zT (.code κ.1 κ.2.1 κ.2.2.1 κ.2.2.2.1)) (hini : zT (.initialized κ.1.cls)) (hlink : zT (.methodLink μ.1.cls index x)) (hsame : zT (.sameMethod x.cls owner x.name x.desc)) (hsel : zT (.selects Cn x κ.1)) (hinst : zT (.instanceMethod κ.1)) (hi0 : zT (.instanceMethod ⟨owner, x.name, x.desc⟩)) {b0 : ByteArray} {m0 : Nat} {r0 : Option FieldType} (h0 : zT (.code ⟨owner, x.name, x.desc⟩ b0 m0 r0)) (hd : owner ≠ "java/lang/invoke/MethodHandle" ∧ owner ≠ "java/lang/invoke/VarHandle" ∧ (parseMethodDescriptor x.desc).map (fun d => d.parameters.length) = some nA) (hR : κ.2.2.2.2.frames + 1 ≤ μ.2.2.2.2.frames ∧ 8 + (κ.2.2.1 + 11) + κ.2.2.2.2.locals ≤ μ.2.2.2.2.locals) : va_CU μ.2.2.2.2 (xS X) (xA X) μ.1.cls Cn owner index x κ.1 κ.2.1 κ.2.2.1 κ.2.2.2.1 (zWs κ) κ.2.2.2.2 0 0 nA := by
  refine ⟨⟨hrc, hrs, hR.1, hR.2, fun w hw a' U hW => ?_, List.mem_cons_self⟩, C.t hcode, C.t hini, ⟨hd.1, hd.2.1⟩, fun sig h => ?_, C.t hlink, C.t hsame, va_Decl.of (C.t hi0) (C.t h0), C.t hsel, C.t hinst⟩
  · rw [List.mem_singleton.mp hw]
    exact word_at hW (good_of_word hcode.2) (C.t hcode)
  · have h2 := hd.2.2
    rw [h] at h2
    exact (Option.some.inj h2).symm
theorem zCS (C : zC X B μ) {κ : zM} {index nA : Nat} (hrc : κ.2.2.2.2.cells = 0) (hrs : κ.2.2.2.2.slots = 0) (hcode : zT (.code κ.1 κ.2.1 κ.2.2.1 κ.2.2.2.1)) (hini : zT (.initialized κ.1.cls)) (hlink : zT (.methodLink μ.1.cls index κ.1)) (hsame : zT (.sameMethod κ.1.cls κ.1.cls κ.1.name κ.1.desc)) (hsup : zT (.superclass μ.1.cls κ.1.cls)) (hinst : zT (.instanceMethod κ.1)) (hd : κ.1.name ≠ "<init>" ∧ (parseMethodDescriptor κ.1.desc).map (fun d => d.parameters.length) = some nA) (hR : κ.2.2.2.2.frames + 1 ≤ μ.2.2.2.2.frames ∧ 8 + (κ.2.2.1 + 11) + κ.2.2.2.2.locals ≤ μ.2.2.2.2.locals) : va_CS μ.2.2.2.2 (xS X) (xA X) μ.1.cls index κ.1 κ.2.1 κ.2.2.1 κ.2.2.2.1 (zWs κ) κ.2.2.2.2 0 0 nA := by
  refine ⟨⟨hrc, hrs, hR.1, hR.2, fun w hw a' U hW => ?_, List.mem_cons_self⟩, C.t hlink, C.t hsame, C.t hsup, C.t hinst, C.t hini, C.t hcode, hd.1, fun sig h => ?_⟩
  · rw [List.mem_singleton.mp hw]
    exact word_at hW (good_of_word hcode.2) (C.t hcode)
  · have h2 := hd.2
    rw [h] at h2
    exact (Option.some.inj h2).symm
theorem f_callVr (C : zC X B μ) {l : Launch} (hl : X.2.1 = l) {κ : zM} {nA index : Nat} {As rest : List Value} {v0 : Value} {s2 : zS} {t2 : zL} {o : Nat} (hM : zD l B κ s t (.ref (B.1 + o) :: As) (some v0) s2 t2) {ci : Nat} {q : vw_C} {fs : List Value} (ho : o < 124) (hG : zg B s t o = .inr (ci, fs)) (hc : vwCl[ci]? = some q) (cw : CallB μ.2.2.2.2 (xS X) (xA X) μ.1.cls index κ.1 κ.2.1 κ.2.2.1 κ.2.2.2.1 (zWs κ) κ.2.2.2.2 0 0 nA) (hin : zT (.instanceMethod κ.1)) (hsel : zT (.selects q.1 κ.1 κ.1)) (hn : As.length = nA) (hst : st = As.reverse ++ .ref (B.1 + o) :: rest) (hW : (rest.map fun v => v.category).sum ≤ 8) (d : decode μ.2.1 pc = .ok (.invokevirtual index, 3)) (hw0 : w ≤ μ.2.2.2.2.slots) (kk : Z X B μ 124 (zg B s2 t2) 0 w (pc + 3) lv (v0 :: rest)) : Z X B μ 124 (zg B s t) 0 w pc lv st := by
  subst hl
  exact z_run (mc := 0) (ms := 0) (rest := rest) (fun H locs ls hls hw hS => va_runV (As := As) (rest := rest) C.fix hM ⟨cw, C.t hin, C.t hsel⟩ ⟨zPre_blind, z_recv C hw ho hG hc, zPre_at C hw hS _⟩ rfl hn hls.1 hst (lv_room hW) d ⟨Nat.zero_le _, hw0⟩) (fun v G q => by obtain ⟨rfl, rfl⟩ := q; exact kk)
theorem f_callVv (C : zC X B μ) {l : Launch} (hl : X.2.1 = l) {κ : zM} {nA index : Nat} {As rest : List Value} {s2 : zS} {t2 : zL} {o : Nat} (hM : zD l B κ s t (.ref (B.1 + o) :: As) none s2 t2) {ci : Nat} {q : vw_C} {fs : List Value} (ho : o < 124) (hG : zg B s t o = .inr (ci, fs)) (hc : vwCl[ci]? = some q) (cw : CallB μ.2.2.2.2 (xS X) (xA X) μ.1.cls index κ.1 κ.2.1 κ.2.2.1 κ.2.2.2.1 (zWs κ) κ.2.2.2.2 0 0 nA) (hin : zT (.instanceMethod κ.1)) (hsel : zT (.selects q.1 κ.1 κ.1)) (hn : As.length = nA) (hst : st = As.reverse ++ .ref (B.1 + o) :: rest) (hW : (rest.map fun v => v.category).sum ≤ 8) (d : decode μ.2.1 pc = .ok (.invokevirtual index, 3)) (hw0 : w ≤ μ.2.2.2.2.slots) (kk : Z X B μ 124 (zg B s2 t2) 0 w (pc + 3) lv rest) : Z X B μ 124 (zg B s t) 0 w pc lv st := by
  subst hl
  exact z_run (mc := 0) (ms := 0) (rest := rest) (fun H locs ls hls hw hS => va_runV (As := As) (rest := rest) C.fix hM ⟨cw, C.t hin, C.t hsel⟩ ⟨zPre_blind, z_recv C hw ho hG hc, zPre_at C hw hS _⟩ rfl hn hls.1 hst (lv_room hW) d ⟨Nat.zero_le _, hw0⟩) (fun v G q => by obtain ⟨rfl, rfl⟩ := q; exact kk)
theorem f_callVq (C : zC X B μ) {l : Launch} (hl : X.2.1 = l) {κ : zM} {nA index : Nat} {As rest : List Value} {Q : Option Value → zS → zL → Prop} {o : Nat} (hM : zDq l B κ s t (.ref (B.1 + o) :: As) Q) {ci : Nat} {q : vw_C} {fs : List Value} (ho : o < 124) (hG : zg B s t o = .inr (ci, fs)) (hc : vwCl[ci]? = some q) (cw : CallB μ.2.2.2.2 (xS X) (xA X) μ.1.cls index κ.1 κ.2.1 κ.2.2.1 κ.2.2.2.1 (zWs κ) κ.2.2.2.2 0 0 nA) (hin : zT (.instanceMethod κ.1)) (hsel : zT (.selects q.1 κ.1 κ.1)) (hn : As.length = nA) (hst : st = As.reverse ++ .ref (B.1 + o) :: rest) (hW : (rest.map fun v => v.category).sum ≤ 8) (d : decode μ.2.1 pc = .ok (.invokevirtual index, 3)) (hw0 : w ≤ μ.2.2.2.2.slots) (kk : ∀ (v0 : Option Value) (s2 : zS) (t2 : zL), Q v0 s2 t2 → Z X B μ 124 (zg B s2 t2) 0 w (pc + 3) lv (v0.toList ++ rest)) : Z X B μ 124 (zg B s t) 0 w pc lv st := by
  subst hl
  exact z_run (mc := 0) (ms := 0) (rest := rest) (fun H locs ls hls hw hS => va_runV (As := As) (rest := rest) C.fix hM ⟨cw, C.t hin, C.t hsel⟩ ⟨zPre_blind, z_recv C hw ho hG hc, zPre_at C hw hS _⟩ rfl hn hls.1 hst (lv_room hW) d ⟨Nat.zero_le _, hw0⟩) (fun v G q => by obtain ⟨s2, t2, hq, rfl⟩ := q; exact kk v s2 t2 hq)
theorem f_callUr (C : zC X B μ) {l : Launch} (hl : X.2.1 = l) {κ : zM} {nA index : Nat} {As rest : List Value} {v0 : Value} {s2 : zS} {t2 : zL} {o : Nat} (hM : zD l B κ s t (.ref (B.1 + o) :: As) (some v0) s2 t2) {ci : Nat} {q : vw_C} {fs : List Value} (ho : o < 124) (hG : zg B s t o = .inr (ci, fs)) (hc : vwCl[ci]? = some q) {x : MethodName} {owner : String} (cw : va_CU μ.2.2.2.2 (xS X) (xA X) μ.1.cls q.1 owner index x κ.1 κ.2.1 κ.2.2.1 κ.2.2.2.1 (zWs κ) κ.2.2.2.2 0 0 nA)  (hn : As.length = nA) (hst : st = As.reverse ++ .ref (B.1 + o) :: rest) (hW : (rest.map fun v => v.category).sum ≤ 8) (d : decode μ.2.1 pc = .ok (.invokevirtual index, 3)) (hw0 : w ≤ μ.2.2.2.2.slots) (kk : Z X B μ 124 (zg B s2 t2) 0 w (pc + 3) lv (v0 :: rest)) : Z X B μ 124 (zg B s t) 0 w pc lv st := by
  subst hl
  exact z_run (mc := 0) (ms := 0) (rest := rest) (fun H locs ls hls hw hS => va_runU (As := As) (rest := rest) C.fix hM cw ⟨zPre_blind, z_recv C hw ho hG hc, zPre_at C hw hS _⟩ rfl hn hls.1 hst (lv_room hW) d ⟨Nat.zero_le _, hw0⟩) (fun v G q => by obtain ⟨rfl, rfl⟩ := q; exact kk)
theorem f_callUv (C : zC X B μ) {l : Launch} (hl : X.2.1 = l) {κ : zM} {nA index : Nat} {As rest : List Value} {s2 : zS} {t2 : zL} {o : Nat} (hM : zD l B κ s t (.ref (B.1 + o) :: As) none s2 t2) {ci : Nat} {q : vw_C} {fs : List Value} (ho : o < 124) (hG : zg B s t o = .inr (ci, fs)) (hc : vwCl[ci]? = some q) {x : MethodName} {owner : String} (cw : va_CU μ.2.2.2.2 (xS X) (xA X) μ.1.cls q.1 owner index x κ.1 κ.2.1 κ.2.2.1 κ.2.2.2.1 (zWs κ) κ.2.2.2.2 0 0 nA)  (hn : As.length = nA) (hst : st = As.reverse ++ .ref (B.1 + o) :: rest) (hW : (rest.map fun v => v.category).sum ≤ 8) (d : decode μ.2.1 pc = .ok (.invokevirtual index, 3)) (hw0 : w ≤ μ.2.2.2.2.slots) (kk : Z X B μ 124 (zg B s2 t2) 0 w (pc + 3) lv rest) : Z X B μ 124 (zg B s t) 0 w pc lv st := by
  subst hl
  exact z_run (mc := 0) (ms := 0) (rest := rest) (fun H locs ls hls hw hS => va_runU (As := As) (rest := rest) C.fix hM cw ⟨zPre_blind, z_recv C hw ho hG hc, zPre_at C hw hS _⟩ rfl hn hls.1 hst (lv_room hW) d ⟨Nat.zero_le _, hw0⟩) (fun v G q => by obtain ⟨rfl, rfl⟩ := q; exact kk)
theorem f_callUq (C : zC X B μ) {l : Launch} (hl : X.2.1 = l) {κ : zM} {nA index : Nat} {As rest : List Value} {Q : Option Value → zS → zL → Prop} {o : Nat} (hM : zDq l B κ s t (.ref (B.1 + o) :: As) Q) {ci : Nat} {q : vw_C} {fs : List Value} (ho : o < 124) (hG : zg B s t o = .inr (ci, fs)) (hc : vwCl[ci]? = some q) {x : MethodName} {owner : String} (cw : va_CU μ.2.2.2.2 (xS X) (xA X) μ.1.cls q.1 owner index x κ.1 κ.2.1 κ.2.2.1 κ.2.2.2.1 (zWs κ) κ.2.2.2.2 0 0 nA)  (hn : As.length = nA) (hst : st = As.reverse ++ .ref (B.1 + o) :: rest) (hW : (rest.map fun v => v.category).sum ≤ 8) (d : decode μ.2.1 pc = .ok (.invokevirtual index, 3)) (hw0 : w ≤ μ.2.2.2.2.slots) (kk : ∀ (v0 : Option Value) (s2 : zS) (t2 : zL), Q v0 s2 t2 → Z X B μ 124 (zg B s2 t2) 0 w (pc + 3) lv (v0.toList ++ rest)) : Z X B μ 124 (zg B s t) 0 w pc lv st := by
  subst hl
  exact z_run (mc := 0) (ms := 0) (rest := rest) (fun H locs ls hls hw hS => va_runU (As := As) (rest := rest) C.fix hM cw ⟨zPre_blind, z_recv C hw ho hG hc, zPre_at C hw hS _⟩ rfl hn hls.1 hst (lv_room hW) d ⟨Nat.zero_le _, hw0⟩) (fun v G q => by obtain ⟨s2, t2, hq, rfl⟩ := q; exact kk v s2 t2 hq)
theorem f_callPr (C : zC X B μ) {l : Launch} (hl : X.2.1 = l) {κ : zM} {nA index : Nat} {As rest : List Value} {v0 : Value} {s2 : zS} {t2 : zL} {o : Nat} (hM : zD l B κ s t (.ref (B.1 + o) :: As) (some v0) s2 t2) {ci : Nat} {q : vw_C} {fs : List Value} (ho : o < 124) (hG : zg B s t o = .inr (ci, fs)) (hc : vwCl[ci]? = some q) (cw : va_CS μ.2.2.2.2 (xS X) (xA X) μ.1.cls index κ.1 κ.2.1 κ.2.2.1 κ.2.2.2.1 (zWs κ) κ.2.2.2.2 0 0 nA)  (hn : As.length = nA) (hst : st = As.reverse ++ .ref (B.1 + o) :: rest) (hW : (rest.map fun v => v.category).sum ≤ 8) (d : decode μ.2.1 pc = .ok (.invokespecial index, 3)) (hw0 : w ≤ μ.2.2.2.2.slots) (kk : Z X B μ 124 (zg B s2 t2) 0 w (pc + 3) lv (v0 :: rest)) : Z X B μ 124 (zg B s t) 0 w pc lv st := by
  subst hl
  exact z_run (mc := 0) (ms := 0) (rest := rest) (fun H locs ls hls hw hS => va_runSU (C.2.2.2.2.2.1.2.1.1 ci q hc).2 (As := As) (rest := rest) C.fix hM cw ⟨zPre_blind, z_recv C hw ho hG hc, zPre_at C hw hS _⟩ rfl hn hls.1 hst (lv_room hW) d ⟨Nat.zero_le _, hw0⟩) (fun v G q => by obtain ⟨rfl, rfl⟩ := q; exact kk)
theorem f_callPv (C : zC X B μ) {l : Launch} (hl : X.2.1 = l) {κ : zM} {nA index : Nat} {As rest : List Value} {s2 : zS} {t2 : zL} {o : Nat} (hM : zD l B κ s t (.ref (B.1 + o) :: As) none s2 t2) {ci : Nat} {q : vw_C} {fs : List Value} (ho : o < 124) (hG : zg B s t o = .inr (ci, fs)) (hc : vwCl[ci]? = some q) (cw : va_CS μ.2.2.2.2 (xS X) (xA X) μ.1.cls index κ.1 κ.2.1 κ.2.2.1 κ.2.2.2.1 (zWs κ) κ.2.2.2.2 0 0 nA)  (hn : As.length = nA) (hst : st = As.reverse ++ .ref (B.1 + o) :: rest) (hW : (rest.map fun v => v.category).sum ≤ 8) (d : decode μ.2.1 pc = .ok (.invokespecial index, 3)) (hw0 : w ≤ μ.2.2.2.2.slots) (kk : Z X B μ 124 (zg B s2 t2) 0 w (pc + 3) lv rest) : Z X B μ 124 (zg B s t) 0 w pc lv st := by
  subst hl
  exact z_run (mc := 0) (ms := 0) (rest := rest) (fun H locs ls hls hw hS => va_runSU (C.2.2.2.2.2.1.2.1.1 ci q hc).2 (As := As) (rest := rest) C.fix hM cw ⟨zPre_blind, z_recv C hw ho hG hc, zPre_at C hw hS _⟩ rfl hn hls.1 hst (lv_room hW) d ⟨Nat.zero_le _, hw0⟩) (fun v G q => by obtain ⟨rfl, rfl⟩ := q; exact kk)
theorem f_callPq (C : zC X B μ) {l : Launch} (hl : X.2.1 = l) {κ : zM} {nA index : Nat} {As rest : List Value} {Q : Option Value → zS → zL → Prop} {o : Nat} (hM : zDq l B κ s t (.ref (B.1 + o) :: As) Q) {ci : Nat} {q : vw_C} {fs : List Value} (ho : o < 124) (hG : zg B s t o = .inr (ci, fs)) (hc : vwCl[ci]? = some q) (cw : va_CS μ.2.2.2.2 (xS X) (xA X) μ.1.cls index κ.1 κ.2.1 κ.2.2.1 κ.2.2.2.1 (zWs κ) κ.2.2.2.2 0 0 nA)  (hn : As.length = nA) (hst : st = As.reverse ++ .ref (B.1 + o) :: rest) (hW : (rest.map fun v => v.category).sum ≤ 8) (d : decode μ.2.1 pc = .ok (.invokespecial index, 3)) (hw0 : w ≤ μ.2.2.2.2.slots) (kk : ∀ (v0 : Option Value) (s2 : zS) (t2 : zL), Q v0 s2 t2 → Z X B μ 124 (zg B s2 t2) 0 w (pc + 3) lv (v0.toList ++ rest)) : Z X B μ 124 (zg B s t) 0 w pc lv st := by
  subst hl
  exact z_run (mc := 0) (ms := 0) (rest := rest) (fun H locs ls hls hw hS => va_runSU (C.2.2.2.2.2.1.2.1.1 ci q hc).2 (As := As) (rest := rest) C.fix hM cw ⟨zPre_blind, z_recv C hw ho hG hc, zPre_at C hw hS _⟩ rfl hn hls.1 hst (lv_room hW) d ⟨Nat.zero_le _, hw0⟩) (fun v G q => by obtain ⟨s2, t2, hq, rfl⟩ := q; exact kk v s2 t2 hq)
theorem f_callSr (C : zC X B μ) {l : Launch} (hl : X.2.1 = l) {κ : zM} {nA index : Nat} {As rest : List Value} {v0 : Value} {s2 : zS} {t2 : zL}  (hM : zD l B κ s t (As) (some v0) s2 t2)  (cw : CallB μ.2.2.2.2 (xS X) (xA X) μ.1.cls index κ.1 κ.2.1 κ.2.2.1 κ.2.2.2.1 (zWs κ) κ.2.2.2.2 0 0 nA) (hstt : zT (.static κ.1)) (hn : As.length = nA) (hst : st = As.reverse ++ rest) (hW : (rest.map fun v => v.category).sum ≤ 8) (d : decode μ.2.1 pc = .ok (.invokestatic index, 3)) (hw0 : w ≤ μ.2.2.2.2.slots) (kk : Z X B μ 124 (zg B s2 t2) 0 w (pc + 3) lv (v0 :: rest)) : Z X B μ 124 (zg B s t) 0 w pc lv st := by
  subst hl
  exact z_run (mc := 0) (ms := 0) (rest := rest) (fun H locs ls hls hw hS => va_runS (As := As) (rest := rest) C.fix hM ⟨cw, C.t hstt⟩ ⟨zPre_blind, zPre_at C hw hS _⟩ rfl hn hls.1 hst (lv_room hW) d ⟨Nat.zero_le _, hw0⟩) (fun v G q => by obtain ⟨rfl, rfl⟩ := q; exact kk)
theorem f_callSv (C : zC X B μ) {l : Launch} (hl : X.2.1 = l) {κ : zM} {nA index : Nat} {As rest : List Value} {s2 : zS} {t2 : zL}  (hM : zD l B κ s t (As) none s2 t2)  (cw : CallB μ.2.2.2.2 (xS X) (xA X) μ.1.cls index κ.1 κ.2.1 κ.2.2.1 κ.2.2.2.1 (zWs κ) κ.2.2.2.2 0 0 nA) (hstt : zT (.static κ.1)) (hn : As.length = nA) (hst : st = As.reverse ++ rest) (hW : (rest.map fun v => v.category).sum ≤ 8) (d : decode μ.2.1 pc = .ok (.invokestatic index, 3)) (hw0 : w ≤ μ.2.2.2.2.slots) (kk : Z X B μ 124 (zg B s2 t2) 0 w (pc + 3) lv rest) : Z X B μ 124 (zg B s t) 0 w pc lv st := by
  subst hl
  exact z_run (mc := 0) (ms := 0) (rest := rest) (fun H locs ls hls hw hS => va_runS (As := As) (rest := rest) C.fix hM ⟨cw, C.t hstt⟩ ⟨zPre_blind, zPre_at C hw hS _⟩ rfl hn hls.1 hst (lv_room hW) d ⟨Nat.zero_le _, hw0⟩) (fun v G q => by obtain ⟨rfl, rfl⟩ := q; exact kk)
theorem f_callSq (C : zC X B μ) {l : Launch} (hl : X.2.1 = l) {κ : zM} {nA index : Nat} {As rest : List Value} {Q : Option Value → zS → zL → Prop}  (hM : zDq l B κ s t (As) Q)  (cw : CallB μ.2.2.2.2 (xS X) (xA X) μ.1.cls index κ.1 κ.2.1 κ.2.2.1 κ.2.2.2.1 (zWs κ) κ.2.2.2.2 0 0 nA) (hstt : zT (.static κ.1)) (hn : As.length = nA) (hst : st = As.reverse ++ rest) (hW : (rest.map fun v => v.category).sum ≤ 8) (d : decode μ.2.1 pc = .ok (.invokestatic index, 3)) (hw0 : w ≤ μ.2.2.2.2.slots) (kk : ∀ (v0 : Option Value) (s2 : zS) (t2 : zL), Q v0 s2 t2 → Z X B μ 124 (zg B s2 t2) 0 w (pc + 3) lv (v0.toList ++ rest)) : Z X B μ 124 (zg B s t) 0 w pc lv st := by
  subst hl
  exact z_run (mc := 0) (ms := 0) (rest := rest) (fun H locs ls hls hw hS => va_runS (As := As) (rest := rest) C.fix hM ⟨cw, C.t hstt⟩ ⟨zPre_blind, zPre_at C hw hS _⟩ rfl hn hls.1 hst (lv_room hW) d ⟨Nat.zero_le _, hw0⟩) (fun v G q => by obtain ⟨s2, t2, hq, rfl⟩ := q; exact kk v s2 t2 hq)
theorem f_callNr (C : zC X B μ) {l : Launch} (hl : X.2.1 = l) {κ : zM} {nA index : Nat} {As rest : List Value} {v0 : Value} {s2 : zS} {t2 : zL}  (hM : zD l B κ s t (As) (some v0) s2 t2)  (cw : va_CN μ.2.2.2.2 (xS X) (xA X) μ.1.cls index κ.1 RX11 κ.2.1 κ.2.2.1 κ.2.2.2.1 (zWs κ) κ.2.2.2.2 0 0 nA) (hstt : zT (.static κ.1)) (hn : As.length = nA) (hst : st = As.reverse ++ rest) (hW : (rest.map fun v => v.category).sum ≤ 8) (d : decode μ.2.1 pc = .ok (.invokestatic index, 3)) (hw0 : w ≤ μ.2.2.2.2.slots) (kk : Z X B μ 124 (zg B s2 t2) 0 w (pc + 3) lv (v0 :: rest)) : Z X B μ 124 (zg B s t) 0 w pc lv st := by
  subst hl
  exact z_run (mc := 0) (ms := 0) (rest := rest) (fun H locs ls hls hw hS => va_runSN (As := As) (rest := rest) C.fix hM ⟨cw, C.t hstt, trivial⟩ ⟨zPre_blind, zPre_at C hw hS _⟩ rfl hn hls.1 hst (lv_room hW) d ⟨Nat.zero_le _, hw0⟩) (fun v G q => by obtain ⟨rfl, rfl⟩ := q; exact kk)
theorem f_callNv (C : zC X B μ) {l : Launch} (hl : X.2.1 = l) {κ : zM} {nA index : Nat} {As rest : List Value} {s2 : zS} {t2 : zL}  (hM : zD l B κ s t (As) none s2 t2)  (cw : va_CN μ.2.2.2.2 (xS X) (xA X) μ.1.cls index κ.1 RX11 κ.2.1 κ.2.2.1 κ.2.2.2.1 (zWs κ) κ.2.2.2.2 0 0 nA) (hstt : zT (.static κ.1)) (hn : As.length = nA) (hst : st = As.reverse ++ rest) (hW : (rest.map fun v => v.category).sum ≤ 8) (d : decode μ.2.1 pc = .ok (.invokestatic index, 3)) (hw0 : w ≤ μ.2.2.2.2.slots) (kk : Z X B μ 124 (zg B s2 t2) 0 w (pc + 3) lv rest) : Z X B μ 124 (zg B s t) 0 w pc lv st := by
  subst hl
  exact z_run (mc := 0) (ms := 0) (rest := rest) (fun H locs ls hls hw hS => va_runSN (As := As) (rest := rest) C.fix hM ⟨cw, C.t hstt, trivial⟩ ⟨zPre_blind, zPre_at C hw hS _⟩ rfl hn hls.1 hst (lv_room hW) d ⟨Nat.zero_le _, hw0⟩) (fun v G q => by obtain ⟨rfl, rfl⟩ := q; exact kk)
theorem f_callNq (C : zC X B μ) {l : Launch} (hl : X.2.1 = l) {κ : zM} {nA index : Nat} {As rest : List Value} {Q : Option Value → zS → zL → Prop}  (hM : zDq l B κ s t (As) Q)  (cw : va_CN μ.2.2.2.2 (xS X) (xA X) μ.1.cls index κ.1 RX11 κ.2.1 κ.2.2.1 κ.2.2.2.1 (zWs κ) κ.2.2.2.2 0 0 nA) (hstt : zT (.static κ.1)) (hn : As.length = nA) (hst : st = As.reverse ++ rest) (hW : (rest.map fun v => v.category).sum ≤ 8) (d : decode μ.2.1 pc = .ok (.invokestatic index, 3)) (hw0 : w ≤ μ.2.2.2.2.slots) (kk : ∀ (v0 : Option Value) (s2 : zS) (t2 : zL), Q v0 s2 t2 → Z X B μ 124 (zg B s2 t2) 0 w (pc + 3) lv (v0.toList ++ rest)) : Z X B μ 124 (zg B s t) 0 w pc lv st := by
  subst hl
  exact z_run (mc := 0) (ms := 0) (rest := rest) (fun H locs ls hls hw hS => va_runSN (As := As) (rest := rest) C.fix hM ⟨cw, C.t hstt, trivial⟩ ⟨zPre_blind, zPre_at C hw hS _⟩ rfl hn hls.1 hst (lv_room hW) d ⟨Nat.zero_le _, hw0⟩) (fun v G q => by obtain ⟨s2, t2, hq, rfl⟩ := q; exact kk v s2 t2 hq)
end ZF
end
section
theorem kb_m10 : (Int8.ofInt (-10)).toInt32 = (-10) := by decide
theorem kb_m4 : (Int8.ofInt (-4)).toInt32 = (-4) := by decide
theorem kb_m3 : (Int8.ofInt (-3)).toInt32 = (-3) := by decide
theorem kb_m2 : (Int8.ofInt (-2)).toInt32 = (-2) := by decide
theorem kb_6 : (Int8.ofInt 6).toInt32 = 6 := by decide
theorem kb_7 : (Int8.ofInt 7).toInt32 = 7 := by decide
theorem kb_8 : (Int8.ofInt 8).toInt32 = 8 := by decide
theorem kb_9 : (Int8.ofInt 9).toInt32 = 9 := by decide
theorem kb_10 : (Int8.ofInt 10).toInt32 = 10 := by decide
theorem kb_16 : (Int8.ofInt 16).toInt32 = 16 := by decide
theorem kb_30 : (Int8.ofInt 30).toInt32 = 30 := by decide
theorem kb_32 : (Int8.ofInt 32).toInt32 = 32 := by decide
theorem kb_33 : (Int8.ofInt 33).toInt32 = 33 := by decide
theorem kb_40 : (Int8.ofInt 40).toInt32 = 40 := by decide
theorem kb_42 : (Int8.ofInt 42).toInt32 = 42 := by decide
theorem kb_48 : (Int8.ofInt 48).toInt32 = 48 := by decide
theorem kb_57 : (Int8.ofInt 57).toInt32 = 57 := by decide
theorem kb_59 : (Int8.ofInt 59).toInt32 = 59 := by decide
theorem kb_63 : (Int8.ofInt 63).toInt32 = 63 := by decide
theorem kb_97 : (Int8.ofInt 97).toInt32 = 97 := by decide
theorem kb_99 : (Int8.ofInt 99).toInt32 = 99 := by decide
theorem kb_100 : (Int8.ofInt 100).toInt32 = 100 := by decide
theorem kb_101 : (Int8.ofInt 101).toInt32 = 101 := by decide
theorem kb_104 : (Int8.ofInt 104).toInt32 = 104 := by decide
theorem kb_105 : (Int8.ofInt 105).toInt32 = 105 := by decide
theorem kb_108 : (Int8.ofInt 108).toInt32 = 108 := by decide
theorem kb_111 : (Int8.ofInt 111).toInt32 = 111 := by decide
theorem kb_112 : (Int8.ofInt 112).toInt32 = 112 := by decide
theorem kb_115 : (Int8.ofInt 115).toInt32 = 115 := by decide
theorem kb_116 : (Int8.ofInt 116).toInt32 = 116 := by decide
theorem kb_117 : (Int8.ofInt 117).toInt32 = 117 := by decide
theorem kb_118 : (Int8.ofInt 118).toInt32 = 118 := by decide
theorem kb_119 : (Int8.ofInt 119).toInt32 = 119 := by decide
theorem kb_121 : (Int8.ofInt 121).toInt32 = 121 := by decide
theorem kb_122 : (Int8.ofInt 122).toInt32 = 122 := by decide
theorem kb_127 : (Int8.ofInt 127).toInt32 = 127 := by decide
theorem ki_m1 : Int32.ofInt (-1) = (-1) := by decide
theorem ki_0 : Int32.ofInt 0 = 0 := by decide
theorem ki_1 : Int32.ofInt 1 = 1 := by decide
theorem ki_2 : Int32.ofInt 2 = 2 := by decide
theorem ki_3 : Int32.ofInt 3 = 3 := by decide
theorem ki_4 : Int32.ofInt 4 = 4 := by decide
theorem ki_5 : Int32.ofInt 5 = 5 := by decide
theorem ks_m1000 : (Int16.ofInt (-1000)).toInt32 = (-1000) := by decide
theorem ks_150 : (Int16.ofInt 150).toInt32 = 150 := by decide
theorem ks_200 : (Int16.ofInt 200).toInt32 = 200 := by decide
theorem ks_210 : (Int16.ofInt 210).toInt32 = 210 := by decide
theorem ks_255 : (Int16.ofInt 255).toInt32 = 255 := by decide
theorem kl_0 : Int64.ofNat ((0 : Fin 2) : Nat) = 0 := by decide
theorem kl_1 : Int64.ofNat ((1 : Fin 2) : Nat) = 1 := by decide
theorem zk_0 : zk 0 = 11 := rfl
theorem zb_0 : 0 < 124 := by decide
theorem zk_1 : zk 1 = 26 := rfl
theorem zb_1 : 1 < 124 := by decide
theorem zk_2 : zk 2 = 5 := rfl
theorem zb_2 : 2 < 124 := by decide
theorem zk_3 : zk 3 = 7 := rfl
theorem zb_3 : 3 < 124 := by decide
theorem zk_4 : zk 4 = 10 := rfl
theorem zb_4 : 4 < 124 := by decide
theorem zk_5 : zk 5 = 6 := rfl
theorem zb_5 : 5 < 124 := by decide
theorem zk_6 : zk 6 = 3 := rfl
theorem zb_6 : 6 < 124 := by decide
theorem zk_7 : zk 7 = 2 := rfl
theorem zb_7 : 7 < 124 := by decide
theorem zk_8 : zk 8 = 1 := rfl
theorem zb_8 : 8 < 124 := by decide
theorem zk_9 : zk 9 = 8 := rfl
theorem zb_9 : 9 < 124 := by decide
theorem zk_10 : zk 10 = 23 := rfl
theorem zb_10 : 10 < 124 := by decide
theorem zk_11 : zk 11 = 0 := rfl
theorem zb_11 : 11 < 124 := by decide
theorem zk_12 : zk 12 = 0 := rfl
theorem zb_12 : 12 < 124 := by decide
theorem zk_13 : zk 13 = 0 := rfl
theorem zb_13 : 13 < 124 := by decide
theorem zk_14 : zk 14 = 0 := rfl
theorem zb_14 : 14 < 124 := by decide
theorem zk_15 : zk 15 = 0 := rfl
theorem zb_15 : 15 < 124 := by decide
theorem zk_16 : zk 16 = 0 := rfl
theorem zb_16 : 16 < 124 := by decide
theorem zk_17 : zk 17 = 25 := rfl
theorem zb_17 : 17 < 124 := by decide
theorem zk_18 : zk 18 = 4 := rfl
theorem zb_18 : 18 < 124 := by decide
theorem zk_19 : zk 19 = 4 := rfl
theorem zb_19 : 19 < 124 := by decide
theorem zk_20 : zk 20 = 4 := rfl
theorem zb_20 : 20 < 124 := by decide
theorem zk_21 : zk 21 = 4 := rfl
theorem zb_21 : 21 < 124 := by decide
theorem zk_22 : zk 22 = 4 := rfl
theorem zb_22 : 22 < 124 := by decide
theorem zk_23 : zk 23 = 4 := rfl
theorem zb_23 : 23 < 124 := by decide
theorem zk_24 : zk 24 = 27 := rfl
theorem zb_24 : 24 < 124 := by decide
theorem zk_25 : zk 25 = 8 := rfl
theorem zb_25 : 25 < 124 := by decide
theorem zk_26 : zk 26 = 8 := rfl
theorem zb_26 : 26 < 124 := by decide
theorem zk_27 : zk 27 = 8 := rfl
theorem zb_27 : 27 < 124 := by decide
theorem zk_28 : zk 28 = 8 := rfl
theorem zb_28 : 28 < 124 := by decide
theorem zk_29 : zk 29 = 8 := rfl
theorem zb_29 : 29 < 124 := by decide
theorem zk_30 : zk 30 = 8 := rfl
theorem zb_30 : 30 < 124 := by decide
theorem zk_31 : zk 31 = 8 := rfl
theorem zb_31 : 31 < 124 := by decide
theorem zk_32 : zk 32 = 8 := rfl
theorem zb_32 : 32 < 124 := by decide
theorem zk_33 : zk 33 = 1 := rfl
theorem zb_33 : 33 < 124 := by decide
theorem zk_34 : zk 34 = 8 := rfl
theorem zb_34 : 34 < 124 := by decide
theorem zk_35 : zk 35 = 23 := rfl
theorem zb_35 : 35 < 124 := by decide
theorem zk_36 : zk 36 = 0 := rfl
theorem zb_36 : 36 < 124 := by decide
theorem zk_37 : zk 37 = 0 := rfl
theorem zb_37 : 37 < 124 := by decide
theorem zk_38 : zk 38 = 0 := rfl
theorem zb_38 : 38 < 124 := by decide
theorem zk_39 : zk 39 = 0 := rfl
theorem zb_39 : 39 < 124 := by decide
theorem zk_40 : zk 40 = 0 := rfl
theorem zb_40 : 40 < 124 := by decide
theorem zk_41 : zk 41 = 0 := rfl
theorem zb_41 : 41 < 124 := by decide
theorem zk_42 : zk 42 = 25 := rfl
theorem zb_42 : 42 < 124 := by decide
theorem zk_43 : zk 43 = 4 := rfl
theorem zb_43 : 43 < 124 := by decide
theorem zk_44 : zk 44 = 4 := rfl
theorem zb_44 : 44 < 124 := by decide
theorem zk_45 : zk 45 = 4 := rfl
theorem zb_45 : 45 < 124 := by decide
theorem zk_46 : zk 46 = 4 := rfl
theorem zb_46 : 46 < 124 := by decide
theorem zk_47 : zk 47 = 4 := rfl
theorem zb_47 : 47 < 124 := by decide
theorem zk_48 : zk 48 = 4 := rfl
theorem zb_48 : 48 < 124 := by decide
theorem zk_49 : zk 49 = 27 := rfl
theorem zb_49 : 49 < 124 := by decide
theorem zk_50 : zk 50 = 8 := rfl
theorem zb_50 : 50 < 124 := by decide
theorem zk_51 : zk 51 = 8 := rfl
theorem zb_51 : 51 < 124 := by decide
theorem zk_52 : zk 52 = 8 := rfl
theorem zb_52 : 52 < 124 := by decide
theorem zk_53 : zk 53 = 8 := rfl
theorem zb_53 : 53 < 124 := by decide
theorem zk_54 : zk 54 = 8 := rfl
theorem zb_54 : 54 < 124 := by decide
theorem zk_55 : zk 55 = 8 := rfl
theorem zb_55 : 55 < 124 := by decide
theorem zk_56 : zk 56 = 8 := rfl
theorem zb_56 : 56 < 124 := by decide
theorem zk_57 : zk 57 = 8 := rfl
theorem zb_57 : 57 < 124 := by decide
theorem zk_58 : zk 58 = 24 := rfl
theorem zb_58 : 58 < 124 := by decide
theorem zk_59 : zk 59 = 1 := rfl
theorem zb_59 : 59 < 124 := by decide
theorem zk_60 : zk 60 = 8 := rfl
theorem zb_60 : 60 < 124 := by decide
theorem zk_61 : zk 61 = 23 := rfl
theorem zb_61 : 61 < 124 := by decide
theorem zk_62 : zk 62 = 0 := rfl
theorem zb_62 : 62 < 124 := by decide
theorem zk_63 : zk 63 = 0 := rfl
theorem zb_63 : 63 < 124 := by decide
theorem zk_64 : zk 64 = 0 := rfl
theorem zb_64 : 64 < 124 := by decide
theorem zk_65 : zk 65 = 0 := rfl
theorem zb_65 : 65 < 124 := by decide
theorem zk_66 : zk 66 = 0 := rfl
theorem zb_66 : 66 < 124 := by decide
theorem zk_67 : zk 67 = 0 := rfl
theorem zb_67 : 67 < 124 := by decide
theorem zk_68 : zk 68 = 25 := rfl
theorem zb_68 : 68 < 124 := by decide
theorem zk_69 : zk 69 = 4 := rfl
theorem zb_69 : 69 < 124 := by decide
theorem zk_70 : zk 70 = 4 := rfl
theorem zb_70 : 70 < 124 := by decide
theorem zk_71 : zk 71 = 4 := rfl
theorem zb_71 : 71 < 124 := by decide
theorem zk_72 : zk 72 = 4 := rfl
theorem zb_72 : 72 < 124 := by decide
theorem zk_73 : zk 73 = 4 := rfl
theorem zb_73 : 73 < 124 := by decide
theorem zk_74 : zk 74 = 4 := rfl
theorem zb_74 : 74 < 124 := by decide
theorem zk_75 : zk 75 = 27 := rfl
theorem zb_75 : 75 < 124 := by decide
theorem zk_76 : zk 76 = 8 := rfl
theorem zb_76 : 76 < 124 := by decide
theorem zk_77 : zk 77 = 8 := rfl
theorem zb_77 : 77 < 124 := by decide
theorem zk_78 : zk 78 = 8 := rfl
theorem zb_78 : 78 < 124 := by decide
theorem zk_79 : zk 79 = 8 := rfl
theorem zb_79 : 79 < 124 := by decide
theorem zk_80 : zk 80 = 8 := rfl
theorem zb_80 : 80 < 124 := by decide
theorem zk_81 : zk 81 = 8 := rfl
theorem zb_81 : 81 < 124 := by decide
theorem zk_82 : zk 82 = 8 := rfl
theorem zb_82 : 82 < 124 := by decide
theorem zk_83 : zk 83 = 8 := rfl
theorem zb_83 : 83 < 124 := by decide
theorem zk_84 : zk 84 = 1 := rfl
theorem zb_84 : 84 < 124 := by decide
theorem zk_85 : zk 85 = 8 := rfl
theorem zb_85 : 85 < 124 := by decide
theorem zk_86 : zk 86 = 23 := rfl
theorem zb_86 : 86 < 124 := by decide
theorem zk_87 : zk 87 = 0 := rfl
theorem zb_87 : 87 < 124 := by decide
theorem zk_88 : zk 88 = 0 := rfl
theorem zb_88 : 88 < 124 := by decide
theorem zk_89 : zk 89 = 0 := rfl
theorem zb_89 : 89 < 124 := by decide
theorem zk_90 : zk 90 = 0 := rfl
theorem zb_90 : 90 < 124 := by decide
theorem zk_91 : zk 91 = 0 := rfl
theorem zb_91 : 91 < 124 := by decide
theorem zk_92 : zk 92 = 0 := rfl
theorem zb_92 : 92 < 124 := by decide
theorem zk_93 : zk 93 = 25 := rfl
theorem zb_93 : 93 < 124 := by decide
theorem zk_94 : zk 94 = 4 := rfl
theorem zb_94 : 94 < 124 := by decide
theorem zk_95 : zk 95 = 4 := rfl
theorem zb_95 : 95 < 124 := by decide
theorem zk_96 : zk 96 = 4 := rfl
theorem zb_96 : 96 < 124 := by decide
theorem zk_97 : zk 97 = 4 := rfl
theorem zb_97 : 97 < 124 := by decide
theorem zk_98 : zk 98 = 4 := rfl
theorem zb_98 : 98 < 124 := by decide
theorem zk_99 : zk 99 = 4 := rfl
theorem zb_99 : 99 < 124 := by decide
theorem zk_100 : zk 100 = 27 := rfl
theorem zb_100 : 100 < 124 := by decide
theorem zk_101 : zk 101 = 8 := rfl
theorem zb_101 : 101 < 124 := by decide
theorem zk_102 : zk 102 = 8 := rfl
theorem zb_102 : 102 < 124 := by decide
theorem zk_103 : zk 103 = 8 := rfl
theorem zb_103 : 103 < 124 := by decide
theorem zk_104 : zk 104 = 8 := rfl
theorem zb_104 : 104 < 124 := by decide
theorem zk_105 : zk 105 = 8 := rfl
theorem zb_105 : 105 < 124 := by decide
theorem zk_106 : zk 106 = 8 := rfl
theorem zb_106 : 106 < 124 := by decide
theorem zk_107 : zk 107 = 8 := rfl
theorem zb_107 : 107 < 124 := by decide
theorem zk_108 : zk 108 = 8 := rfl
theorem zb_108 : 108 < 124 := by decide
theorem zk_109 : zk 109 = 22 := rfl
theorem zb_109 : 109 < 124 := by decide
theorem zk_110 : zk 110 = 8 := rfl
theorem zb_110 : 110 < 124 := by decide
theorem zk_111 : zk 111 = 9 := rfl
theorem zb_111 : 111 < 124 := by decide
theorem zk_112 : zk 112 = 21 := rfl
theorem zb_112 : 112 < 124 := by decide
theorem zk_113 : zk 113 = 12 := rfl
theorem zb_113 : 113 < 124 := by decide
theorem zk_114 : zk 114 = 20 := rfl
theorem zb_114 : 114 < 124 := by decide
theorem zk_115 : zk 115 = 20 := rfl
theorem zb_115 : 115 < 124 := by decide
theorem zk_116 : zk 116 = 22 := rfl
theorem zb_116 : 116 < 124 := by decide
theorem zk_117 : zk 117 = 20 := rfl
theorem zb_117 : 117 < 124 := by decide
theorem zk_118 : zk 118 = 20 := rfl
theorem zb_118 : 118 < 124 := by decide
theorem zk_119 : zk 119 = 20 := rfl
theorem zb_119 : 119 < 124 := by decide
theorem zk_120 : zk 120 = 20 := rfl
theorem zb_120 : 120 < 124 := by decide
theorem zk_121 : zk 121 = 20 := rfl
theorem zb_121 : 121 < 124 := by decide
theorem zk_122 : zk 122 = 20 := rfl
theorem zb_122 : 122 < 124 := by decide
theorem zk_123 : zk 123 = 20 := rfl
theorem zb_123 : 123 < 124 := by decide
/-- a truth value on the stack -/
def zi (b : Bool) : Int32 := if b then 1 else 0
theorem zi_nar (b : Bool) : narrow .boolean (.int (zi b)) = .int (zi b) := by cases b <;> rfl
theorem zi_0 {b : Bool} (h : zi b = 0) : b = false := by cases b <;> first | rfl | exact absurd h (by decide)
theorem zi_1 {b : Bool} (h : ¬ zi b = 0) : b = true := by cases b <;> first | rfl | exact absurd rfl h
theorem zi_t : zi true = 1 := rfl
theorem zi_f : zi false = 0 := rfl
theorem zi_p {p : Prop} [Decidable p] (h : p) : (1 : Int32) = zi (decide p) := by simp [zi, h]
theorem zi_n {p : Prop} [Decidable p] (h : ¬ p) : (0 : Int32) = zi (decide p) := by simp [zi, h]
section ZB
variable {X : zX} {B : zB} {μ : zM} {n : Nat} {G : Nat → va_E} {a w pc : Nat} {lv : List (Nat × Value)} {st : List Value}
theorem z_ifb_eq (C : zC X B μ) {b : Bool} {off : Int} (tgt : Nat) (d : decode μ.2.1 pc = .ok (.ifCond .eq off, 3)) (ht : (pc : Int) + off = (tgt : Int)) (kt : b = false → Z X B μ n G a w tgt lv st) (kf : b = true → Z X B μ n G a w (pc + 3) lv st) : Z X B μ n G a w pc lv (.int (zi b) :: st) := z_if_eq C tgt d ht (fun h => kt (zi_0 h)) (fun h => kf (zi_1 h))
theorem z_ifb_ne (C : zC X B μ) {b : Bool} {off : Int} (tgt : Nat) (d : decode μ.2.1 pc = .ok (.ifCond .ne off, 3)) (ht : (pc : Int) + off = (tgt : Int)) (kt : b = true → Z X B μ n G a w tgt lv st) (kf : b = false → Z X B μ n G a w (pc + 3) lv st) : Z X B μ n G a w pc lv (.int (zi b) :: st) := z_if_ne C tgt d ht (fun h => kt (zi_1 h)) (fun h => kf (zi_0 h))
end ZB
end
section
/-! super.m(..) where the superclass inherits m from its own superclass -/
theorem zq_sub {vm : Vm} {c p : ClassId} {k : Class} (hk : vm.classes[c]? = some k) (hs : k.super = some p) : vm.isSubclass c p = true := by
  have hl : 0 < vm.classes.size := Nat.lt_of_le_of_lt (Nat.zero_le _) (Array.getElem?_eq_some_iff.mp hk).1
  unfold Vm.isSubclass
  obtain ⟨n, hn⟩ : ∃ n, vm.classes.size + 1 = n + 2 := ⟨vm.classes.size - 1, by omega⟩
  rw [hn]
  simp [Vm.isSubclassAux, hk, hs]
section ZQ
variable {p : Program} {l : Launch} {e : Env} {R : Room} {s : State} {m : MethodId} {args : Array Value} {below : List Frame} {meth : Method} {c : Code}
theorem zq_call {T : State} {locs : List Loc} {cells slots : Nat} (X : Stand p l e R s m args below meth c T locs cells slots) (hexec : p.tables.exec = Jvm.exec) {own : String} {index : Nat} {x y : MethodName} {bytes : ByteArray} {maxL : Nat} {ret : Option FieldType}
    (hown : s.vm.findClass own = some m.cls) (hlink : (Cond.methodLink own index x).before args s = true) (hsame : (Cond.sameMethod x.cls y.cls x.name x.desc).before args s = true) (hyx : y = ⟨y.cls, x.name, x.desc⟩) (hsup : (Cond.superclass own x.cls).before args s = true) (hsup2 : (Cond.superclass x.cls y.cls).before args s = true)
    (hinst : (Cond.instanceMethod y).before args s = true) (hcode : (Cond.code y bytes maxL ret).before args s = true) (hno : x.name ≠ "<init>")
    {W : Nat} {Pre : Pt → Array Value → Prop} {Post : Pt → Array Value → Option Value → Pt → Prop} (hK : Back l R p e below s args y 3 W Pre Post)
    {b : Addr} {cellB : Cell} {kB : Class} (hcell : T.heap[b]? = some cellB) (hobj : cellB.vm.isStatics = false) (hkB : s.vm.classes[cellB.cls]? = some kB)
    {g : JFrame} (hg : g.method = m) (hsize : g.locals.size = c.maxLocals) {argsL rest : List Value} (hlen : ∀ sig, parseMethodDescriptor y.desc = some sig → argsL.length = sig.parameters.length)
    (hstack : g.stack = argsL.reverse ++ .ref b :: rest) (hW : 2 * g.monitorRoom + (rest.map fun v => v.category).sum ≤ W) (hdg : decode c.code g.pc = .ok (.invokespecial index, 3))
    (hpre : ∀ vm₁, s.WarmedH vm₁ → Pre ⟨T.setVm vm₁, locs, cells, slots⟩ (Value.ref b :: argsL).toArray) :
    ∃ (v : Option Value) (vm₁ : Vm) (B : Pt), s.WarmedH vm₁ ∧ Stand p l e R s m args below meth c B.U B.locs B.cells B.slots ∧ Post ⟨T.setVm vm₁, locs, cells, slots⟩ (Value.ref b :: argsL).toArray v B ∧
      ∀ target, Steps p.tables e below (B.U.setTop { g with pc := g.pc + 3, stack := v.toList ++ rest }) target → Steps p.tables e below (T.setTop g) target := by
  obtain ⟨mk, methM, hnamed, hmethM, hstM, habM⟩ := Cond.instanceMethod_spec hinst
  obtain ⟨methM', cM, hmethM', -, -, -, -, -, -, hsigM⟩ := Cond.code_spec hnamed hcode
  cases hmethM.symm.trans hmethM'
  obtain ⟨ps, dk, kp, hps, hdk, hkp, hsuper, -, -, hnid⟩ := Cond.superclass_spec hown hsup
  obtain ⟨p2, k2, kp2, hp2, hk2, hkp2, hsuper2, -, -, -⟩ := Cond.superclass_spec hps hsup2
  have hn : s.methodNamed? ⟨y.cls, x.name, x.desc⟩ = some mk := by rw [← hyx]; exact hnamed
  have hpm : p2 = mk.cls := Option.some.inj (hp2.symm.trans (findClass_of_methodNamed hnamed))
  have hsub : s.vm.isSubclass ps mk.cls = true := by rw [← hpm]; exact zq_sub hk2 hsuper2
  obtain ⟨vm₁, X₁, hstep₁⟩ := X.invokespecialUp hexec hown hlink hsame hn hmethM hstM habM hno hdk hnid hps hsuper hsub (a := b) (cell := cellB) hcell
    (fun z h => by rw [h] at hobj; cases hobj) hkB (g := g) hg (argsL := argsL) (rest := rest) (hlen _ hsigM) hstack hdg
  obtain ⟨v, B, X', hpost, hsteps⟩ := hK m meth c ⟨T.setVm vm₁, locs, cells, slots⟩ { g with stack := rest } (.invokespecial index) mk (Value.ref b :: argsL).toArray X₁ hg hsize hdg hW (X₁.named hnamed) (hpre vm₁ X₁.warmed)
  exact ⟨v, vm₁, B, X₁.warmed, X', hpost, fun target h => hstep₁ _ (by rw [doInvoke_state]; exact hsteps.trans h)⟩
end ZQ
section ZQF
variable {X : zX} {B : zB} {μ : zM} {s : zS} {t : zL} {w pc : Nat} {lv : List (Nat × Value)} {st : List Value}
theorem f_callQr (C : zC X B μ) {l : Launch} (hl : X.2.1 = l) {κ : zM} {x : MethodName} {index : Nat} (nA : Nat) {As rest : List Value} {v0 : Value} {s2 : zS} {t2 : zL} {o : Nat} (hM : zD l B κ s t (.ref (B.1 + o) :: As) (some v0) s2 t2) {ci : Nat} {q : vw_C} {fs : List Value} (ho : o < 124) (hG : zg B s t o = .inr (ci, fs)) (hc : vwCl[ci]? = some q)
    (hrc : κ.2.2.2.2.cells = 0) (hrs : κ.2.2.2.2.slots = 0) (hcode : zT (.code κ.1 κ.2.1 κ.2.2.1 κ.2.2.2.1)) (hini : zT (.initialized κ.1.cls)) (hlink : zT (.methodLink μ.1.cls index x)) (hsame : zT (.sameMethod x.cls κ.1.cls x.name x.desc)) (hyx : κ.1 = ⟨κ.1.cls, x.name, x.desc⟩) (hsup : zT (.superclass μ.1.cls x.cls)) (hsup2 : zT (.superclass x.cls κ.1.cls)) (hinst : zT (.instanceMethod κ.1)) (hd : x.name ≠ "<init>" ∧ (parseMethodDescriptor κ.1.desc).map (fun d => d.parameters.length) = some nA) (hR : κ.2.2.2.2.frames + 1 ≤ μ.2.2.2.2.frames ∧ 8 + (κ.2.2.1 + 11) + κ.2.2.2.2.locals ≤ μ.2.2.2.2.locals)
    (hn : As.length = nA) (hst : st = As.reverse ++ .ref (B.1 + o) :: rest) (hW : (rest.map fun v => v.category).sum ≤ 8) (d : decode μ.2.1 pc = .ok (.invokespecial index, 3)) (hw0 : w ≤ μ.2.2.2.2.slots) (kk : Z X B μ 124 (zg B s2 t2) 0 w (pc + 3) lv (v0 :: rest)) : Z X B μ 124 (zg B s t) 0 w pc lv st := by
  subst hl
  refine z_run (Q := zR B (some v0) s2 t2) (mc := 0) (ms := 0) (rest := rest) (fun H locs ls hls hw hS => ?_) (fun v G q => by obtain ⟨rfl, rfl⟩ := q; exact kk)
  have hws : ∀ w ∈ zWs κ, ∀ (a' : Array Value) (U : State), (xS X).WarmedH U.vm → w.before a' U = true := fun w hw a' U hW => by
    rw [List.mem_singleton.mp hw]
    exact word_at hW (good_of_word hcode.2) (C.t hcode)
  have hK := back_of (bytes := κ.2.1) (maxL := κ.2.2.1) (ret := κ.2.2.2.1) (R := μ.2.2.2.2) (p := X.1) (e := X.2.2.1) (below := xB X) (sargs := xA X) (len := 3) (W := 8) (s := xS X) hM zPre_blind hrc hrs hR.1 hR.2 hws List.mem_cons_self (fun a' U hW => word_at hW (good_of_word hini.2) (C.t hini))
  obtain ⟨cellB, hcB, hoB, hclB⟩ := z_recv C hw ho hG hc
  obtain ⟨hfc, kB, hkB, -⟩ := (C.2.2.2.2.2.1.2.1.1 ci q hc).2
  have ecl := Option.some.inj (hfc.symm.trans hclB)
  rw [ecl] at hkB
  intro T hT X0
  obtain ⟨v, vm₁, ⟨U', l2, c2, s2'⟩, hW₁, X', ⟨g', mk, t', L, e1, e2, hq, h1, hL, h2, h3⟩, stp⟩ := zq_call X0 C.1 (bytes := κ.2.1) (maxL := κ.2.2.1) (ret := κ.2.2.2.1) C.2.2.2.1 (C.t hlink) (C.t hsame) hyx (C.t hsup) (C.t hsup2) (C.t hinst) (C.t hcode) hd.1 hK (by rw [hT]; exact hcB) hoB hkB (g := F0 (xM X) pc ls st) rfl (hls.1.trans C.2.2.1.symm) (argsL := As) (rest := rest) (fun sig h => by
    have h2 := hd.2
    rw [h] at h2
    exact hn.trans (Option.some.inj h2).symm) hst (lv_room hW) (by rw [C.2.1]; exact d)
    (fun vm₁ hW₁ => ⟨Nat.zero_le _, hw0, zPre_at C hw hS _ (T.setVm vm₁) hT hW₁⟩)
  dsimp only [Pt.U, Pt.locs, Pt.cells, Pt.slots] at X' e1 e2 h1 h2 h3 stp
  subst h1; subst h2; subst h3
  exact ⟨v, (T.setVm vm₁).calling g' mk (Value.ref (B.1 + o) :: As).toArray, t', U', L, hT, X', hL, e1, e2, hq, stp⟩
end ZQF
end
section
/-! plain words that both sides are tied to -/
theorem nI_inc (i : Nat) : nI i + Int32.ofInt 1 = nI (i + 1) := nI_1 i
/-- 8 bits -/
def r8 (x : Int32) : Prop := x &&& 255 = x
theorem r8_nI : ∀ n, n < 256 → nI n &&& 255 = nI n := by decide +kernel
theorem r8_of {n : Nat} (h : n < 256) : r8 (nI n) := r8_nI n h
theorem r8_ex {x : Int32} (h : r8 x) : ∃ n, n < 256 ∧ x = nI n := by
  obtain ⟨j, h1, h2⟩ := pk_andE x (m := 255) 8 (by decide)
  exact ⟨j, h1, by rw [← h2]; exact h.symm⟩
theorem r8_and {x y : Int32} (h : r8 x) : r8 (x &&& y) := by
  unfold r8 at *
  rw [Int32.and_assoc, Int32.and_comm y 255, ← Int32.and_assoc, h]
theorem r8_and' {x y : Int32} (h : r8 y) : r8 (x &&& y) := by
  unfold r8 at *
  rw [Int32.and_assoc, h]
theorem r8_or {x y : Int32} (h : r8 x) (k : r8 y) : r8 (x ||| y) := by
  unfold r8 at *
  have e : (x ||| y) &&& 255 = (x &&& 255) ||| (y &&& 255) := by
    apply Int32.toBitVec_inj.mp
    simp only [Int32.toBitVec_and, Int32.toBitVec_or]
    exact BitVec.and_or_distrib_right
  rw [e, h, k]
/-- how many bits of the 8 are set -/
def pcN (n : Nat) : Nat := n % 2 + n / 2 % 2 + n / 4 % 2 + n / 8 % 2 + n / 16 % 2 + n / 32 % 2 + n / 64 % 2 + n / 128 % 2
def wPop (x : Int32) : Int32 := nI (pcN x.toBitVec.toNat)
theorem pcN_lt (n : Nat) : pcN n ≤ 8 := by unfold pcN; omega
/-- 0 .. b -/
def wIn (x b : Int32) : Bool := decide (¬ x < 0 ∧ ¬ b < x)
/-- the bit of a place; none below 0 -/
def wBit (x : Int32) : Int32 := if x < 0 then 0 else (1 : Int32) <<< (x &&& 31)
def wMax (a b : Int32) : Int32 := if a < b then b else a
/-- the kinds: joy, stopping, cost -/
def wJoy (k l h : Int32) : Int32 := if k = 2 ∨ k = 4 then 2 * l - 3 * h + 2 else 2 * l - 3 * h
def wRef (k j h d : Int32) : Bool := if k = 1 then decide (j < 0) || decide (0 < h) else if k = 4 then decide (d - d / 2 * 2 = 0) && decide (j < 0) else if k = 5 then (decide (j < 0) || decide (0 < h)) || decide (d - d / 5 * 5 = 0) else decide (j < 0)
def wCost (k p : Int32) : Int32 := if k = 3 then (p + 1) / 2 else if k = 5 then 2 * p else p
/-- whether one would stop a bundle on a day -/
def wStop (k lo ha bu d : Int32) : Bool := if bu = 0 then false else wRef k (wJoy k (wPop (lo &&& bu)) (wPop (ha &&& bu))) (wPop (ha &&& bu)) d
/-- who stops it, of the first n -/
def wWho (K L H : Nat → Int32) (still d bu : Int32) : Nat → Int32
  | 0 => 0
  | n + 1 => if (still &&& wBit (nI n) = 0) ∧ wStop (K n) (L n) (H n) bu d = true then wWho K L H still d bu n ||| wBit (nI n) else wWho K L H still d bu n
/-- what they cost together -/
def wSum (K P : Nat → Int32) (who : Int32) : Nat → Int32
  | 0 => 0
  | n + 1 => if who &&& wBit (nI n) = 0 then wSum K P who n else wSum K P who n + wCost (K n) (P n)
end
section
section ZMX
variable {X : zX} {B : zB} {μ : zM} {n : Nat} {G : Nat → va_E} {a w pc : Nat} {lv : List (Nat × Value)} {st : List Value}
theorem tmx_code : zT (.code Lib.Math.max.name Lib.Math.max.code 2 (some .int)) := by decide +kernel
theorem tmx_stat : zT (.static Lib.Math.max.name) := by decide +kernel
theorem tmx_ini : zT (.initialized "java/lang/Math") := by decide +kernel
theorem f_mmax (C : zC X B μ) {index : Nat} {x y : Int32} (hlink : zT (.methodLink μ.1.cls index Lib.Math.max.name)) (d : decode μ.2.1 pc = .ok (.invokestatic index, 3)) (hf : 1 ≤ μ.2.2.2.2.frames) (hlo : 21 ≤ μ.2.2.2.2.locals) (hc : a ≤ μ.2.2.2.2.cells) (hs : w ≤ μ.2.2.2.2.slots) (hW : (st.map fun v => v.category).sum ≤ 8) (k : Z X B μ n G a w (pc + 3) lv (.int (wMax x y) :: st)) : Z X B μ n G a w pc lv (.int y :: .int x :: st) :=
  fun H locs ls hl hw hS hk => va_mmax C.1 C.2.1 (C.2.2.1.trans hl.1.symm) C.2.2.2.1 (C.t hlink) (C.t tmx_stat) (C.t tmx_ini) (C.t tmx_code) hf (by omega) hc hs d (k H locs ls hl hw hS hk)
end ZMX
end
section
theorem dX0_init_0 : decode cX0_init 0 = .ok (.aload_n 0, 1) := by decide +kernel
theorem dX0_init_1 : decode cX0_init 1 = .ok (.invokespecial 1, 3) := by decide +kernel
theorem dX0_init_4 : decode cX0_init 4 = .ok (.return_, 1) := by decide +kernel
theorem dX0_copyFrom_0 : decode cX0_copyFrom 0 = .ok (.aload_n 0, 1) := by decide +kernel
theorem dX0_copyFrom_1 : decode cX0_copyFrom 1 = .ok (.aload_n 1, 1) := by decide +kernel
theorem dX0_copyFrom_2 : decode cX0_copyFrom 2 = .ok (.getfield 7, 3) := by decide +kernel
theorem dX0_copyFrom_5 : decode cX0_copyFrom 5 = .ok (.putfield 7, 3) := by decide +kernel
theorem dX0_copyFrom_8 : decode cX0_copyFrom 8 = .ok (.aload_n 0, 1) := by decide +kernel
theorem dX0_copyFrom_9 : decode cX0_copyFrom 9 = .ok (.aload_n 1, 1) := by decide +kernel
theorem dX0_copyFrom_10 : decode cX0_copyFrom 10 = .ok (.getfield 13, 3) := by decide +kernel
theorem dX0_copyFrom_13 : decode cX0_copyFrom 13 = .ok (.putfield 13, 3) := by decide +kernel
theorem dX0_copyFrom_16 : decode cX0_copyFrom 16 = .ok (.aload_n 0, 1) := by decide +kernel
theorem dX0_copyFrom_17 : decode cX0_copyFrom 17 = .ok (.aload_n 1, 1) := by decide +kernel
theorem dX0_copyFrom_18 : decode cX0_copyFrom 18 = .ok (.getfield 16, 3) := by decide +kernel
theorem dX0_copyFrom_21 : decode cX0_copyFrom 21 = .ok (.putfield 16, 3) := by decide +kernel
theorem dX0_copyFrom_24 : decode cX0_copyFrom 24 = .ok (.aload_n 0, 1) := by decide +kernel
theorem dX0_copyFrom_25 : decode cX0_copyFrom 25 = .ok (.aload_n 1, 1) := by decide +kernel
theorem dX0_copyFrom_26 : decode cX0_copyFrom 26 = .ok (.getfield 19, 3) := by decide +kernel
theorem dX0_copyFrom_29 : decode cX0_copyFrom 29 = .ok (.putfield 19, 3) := by decide +kernel
theorem dX0_copyFrom_32 : decode cX0_copyFrom 32 = .ok (.return_, 1) := by decide +kernel
theorem dX1_init_0 : decode cX1_init 0 = .ok (.aload_n 0, 1) := by decide +kernel
theorem dX1_init_1 : decode cX1_init 1 = .ok (.invokespecial 3, 3) := by decide +kernel
theorem dX1_init_4 : decode cX1_init 4 = .ok (.aload_n 0, 1) := by decide +kernel
theorem dX1_init_5 : decode cX1_init 5 = .ok (.new 9, 3) := by decide +kernel
theorem dX1_init_8 : decode cX1_init 8 = .ok (.dup, 1) := by decide +kernel
theorem dX1_init_9 : decode cX1_init 9 = .ok (.invokespecial 11, 3) := by decide +kernel
theorem dX1_init_12 : decode cX1_init 12 = .ok (.putfield 12, 3) := by decide +kernel
theorem dX1_init_15 : decode cX1_init 15 = .ok (.aload_n 0, 1) := by decide +kernel
theorem dX1_init_16 : decode cX1_init 16 = .ok (.bipush 6, 2) := by decide +kernel
theorem dX1_init_18 : decode cX1_init 18 = .ok (.anewarray 18, 3) := by decide +kernel
theorem dX1_init_21 : decode cX1_init 21 = .ok (.putfield 20, 3) := by decide +kernel
theorem dX1_init_24 : decode cX1_init 24 = .ok (.iconst 0, 1) := by decide +kernel
theorem dX1_init_25 : decode cX1_init 25 = .ok (.istore_n 1, 1) := by decide +kernel
theorem dX1_init_26 : decode cX1_init 26 = .ok (.iload_n 1, 1) := by decide +kernel
theorem dX1_init_27 : decode cX1_init 27 = .ok (.aload_n 0, 1) := by decide +kernel
theorem dX1_init_28 : decode cX1_init 28 = .ok (.getfield 20, 3) := by decide +kernel
theorem dX1_init_31 : decode cX1_init 31 = .ok (.arraylength, 1) := by decide +kernel
theorem dX1_init_32 : decode cX1_init 32 = .ok (.if_icmp .ge 22, 3) := by decide +kernel
theorem dX1_init_35 : decode cX1_init 35 = .ok (.aload_n 0, 1) := by decide +kernel
theorem dX1_init_36 : decode cX1_init 36 = .ok (.getfield 20, 3) := by decide +kernel
theorem dX1_init_39 : decode cX1_init 39 = .ok (.iload_n 1, 1) := by decide +kernel
theorem dX1_init_40 : decode cX1_init 40 = .ok (.new 18, 3) := by decide +kernel
theorem dX1_init_43 : decode cX1_init 43 = .ok (.dup, 1) := by decide +kernel
theorem dX1_init_44 : decode cX1_init 44 = .ok (.invokespecial 24, 3) := by decide +kernel
theorem dX1_init_47 : decode cX1_init 47 = .ok (.aastore, 1) := by decide +kernel
theorem dX1_init_48 : decode cX1_init 48 = .ok (.iinc 1 1, 3) := by decide +kernel
theorem dX1_init_51 : decode cX1_init 51 = .ok (.goto (-25), 3) := by decide +kernel
theorem dX1_init_54 : decode cX1_init 54 = .ok (.aload_n 0, 1) := by decide +kernel
theorem dX1_init_55 : decode cX1_init 55 = .ok (.bipush 6, 2) := by decide +kernel
theorem dX1_init_57 : decode cX1_init 57 = .ok (.anewarray 25, 3) := by decide +kernel
theorem dX1_init_60 : decode cX1_init 60 = .ok (.putfield 27, 3) := by decide +kernel
theorem dX1_init_63 : decode cX1_init 63 = .ok (.iconst 0, 1) := by decide +kernel
theorem dX1_init_64 : decode cX1_init 64 = .ok (.istore_n 1, 1) := by decide +kernel
theorem dX1_init_65 : decode cX1_init 65 = .ok (.iload_n 1, 1) := by decide +kernel
theorem dX1_init_66 : decode cX1_init 66 = .ok (.aload_n 0, 1) := by decide +kernel
theorem dX1_init_67 : decode cX1_init 67 = .ok (.getfield 27, 3) := by decide +kernel
theorem dX1_init_70 : decode cX1_init 70 = .ok (.arraylength, 1) := by decide +kernel
theorem dX1_init_71 : decode cX1_init 71 = .ok (.if_icmp .ge 22, 3) := by decide +kernel
theorem dX1_init_74 : decode cX1_init 74 = .ok (.aload_n 0, 1) := by decide +kernel
theorem dX1_init_75 : decode cX1_init 75 = .ok (.getfield 27, 3) := by decide +kernel
theorem dX1_init_78 : decode cX1_init 78 = .ok (.iload_n 1, 1) := by decide +kernel
theorem dX1_init_79 : decode cX1_init 79 = .ok (.new 25, 3) := by decide +kernel
theorem dX1_init_82 : decode cX1_init 82 = .ok (.dup, 1) := by decide +kernel
theorem dX1_init_83 : decode cX1_init 83 = .ok (.invokespecial 31, 3) := by decide +kernel
theorem dX1_init_86 : decode cX1_init 86 = .ok (.aastore, 1) := by decide +kernel
theorem dX1_init_87 : decode cX1_init 87 = .ok (.iinc 1 1, 3) := by decide +kernel
theorem dX1_init_90 : decode cX1_init 90 = .ok (.goto (-25), 3) := by decide +kernel
theorem dX1_init_93 : decode cX1_init 93 = .ok (.aload_n 0, 1) := by decide +kernel
theorem dX1_init_94 : decode cX1_init 94 = .ok (.bipush 8, 2) := by decide +kernel
theorem dX1_init_96 : decode cX1_init 96 = .ok (.anewarray 9, 3) := by decide +kernel
theorem dX1_init_99 : decode cX1_init 99 = .ok (.putfield 32, 3) := by decide +kernel
theorem dX1_init_102 : decode cX1_init 102 = .ok (.iconst 0, 1) := by decide +kernel
theorem dX1_init_103 : decode cX1_init 103 = .ok (.istore_n 1, 1) := by decide +kernel
theorem dX1_init_104 : decode cX1_init 104 = .ok (.iload_n 1, 1) := by decide +kernel
theorem dX1_init_105 : decode cX1_init 105 = .ok (.aload_n 0, 1) := by decide +kernel
theorem dX1_init_106 : decode cX1_init 106 = .ok (.getfield 32, 3) := by decide +kernel
theorem dX1_init_109 : decode cX1_init 109 = .ok (.arraylength, 1) := by decide +kernel
theorem dX1_init_110 : decode cX1_init 110 = .ok (.if_icmp .ge 22, 3) := by decide +kernel
theorem dX1_init_113 : decode cX1_init 113 = .ok (.aload_n 0, 1) := by decide +kernel
theorem dX1_init_114 : decode cX1_init 114 = .ok (.getfield 32, 3) := by decide +kernel
theorem dX1_init_117 : decode cX1_init 117 = .ok (.iload_n 1, 1) := by decide +kernel
theorem dX1_init_118 : decode cX1_init 118 = .ok (.new 9, 3) := by decide +kernel
theorem dX1_init_121 : decode cX1_init 121 = .ok (.dup, 1) := by decide +kernel
theorem dX1_init_122 : decode cX1_init 122 = .ok (.invokespecial 11, 3) := by decide +kernel
theorem dX1_init_125 : decode cX1_init 125 = .ok (.aastore, 1) := by decide +kernel
theorem dX1_init_126 : decode cX1_init 126 = .ok (.iinc 1 1, 3) := by decide +kernel
theorem dX1_init_129 : decode cX1_init 129 = .ok (.goto (-25), 3) := by decide +kernel
theorem dX1_init_132 : decode cX1_init 132 = .ok (.return_, 1) := by decide +kernel
theorem dX1_startOn_0 : decode cX1_startOn 0 = .ok (.aload_n 0, 1) := by decide +kernel
theorem dX1_startOn_1 : decode cX1_startOn 1 = .ok (.getfield 12, 3) := by decide +kernel
theorem dX1_startOn_4 : decode cX1_startOn 4 = .ok (.iload_n 1, 1) := by decide +kernel
theorem dX1_startOn_5 : decode cX1_startOn 5 = .ok (.invokevirtual 36, 3) := by decide +kernel
theorem dX1_startOn_8 : decode cX1_startOn 8 = .ok (.aload_n 0, 1) := by decide +kernel
theorem dX1_startOn_9 : decode cX1_startOn 9 = .ok (.iconst 0, 1) := by decide +kernel
theorem dX1_startOn_10 : decode cX1_startOn 10 = .ok (.putfield 40, 3) := by decide +kernel
theorem dX1_startOn_13 : decode cX1_startOn 13 = .ok (.aload_n 0, 1) := by decide +kernel
theorem dX1_startOn_14 : decode cX1_startOn 14 = .ok (.iconst 0, 1) := by decide +kernel
theorem dX1_startOn_15 : decode cX1_startOn 15 = .ok (.putfield 44, 3) := by decide +kernel
theorem dX1_startOn_18 : decode cX1_startOn 18 = .ok (.aload_n 0, 1) := by decide +kernel
theorem dX1_startOn_19 : decode cX1_startOn 19 = .ok (.iconst 0, 1) := by decide +kernel
theorem dX1_startOn_20 : decode cX1_startOn 20 = .ok (.putfield 47, 3) := by decide +kernel
theorem dX1_startOn_23 : decode cX1_startOn 23 = .ok (.return_, 1) := by decide +kernel
theorem dX1_copyFrom_0 : decode cX1_copyFrom 0 = .ok (.aload_n 0, 1) := by decide +kernel
theorem dX1_copyFrom_1 : decode cX1_copyFrom 1 = .ok (.getfield 12, 3) := by decide +kernel
theorem dX1_copyFrom_4 : decode cX1_copyFrom 4 = .ok (.aload_n 1, 1) := by decide +kernel
theorem dX1_copyFrom_5 : decode cX1_copyFrom 5 = .ok (.getfield 12, 3) := by decide +kernel
theorem dX1_copyFrom_8 : decode cX1_copyFrom 8 = .ok (.invokevirtual 50, 3) := by decide +kernel
theorem dX1_copyFrom_11 : decode cX1_copyFrom 11 = .ok (.iconst 0, 1) := by decide +kernel
theorem dX1_copyFrom_12 : decode cX1_copyFrom 12 = .ok (.istore_n 2, 1) := by decide +kernel
theorem dX1_copyFrom_13 : decode cX1_copyFrom 13 = .ok (.iload_n 2, 1) := by decide +kernel
theorem dX1_copyFrom_14 : decode cX1_copyFrom 14 = .ok (.aload_n 0, 1) := by decide +kernel
theorem dX1_copyFrom_15 : decode cX1_copyFrom 15 = .ok (.getfield 20, 3) := by decide +kernel
theorem dX1_copyFrom_18 : decode cX1_copyFrom 18 = .ok (.arraylength, 1) := by decide +kernel
theorem dX1_copyFrom_19 : decode cX1_copyFrom 19 = .ok (.if_icmp .ge 33, 3) := by decide +kernel
theorem dX1_copyFrom_22 : decode cX1_copyFrom 22 = .ok (.iload_n 2, 1) := by decide +kernel
theorem dX1_copyFrom_23 : decode cX1_copyFrom 23 = .ok (.aload_n 1, 1) := by decide +kernel
theorem dX1_copyFrom_24 : decode cX1_copyFrom 24 = .ok (.getfield 20, 3) := by decide +kernel
theorem dX1_copyFrom_27 : decode cX1_copyFrom 27 = .ok (.arraylength, 1) := by decide +kernel
theorem dX1_copyFrom_28 : decode cX1_copyFrom 28 = .ok (.if_icmp .ge 24, 3) := by decide +kernel
theorem dX1_copyFrom_31 : decode cX1_copyFrom 31 = .ok (.aload_n 0, 1) := by decide +kernel
theorem dX1_copyFrom_32 : decode cX1_copyFrom 32 = .ok (.getfield 20, 3) := by decide +kernel
theorem dX1_copyFrom_35 : decode cX1_copyFrom 35 = .ok (.iload_n 2, 1) := by decide +kernel
theorem dX1_copyFrom_36 : decode cX1_copyFrom 36 = .ok (.aaload, 1) := by decide +kernel
theorem dX1_copyFrom_37 : decode cX1_copyFrom 37 = .ok (.aload_n 1, 1) := by decide +kernel
theorem dX1_copyFrom_38 : decode cX1_copyFrom 38 = .ok (.getfield 20, 3) := by decide +kernel
theorem dX1_copyFrom_41 : decode cX1_copyFrom 41 = .ok (.iload_n 2, 1) := by decide +kernel
theorem dX1_copyFrom_42 : decode cX1_copyFrom 42 = .ok (.aaload, 1) := by decide +kernel
theorem dX1_copyFrom_43 : decode cX1_copyFrom 43 = .ok (.invokevirtual 54, 3) := by decide +kernel
theorem dX1_copyFrom_46 : decode cX1_copyFrom 46 = .ok (.iinc 2 1, 3) := by decide +kernel
theorem dX1_copyFrom_49 : decode cX1_copyFrom 49 = .ok (.goto (-36), 3) := by decide +kernel
theorem dX1_copyFrom_52 : decode cX1_copyFrom 52 = .ok (.iconst 0, 1) := by decide +kernel
theorem dX1_copyFrom_53 : decode cX1_copyFrom 53 = .ok (.istore_n 2, 1) := by decide +kernel
theorem dX1_copyFrom_54 : decode cX1_copyFrom 54 = .ok (.iload_n 2, 1) := by decide +kernel
theorem dX1_copyFrom_55 : decode cX1_copyFrom 55 = .ok (.aload_n 0, 1) := by decide +kernel
theorem dX1_copyFrom_56 : decode cX1_copyFrom 56 = .ok (.getfield 27, 3) := by decide +kernel
theorem dX1_copyFrom_59 : decode cX1_copyFrom 59 = .ok (.arraylength, 1) := by decide +kernel
theorem dX1_copyFrom_60 : decode cX1_copyFrom 60 = .ok (.if_icmp .ge 33, 3) := by decide +kernel
theorem dX1_copyFrom_63 : decode cX1_copyFrom 63 = .ok (.iload_n 2, 1) := by decide +kernel
theorem dX1_copyFrom_64 : decode cX1_copyFrom 64 = .ok (.aload_n 1, 1) := by decide +kernel
theorem dX1_copyFrom_65 : decode cX1_copyFrom 65 = .ok (.getfield 27, 3) := by decide +kernel
theorem dX1_copyFrom_68 : decode cX1_copyFrom 68 = .ok (.arraylength, 1) := by decide +kernel
theorem dX1_copyFrom_69 : decode cX1_copyFrom 69 = .ok (.if_icmp .ge 24, 3) := by decide +kernel
theorem dX1_copyFrom_72 : decode cX1_copyFrom 72 = .ok (.aload_n 0, 1) := by decide +kernel
theorem dX1_copyFrom_73 : decode cX1_copyFrom 73 = .ok (.getfield 27, 3) := by decide +kernel
theorem dX1_copyFrom_76 : decode cX1_copyFrom 76 = .ok (.iload_n 2, 1) := by decide +kernel
theorem dX1_copyFrom_77 : decode cX1_copyFrom 77 = .ok (.aaload, 1) := by decide +kernel
theorem dX1_copyFrom_78 : decode cX1_copyFrom 78 = .ok (.aload_n 1, 1) := by decide +kernel
theorem dX1_copyFrom_79 : decode cX1_copyFrom 79 = .ok (.getfield 27, 3) := by decide +kernel
theorem dX1_copyFrom_82 : decode cX1_copyFrom 82 = .ok (.iload_n 2, 1) := by decide +kernel
theorem dX1_copyFrom_83 : decode cX1_copyFrom 83 = .ok (.aaload, 1) := by decide +kernel
theorem dX1_copyFrom_84 : decode cX1_copyFrom 84 = .ok (.invokevirtual 57, 3) := by decide +kernel
theorem dX1_copyFrom_87 : decode cX1_copyFrom 87 = .ok (.iinc 2 1, 3) := by decide +kernel
theorem dX1_copyFrom_90 : decode cX1_copyFrom 90 = .ok (.goto (-36), 3) := by decide +kernel
theorem dX1_copyFrom_93 : decode cX1_copyFrom 93 = .ok (.iconst 0, 1) := by decide +kernel
theorem dX1_copyFrom_94 : decode cX1_copyFrom 94 = .ok (.istore_n 2, 1) := by decide +kernel
theorem dX1_copyFrom_95 : decode cX1_copyFrom 95 = .ok (.iload_n 2, 1) := by decide +kernel
theorem dX1_copyFrom_96 : decode cX1_copyFrom 96 = .ok (.aload_n 0, 1) := by decide +kernel
theorem dX1_copyFrom_97 : decode cX1_copyFrom 97 = .ok (.getfield 32, 3) := by decide +kernel
theorem dX1_copyFrom_100 : decode cX1_copyFrom 100 = .ok (.arraylength, 1) := by decide +kernel
theorem dX1_copyFrom_101 : decode cX1_copyFrom 101 = .ok (.if_icmp .ge 33, 3) := by decide +kernel
theorem dX1_copyFrom_104 : decode cX1_copyFrom 104 = .ok (.iload_n 2, 1) := by decide +kernel
theorem dX1_copyFrom_105 : decode cX1_copyFrom 105 = .ok (.aload_n 1, 1) := by decide +kernel
theorem dX1_copyFrom_106 : decode cX1_copyFrom 106 = .ok (.getfield 32, 3) := by decide +kernel
theorem dX1_copyFrom_109 : decode cX1_copyFrom 109 = .ok (.arraylength, 1) := by decide +kernel
theorem dX1_copyFrom_110 : decode cX1_copyFrom 110 = .ok (.if_icmp .ge 24, 3) := by decide +kernel
theorem dX1_copyFrom_113 : decode cX1_copyFrom 113 = .ok (.aload_n 0, 1) := by decide +kernel
theorem dX1_copyFrom_114 : decode cX1_copyFrom 114 = .ok (.getfield 32, 3) := by decide +kernel
theorem dX1_copyFrom_117 : decode cX1_copyFrom 117 = .ok (.iload_n 2, 1) := by decide +kernel
theorem dX1_copyFrom_118 : decode cX1_copyFrom 118 = .ok (.aaload, 1) := by decide +kernel
theorem dX1_copyFrom_119 : decode cX1_copyFrom 119 = .ok (.aload_n 1, 1) := by decide +kernel
theorem dX1_copyFrom_120 : decode cX1_copyFrom 120 = .ok (.getfield 32, 3) := by decide +kernel
theorem dX1_copyFrom_123 : decode cX1_copyFrom 123 = .ok (.iload_n 2, 1) := by decide +kernel
theorem dX1_copyFrom_124 : decode cX1_copyFrom 124 = .ok (.aaload, 1) := by decide +kernel
theorem dX1_copyFrom_125 : decode cX1_copyFrom 125 = .ok (.invokevirtual 50, 3) := by decide +kernel
theorem dX1_copyFrom_128 : decode cX1_copyFrom 128 = .ok (.iinc 2 1, 3) := by decide +kernel
theorem dX1_copyFrom_131 : decode cX1_copyFrom 131 = .ok (.goto (-36), 3) := by decide +kernel
theorem dX1_copyFrom_134 : decode cX1_copyFrom 134 = .ok (.aload_n 0, 1) := by decide +kernel
theorem dX1_copyFrom_135 : decode cX1_copyFrom 135 = .ok (.aload_n 1, 1) := by decide +kernel
theorem dX1_copyFrom_136 : decode cX1_copyFrom 136 = .ok (.getfield 40, 3) := by decide +kernel
theorem dX1_copyFrom_139 : decode cX1_copyFrom 139 = .ok (.putfield 40, 3) := by decide +kernel
theorem dX1_copyFrom_142 : decode cX1_copyFrom 142 = .ok (.aload_n 0, 1) := by decide +kernel
theorem dX1_copyFrom_143 : decode cX1_copyFrom 143 = .ok (.aload_n 1, 1) := by decide +kernel
theorem dX1_copyFrom_144 : decode cX1_copyFrom 144 = .ok (.getfield 44, 3) := by decide +kernel
theorem dX1_copyFrom_147 : decode cX1_copyFrom 147 = .ok (.putfield 44, 3) := by decide +kernel
theorem dX1_copyFrom_150 : decode cX1_copyFrom 150 = .ok (.aload_n 0, 1) := by decide +kernel
theorem dX1_copyFrom_151 : decode cX1_copyFrom 151 = .ok (.aload_n 1, 1) := by decide +kernel
theorem dX1_copyFrom_152 : decode cX1_copyFrom 152 = .ok (.getfield 47, 3) := by decide +kernel
theorem dX1_copyFrom_155 : decode cX1_copyFrom 155 = .ok (.putfield 47, 3) := by decide +kernel
theorem dX1_copyFrom_158 : decode cX1_copyFrom 158 = .ok (.return_, 1) := by decide +kernel
theorem dX1_deputyAt_0 : decode cX1_deputyAt 0 = .ok (.iload_n 1, 1) := by decide +kernel
theorem dX1_deputyAt_1 : decode cX1_deputyAt 1 = .ok (.ifCond .lt 29, 3) := by decide +kernel
theorem dX1_deputyAt_4 : decode cX1_deputyAt 4 = .ok (.iload_n 1, 1) := by decide +kernel
theorem dX1_deputyAt_5 : decode cX1_deputyAt 5 = .ok (.aload_n 0, 1) := by decide +kernel
theorem dX1_deputyAt_6 : decode cX1_deputyAt 6 = .ok (.getfield 40, 3) := by decide +kernel
theorem dX1_deputyAt_9 : decode cX1_deputyAt 9 = .ok (.if_icmp .ge 21, 3) := by decide +kernel
theorem dX1_deputyAt_12 : decode cX1_deputyAt 12 = .ok (.iload_n 1, 1) := by decide +kernel
theorem dX1_deputyAt_13 : decode cX1_deputyAt 13 = .ok (.aload_n 0, 1) := by decide +kernel
theorem dX1_deputyAt_14 : decode cX1_deputyAt 14 = .ok (.getfield 20, 3) := by decide +kernel
theorem dX1_deputyAt_17 : decode cX1_deputyAt 17 = .ok (.arraylength, 1) := by decide +kernel
theorem dX1_deputyAt_18 : decode cX1_deputyAt 18 = .ok (.if_icmp .ge 12, 3) := by decide +kernel
theorem dX1_deputyAt_21 : decode cX1_deputyAt 21 = .ok (.aload_n 0, 1) := by decide +kernel
theorem dX1_deputyAt_22 : decode cX1_deputyAt 22 = .ok (.getfield 20, 3) := by decide +kernel
theorem dX1_deputyAt_25 : decode cX1_deputyAt 25 = .ok (.iload_n 1, 1) := by decide +kernel
theorem dX1_deputyAt_26 : decode cX1_deputyAt 26 = .ok (.aaload, 1) := by decide +kernel
theorem dX1_deputyAt_27 : decode cX1_deputyAt 27 = .ok (.goto 4, 3) := by decide +kernel
theorem dX1_deputyAt_30 : decode cX1_deputyAt 30 = .ok (.aconst_null, 1) := by decide +kernel
theorem dX1_deputyAt_31 : decode cX1_deputyAt 31 = .ok (.areturn, 1) := by decide +kernel
theorem dX1_noteAt_0 : decode cX1_noteAt 0 = .ok (.iload_n 1, 1) := by decide +kernel
theorem dX1_noteAt_1 : decode cX1_noteAt 1 = .ok (.ifCond .lt 29, 3) := by decide +kernel
theorem dX1_noteAt_4 : decode cX1_noteAt 4 = .ok (.iload_n 1, 1) := by decide +kernel
theorem dX1_noteAt_5 : decode cX1_noteAt 5 = .ok (.aload_n 0, 1) := by decide +kernel
theorem dX1_noteAt_6 : decode cX1_noteAt 6 = .ok (.getfield 44, 3) := by decide +kernel
theorem dX1_noteAt_9 : decode cX1_noteAt 9 = .ok (.if_icmp .ge 21, 3) := by decide +kernel
theorem dX1_noteAt_12 : decode cX1_noteAt 12 = .ok (.iload_n 1, 1) := by decide +kernel
theorem dX1_noteAt_13 : decode cX1_noteAt 13 = .ok (.aload_n 0, 1) := by decide +kernel
theorem dX1_noteAt_14 : decode cX1_noteAt 14 = .ok (.getfield 27, 3) := by decide +kernel
theorem dX1_noteAt_17 : decode cX1_noteAt 17 = .ok (.arraylength, 1) := by decide +kernel
theorem dX1_noteAt_18 : decode cX1_noteAt 18 = .ok (.if_icmp .ge 12, 3) := by decide +kernel
theorem dX1_noteAt_21 : decode cX1_noteAt 21 = .ok (.aload_n 0, 1) := by decide +kernel
theorem dX1_noteAt_22 : decode cX1_noteAt 22 = .ok (.getfield 27, 3) := by decide +kernel
theorem dX1_noteAt_25 : decode cX1_noteAt 25 = .ok (.iload_n 1, 1) := by decide +kernel
theorem dX1_noteAt_26 : decode cX1_noteAt 26 = .ok (.aaload, 1) := by decide +kernel
theorem dX1_noteAt_27 : decode cX1_noteAt 27 = .ok (.goto 4, 3) := by decide +kernel
theorem dX1_noteAt_30 : decode cX1_noteAt 30 = .ok (.aconst_null, 1) := by decide +kernel
theorem dX1_noteAt_31 : decode cX1_noteAt 31 = .ok (.areturn, 1) := by decide +kernel
theorem dX1_addDeputy_0 : decode cX1_addDeputy 0 = .ok (.aload_n 0, 1) := by decide +kernel
theorem dX1_addDeputy_1 : decode cX1_addDeputy 1 = .ok (.getfield 40, 3) := by decide +kernel
theorem dX1_addDeputy_4 : decode cX1_addDeputy 4 = .ok (.ifCond .lt 15, 3) := by decide +kernel
theorem dX1_addDeputy_7 : decode cX1_addDeputy 7 = .ok (.aload_n 0, 1) := by decide +kernel
theorem dX1_addDeputy_8 : decode cX1_addDeputy 8 = .ok (.getfield 40, 3) := by decide +kernel
theorem dX1_addDeputy_11 : decode cX1_addDeputy 11 = .ok (.aload_n 0, 1) := by decide +kernel
theorem dX1_addDeputy_12 : decode cX1_addDeputy 12 = .ok (.getfield 20, 3) := by decide +kernel
theorem dX1_addDeputy_15 : decode cX1_addDeputy 15 = .ok (.arraylength, 1) := by decide +kernel
theorem dX1_addDeputy_16 : decode cX1_addDeputy 16 = .ok (.if_icmp .lt 4, 3) := by decide +kernel
theorem dX1_addDeputy_19 : decode cX1_addDeputy 19 = .ok (.return_, 1) := by decide +kernel
theorem dX1_addDeputy_20 : decode cX1_addDeputy 20 = .ok (.aload_n 0, 1) := by decide +kernel
theorem dX1_addDeputy_21 : decode cX1_addDeputy 21 = .ok (.getfield 20, 3) := by decide +kernel
theorem dX1_addDeputy_24 : decode cX1_addDeputy 24 = .ok (.aload_n 0, 1) := by decide +kernel
theorem dX1_addDeputy_25 : decode cX1_addDeputy 25 = .ok (.getfield 40, 3) := by decide +kernel
theorem dX1_addDeputy_28 : decode cX1_addDeputy 28 = .ok (.aaload, 1) := by decide +kernel
theorem dX1_addDeputy_29 : decode cX1_addDeputy 29 = .ok (.astore 5, 2) := by decide +kernel
theorem dX1_addDeputy_31 : decode cX1_addDeputy 31 = .ok (.aload 5, 2) := by decide +kernel
theorem dX1_addDeputy_33 : decode cX1_addDeputy 33 = .ok (.iload_n 1, 1) := by decide +kernel
theorem dX1_addDeputy_34 : decode cX1_addDeputy 34 = .ok (.putfield 60, 3) := by decide +kernel
theorem dX1_addDeputy_37 : decode cX1_addDeputy 37 = .ok (.aload 5, 2) := by decide +kernel
theorem dX1_addDeputy_39 : decode cX1_addDeputy 39 = .ok (.iload_n 2, 1) := by decide +kernel
theorem dX1_addDeputy_40 : decode cX1_addDeputy 40 = .ok (.putfield 63, 3) := by decide +kernel
theorem dX1_addDeputy_43 : decode cX1_addDeputy 43 = .ok (.aload 5, 2) := by decide +kernel
theorem dX1_addDeputy_45 : decode cX1_addDeputy 45 = .ok (.iload_n 3, 1) := by decide +kernel
theorem dX1_addDeputy_46 : decode cX1_addDeputy 46 = .ok (.putfield 66, 3) := by decide +kernel
theorem dX1_addDeputy_49 : decode cX1_addDeputy 49 = .ok (.aload 5, 2) := by decide +kernel
theorem dX1_addDeputy_51 : decode cX1_addDeputy 51 = .ok (.iload 4, 2) := by decide +kernel
theorem dX1_addDeputy_53 : decode cX1_addDeputy 53 = .ok (.putfield 69, 3) := by decide +kernel
theorem dX1_addDeputy_56 : decode cX1_addDeputy 56 = .ok (.aload_n 0, 1) := by decide +kernel
theorem dX1_addDeputy_57 : decode cX1_addDeputy 57 = .ok (.dup, 1) := by decide +kernel
theorem dX1_addDeputy_58 : decode cX1_addDeputy 58 = .ok (.getfield 40, 3) := by decide +kernel
theorem dX1_addDeputy_61 : decode cX1_addDeputy 61 = .ok (.iconst 1, 1) := by decide +kernel
theorem dX1_addDeputy_62 : decode cX1_addDeputy 62 = .ok (.iadd, 1) := by decide +kernel
theorem dX1_addDeputy_63 : decode cX1_addDeputy 63 = .ok (.putfield 40, 3) := by decide +kernel
theorem dX1_addDeputy_66 : decode cX1_addDeputy 66 = .ok (.aload_n 0, 1) := by decide +kernel
theorem dX1_addDeputy_67 : decode cX1_addDeputy 67 = .ok (.iconst 0, 1) := by decide +kernel
theorem dX1_addDeputy_68 : decode cX1_addDeputy 68 = .ok (.putfield 47, 3) := by decide +kernel
theorem dX1_addDeputy_71 : decode cX1_addDeputy 71 = .ok (.return_, 1) := by decide +kernel
theorem dX1_addNote_0 : decode cX1_addNote 0 = .ok (.aload_n 0, 1) := by decide +kernel
theorem dX1_addNote_1 : decode cX1_addNote 1 = .ok (.getfield 44, 3) := by decide +kernel
theorem dX1_addNote_4 : decode cX1_addNote 4 = .ok (.ifCond .lt 15, 3) := by decide +kernel
theorem dX1_addNote_7 : decode cX1_addNote 7 = .ok (.aload_n 0, 1) := by decide +kernel
theorem dX1_addNote_8 : decode cX1_addNote 8 = .ok (.getfield 44, 3) := by decide +kernel
theorem dX1_addNote_11 : decode cX1_addNote 11 = .ok (.aload_n 0, 1) := by decide +kernel
theorem dX1_addNote_12 : decode cX1_addNote 12 = .ok (.getfield 27, 3) := by decide +kernel
theorem dX1_addNote_15 : decode cX1_addNote 15 = .ok (.arraylength, 1) := by decide +kernel
theorem dX1_addNote_16 : decode cX1_addNote 16 = .ok (.if_icmp .lt 4, 3) := by decide +kernel
theorem dX1_addNote_19 : decode cX1_addNote 19 = .ok (.return_, 1) := by decide +kernel
theorem dX1_addNote_20 : decode cX1_addNote 20 = .ok (.aload_n 0, 1) := by decide +kernel
theorem dX1_addNote_21 : decode cX1_addNote 21 = .ok (.getfield 27, 3) := by decide +kernel
theorem dX1_addNote_24 : decode cX1_addNote 24 = .ok (.aload_n 0, 1) := by decide +kernel
theorem dX1_addNote_25 : decode cX1_addNote 25 = .ok (.getfield 44, 3) := by decide +kernel
theorem dX1_addNote_28 : decode cX1_addNote 28 = .ok (.aaload, 1) := by decide +kernel
theorem dX1_addNote_29 : decode cX1_addNote 29 = .ok (.astore 5, 2) := by decide +kernel
theorem dX1_addNote_31 : decode cX1_addNote 31 = .ok (.aload 5, 2) := by decide +kernel
theorem dX1_addNote_33 : decode cX1_addNote 33 = .ok (.iload_n 1, 1) := by decide +kernel
theorem dX1_addNote_34 : decode cX1_addNote 34 = .ok (.putfield 72, 3) := by decide +kernel
theorem dX1_addNote_37 : decode cX1_addNote 37 = .ok (.aload 5, 2) := by decide +kernel
theorem dX1_addNote_39 : decode cX1_addNote 39 = .ok (.iload_n 2, 1) := by decide +kernel
theorem dX1_addNote_40 : decode cX1_addNote 40 = .ok (.putfield 75, 3) := by decide +kernel
theorem dX1_addNote_43 : decode cX1_addNote 43 = .ok (.aload 5, 2) := by decide +kernel
theorem dX1_addNote_45 : decode cX1_addNote 45 = .ok (.iload_n 3, 1) := by decide +kernel
theorem dX1_addNote_46 : decode cX1_addNote 46 = .ok (.putfield 78, 3) := by decide +kernel
theorem dX1_addNote_49 : decode cX1_addNote 49 = .ok (.aload 5, 2) := by decide +kernel
theorem dX1_addNote_51 : decode cX1_addNote 51 = .ok (.iload 4, 2) := by decide +kernel
theorem dX1_addNote_53 : decode cX1_addNote 53 = .ok (.putfield 81, 3) := by decide +kernel
theorem dX1_addNote_56 : decode cX1_addNote 56 = .ok (.aload_n 0, 1) := by decide +kernel
theorem dX1_addNote_57 : decode cX1_addNote 57 = .ok (.dup, 1) := by decide +kernel
theorem dX1_addNote_58 : decode cX1_addNote 58 = .ok (.getfield 44, 3) := by decide +kernel
theorem dX1_addNote_61 : decode cX1_addNote 61 = .ok (.iconst 1, 1) := by decide +kernel
theorem dX1_addNote_62 : decode cX1_addNote 62 = .ok (.iadd, 1) := by decide +kernel
theorem dX1_addNote_63 : decode cX1_addNote 63 = .ok (.putfield 44, 3) := by decide +kernel
theorem dX1_addNote_66 : decode cX1_addNote 66 = .ok (.return_, 1) := by decide +kernel
theorem dX1_remember_0 : decode cX1_remember 0 = .ok (.aload_n 0, 1) := by decide +kernel
theorem dX1_remember_1 : decode cX1_remember 1 = .ok (.getfield 47, 3) := by decide +kernel
theorem dX1_remember_4 : decode cX1_remember 4 = .ok (.aload_n 0, 1) := by decide +kernel
theorem dX1_remember_5 : decode cX1_remember 5 = .ok (.getfield 32, 3) := by decide +kernel
theorem dX1_remember_8 : decode cX1_remember 8 = .ok (.arraylength, 1) := by decide +kernel
theorem dX1_remember_9 : decode cX1_remember 9 = .ok (.if_icmp .lt 48, 3) := by decide +kernel
theorem dX1_remember_12 : decode cX1_remember 12 = .ok (.iconst 1, 1) := by decide +kernel
theorem dX1_remember_13 : decode cX1_remember 13 = .ok (.istore_n 1, 1) := by decide +kernel
theorem dX1_remember_14 : decode cX1_remember 14 = .ok (.iload_n 1, 1) := by decide +kernel
theorem dX1_remember_15 : decode cX1_remember 15 = .ok (.aload_n 0, 1) := by decide +kernel
theorem dX1_remember_16 : decode cX1_remember 16 = .ok (.getfield 32, 3) := by decide +kernel
theorem dX1_remember_19 : decode cX1_remember 19 = .ok (.arraylength, 1) := by decide +kernel
theorem dX1_remember_20 : decode cX1_remember 20 = .ok (.if_icmp .ge 26, 3) := by decide +kernel
theorem dX1_remember_23 : decode cX1_remember 23 = .ok (.aload_n 0, 1) := by decide +kernel
theorem dX1_remember_24 : decode cX1_remember 24 = .ok (.getfield 32, 3) := by decide +kernel
theorem dX1_remember_27 : decode cX1_remember 27 = .ok (.iload_n 1, 1) := by decide +kernel
theorem dX1_remember_28 : decode cX1_remember 28 = .ok (.iconst 1, 1) := by decide +kernel
theorem dX1_remember_29 : decode cX1_remember 29 = .ok (.isub, 1) := by decide +kernel
theorem dX1_remember_30 : decode cX1_remember 30 = .ok (.aaload, 1) := by decide +kernel
theorem dX1_remember_31 : decode cX1_remember 31 = .ok (.aload_n 0, 1) := by decide +kernel
theorem dX1_remember_32 : decode cX1_remember 32 = .ok (.getfield 32, 3) := by decide +kernel
theorem dX1_remember_35 : decode cX1_remember 35 = .ok (.iload_n 1, 1) := by decide +kernel
theorem dX1_remember_36 : decode cX1_remember 36 = .ok (.aaload, 1) := by decide +kernel
theorem dX1_remember_37 : decode cX1_remember 37 = .ok (.invokevirtual 50, 3) := by decide +kernel
theorem dX1_remember_40 : decode cX1_remember 40 = .ok (.iinc 1 1, 3) := by decide +kernel
theorem dX1_remember_43 : decode cX1_remember 43 = .ok (.goto (-29), 3) := by decide +kernel
theorem dX1_remember_46 : decode cX1_remember 46 = .ok (.aload_n 0, 1) := by decide +kernel
theorem dX1_remember_47 : decode cX1_remember 47 = .ok (.aload_n 0, 1) := by decide +kernel
theorem dX1_remember_48 : decode cX1_remember 48 = .ok (.getfield 32, 3) := by decide +kernel
theorem dX1_remember_51 : decode cX1_remember 51 = .ok (.arraylength, 1) := by decide +kernel
theorem dX1_remember_52 : decode cX1_remember 52 = .ok (.iconst 1, 1) := by decide +kernel
theorem dX1_remember_53 : decode cX1_remember 53 = .ok (.isub, 1) := by decide +kernel
theorem dX1_remember_54 : decode cX1_remember 54 = .ok (.putfield 47, 3) := by decide +kernel
theorem dX1_remember_57 : decode cX1_remember 57 = .ok (.aload_n 0, 1) := by decide +kernel
theorem dX1_remember_58 : decode cX1_remember 58 = .ok (.getfield 47, 3) := by decide +kernel
theorem dX1_remember_61 : decode cX1_remember 61 = .ok (.ifCond .lt 41, 3) := by decide +kernel
theorem dX1_remember_64 : decode cX1_remember 64 = .ok (.aload_n 0, 1) := by decide +kernel
theorem dX1_remember_65 : decode cX1_remember 65 = .ok (.getfield 47, 3) := by decide +kernel
theorem dX1_remember_68 : decode cX1_remember 68 = .ok (.aload_n 0, 1) := by decide +kernel
theorem dX1_remember_69 : decode cX1_remember 69 = .ok (.getfield 32, 3) := by decide +kernel
theorem dX1_remember_72 : decode cX1_remember 72 = .ok (.arraylength, 1) := by decide +kernel
theorem dX1_remember_73 : decode cX1_remember 73 = .ok (.if_icmp .ge 29, 3) := by decide +kernel
theorem dX1_remember_76 : decode cX1_remember 76 = .ok (.aload_n 0, 1) := by decide +kernel
theorem dX1_remember_77 : decode cX1_remember 77 = .ok (.getfield 32, 3) := by decide +kernel
theorem dX1_remember_80 : decode cX1_remember 80 = .ok (.aload_n 0, 1) := by decide +kernel
theorem dX1_remember_81 : decode cX1_remember 81 = .ok (.getfield 47, 3) := by decide +kernel
theorem dX1_remember_84 : decode cX1_remember 84 = .ok (.aaload, 1) := by decide +kernel
theorem dX1_remember_85 : decode cX1_remember 85 = .ok (.aload_n 0, 1) := by decide +kernel
theorem dX1_remember_86 : decode cX1_remember 86 = .ok (.getfield 12, 3) := by decide +kernel
theorem dX1_remember_89 : decode cX1_remember 89 = .ok (.invokevirtual 50, 3) := by decide +kernel
theorem dX1_remember_92 : decode cX1_remember 92 = .ok (.aload_n 0, 1) := by decide +kernel
theorem dX1_remember_93 : decode cX1_remember 93 = .ok (.dup, 1) := by decide +kernel
theorem dX1_remember_94 : decode cX1_remember 94 = .ok (.getfield 47, 3) := by decide +kernel
theorem dX1_remember_97 : decode cX1_remember 97 = .ok (.iconst 1, 1) := by decide +kernel
theorem dX1_remember_98 : decode cX1_remember 98 = .ok (.iadd, 1) := by decide +kernel
theorem dX1_remember_99 : decode cX1_remember 99 = .ok (.putfield 47, 3) := by decide +kernel
theorem dX1_remember_102 : decode cX1_remember 102 = .ok (.return_, 1) := by decide +kernel
theorem dX1_goBack_0 : decode cX1_goBack 0 = .ok (.aload_n 0, 1) := by decide +kernel
theorem dX1_goBack_1 : decode cX1_goBack 1 = .ok (.getfield 47, 3) := by decide +kernel
theorem dX1_goBack_4 : decode cX1_goBack 4 = .ok (.ifCond .le 41, 3) := by decide +kernel
theorem dX1_goBack_7 : decode cX1_goBack 7 = .ok (.aload_n 0, 1) := by decide +kernel
theorem dX1_goBack_8 : decode cX1_goBack 8 = .ok (.getfield 47, 3) := by decide +kernel
theorem dX1_goBack_11 : decode cX1_goBack 11 = .ok (.aload_n 0, 1) := by decide +kernel
theorem dX1_goBack_12 : decode cX1_goBack 12 = .ok (.getfield 32, 3) := by decide +kernel
theorem dX1_goBack_15 : decode cX1_goBack 15 = .ok (.arraylength, 1) := by decide +kernel
theorem dX1_goBack_16 : decode cX1_goBack 16 = .ok (.if_icmp .gt 29, 3) := by decide +kernel
theorem dX1_goBack_19 : decode cX1_goBack 19 = .ok (.aload_n 0, 1) := by decide +kernel
theorem dX1_goBack_20 : decode cX1_goBack 20 = .ok (.dup, 1) := by decide +kernel
theorem dX1_goBack_21 : decode cX1_goBack 21 = .ok (.getfield 47, 3) := by decide +kernel
theorem dX1_goBack_24 : decode cX1_goBack 24 = .ok (.iconst 1, 1) := by decide +kernel
theorem dX1_goBack_25 : decode cX1_goBack 25 = .ok (.isub, 1) := by decide +kernel
theorem dX1_goBack_26 : decode cX1_goBack 26 = .ok (.putfield 47, 3) := by decide +kernel
theorem dX1_goBack_29 : decode cX1_goBack 29 = .ok (.aload_n 0, 1) := by decide +kernel
theorem dX1_goBack_30 : decode cX1_goBack 30 = .ok (.getfield 12, 3) := by decide +kernel
theorem dX1_goBack_33 : decode cX1_goBack 33 = .ok (.aload_n 0, 1) := by decide +kernel
theorem dX1_goBack_34 : decode cX1_goBack 34 = .ok (.getfield 32, 3) := by decide +kernel
theorem dX1_goBack_37 : decode cX1_goBack 37 = .ok (.aload_n 0, 1) := by decide +kernel
theorem dX1_goBack_38 : decode cX1_goBack 38 = .ok (.getfield 47, 3) := by decide +kernel
theorem dX1_goBack_41 : decode cX1_goBack 41 = .ok (.aaload, 1) := by decide +kernel
theorem dX1_goBack_42 : decode cX1_goBack 42 = .ok (.invokevirtual 50, 3) := by decide +kernel
theorem dX1_goBack_45 : decode cX1_goBack 45 = .ok (.return_, 1) := by decide +kernel
theorem dX1_readFrom_0 : decode cX1_readFrom 0 = .ok (.aload_n 0, 1) := by decide +kernel
theorem dX1_readFrom_1 : decode cX1_readFrom 1 = .ok (.iconst 0, 1) := by decide +kernel
theorem dX1_readFrom_2 : decode cX1_readFrom 2 = .ok (.invokevirtual 84, 3) := by decide +kernel
theorem dX1_readFrom_5 : decode cX1_readFrom 5 = .ok (.aload_n 1, 1) := by decide +kernel
theorem dX1_readFrom_6 : decode cX1_readFrom 6 = .ok (.invokevirtual 85, 3) := by decide +kernel
theorem dX1_readFrom_9 : decode cX1_readFrom 9 = .ok (.iconst 0, 1) := by decide +kernel
theorem dX1_readFrom_10 : decode cX1_readFrom 10 = .ok (.istore_n 2, 1) := by decide +kernel
theorem dX1_readFrom_11 : decode cX1_readFrom 11 = .ok (.iload_n 2, 1) := by decide +kernel
theorem dX1_readFrom_12 : decode cX1_readFrom 12 = .ok (.sipush 150, 3) := by decide +kernel
theorem dX1_readFrom_15 : decode cX1_readFrom 15 = .ok (.if_icmp .gt 45, 3) := by decide +kernel
theorem dX1_readFrom_18 : decode cX1_readFrom 18 = .ok (.iload_n 2, 1) := by decide +kernel
theorem dX1_readFrom_19 : decode cX1_readFrom 19 = .ok (.ifCond .eq 10, 3) := by decide +kernel
theorem dX1_readFrom_22 : decode cX1_readFrom 22 = .ok (.aload_n 1, 1) := by decide +kernel
theorem dX1_readFrom_23 : decode cX1_readFrom 23 = .ok (.invokevirtual 90, 3) := by decide +kernel
theorem dX1_readFrom_26 : decode cX1_readFrom 26 = .ok (.ifCond .ne 34, 3) := by decide +kernel
theorem dX1_readFrom_29 : decode cX1_readFrom 29 = .ok (.aload_n 0, 1) := by decide +kernel
theorem dX1_readFrom_30 : decode cX1_readFrom 30 = .ok (.aload_n 1, 1) := by decide +kernel
theorem dX1_readFrom_31 : decode cX1_readFrom 31 = .ok (.iload_n 2, 1) := by decide +kernel
theorem dX1_readFrom_32 : decode cX1_readFrom 32 = .ok (.ifCond .ne 7, 3) := by decide +kernel
theorem dX1_readFrom_35 : decode cX1_readFrom 35 = .ok (.iconst 1, 1) := by decide +kernel
theorem dX1_readFrom_36 : decode cX1_readFrom 36 = .ok (.goto 4, 3) := by decide +kernel
theorem dX1_readFrom_39 : decode cX1_readFrom 39 = .ok (.iconst 0, 1) := by decide +kernel
theorem dX1_readFrom_40 : decode cX1_readFrom 40 = .ok (.invokevirtual 94, 3) := by decide +kernel
theorem dX1_readFrom_43 : decode cX1_readFrom 43 = .ok (.ifCond .ne 11, 3) := by decide +kernel
theorem dX1_readFrom_46 : decode cX1_readFrom 46 = .ok (.bipush (-10), 2) := by decide +kernel
theorem dX1_readFrom_48 : decode cX1_readFrom 48 = .ok (.aload_n 1, 1) := by decide +kernel
theorem dX1_readFrom_49 : decode cX1_readFrom 49 = .ok (.getfield 98, 3) := by decide +kernel
theorem dX1_readFrom_52 : decode cX1_readFrom 52 = .ok (.isub, 1) := by decide +kernel
theorem dX1_readFrom_53 : decode cX1_readFrom 53 = .ok (.ireturn, 1) := by decide +kernel
theorem dX1_readFrom_54 : decode cX1_readFrom 54 = .ok (.iinc 2 1, 3) := by decide +kernel
theorem dX1_readFrom_57 : decode cX1_readFrom 57 = .ok (.goto (-46), 3) := by decide +kernel
theorem dX1_readFrom_60 : decode cX1_readFrom 60 = .ok (.iload_n 2, 1) := by decide +kernel
theorem dX1_readFrom_61 : decode cX1_readFrom 61 = .ok (.ireturn, 1) := by decide +kernel
theorem dX1_takeItem_0 : decode cX1_takeItem 0 = .ok (.aload_n 1, 1) := by decide +kernel
theorem dX1_takeItem_1 : decode cX1_takeItem 1 = .ok (.ldc 101, 2) := by decide +kernel
theorem dX1_takeItem_3 : decode cX1_takeItem 3 = .ok (.invokevirtual 103, 3) := by decide +kernel
theorem dX1_takeItem_6 : decode cX1_takeItem 6 = .ok (.iload_n 2, 1) := by decide +kernel
theorem dX1_takeItem_7 : decode cX1_takeItem 7 = .ok (.if_icmp .eq 5, 3) := by decide +kernel
theorem dX1_takeItem_10 : decode cX1_takeItem 10 = .ok (.iconst 0, 1) := by decide +kernel
theorem dX1_takeItem_11 : decode cX1_takeItem 11 = .ok (.ireturn, 1) := by decide +kernel
theorem dX1_takeItem_12 : decode cX1_takeItem 12 = .ok (.iload_n 2, 1) := by decide +kernel
theorem dX1_takeItem_13 : decode cX1_takeItem 13 = .ok (.ifCond .eq 9, 3) := by decide +kernel
theorem dX1_takeItem_16 : decode cX1_takeItem 16 = .ok (.aload_n 0, 1) := by decide +kernel
theorem dX1_takeItem_17 : decode cX1_takeItem 17 = .ok (.aload_n 1, 1) := by decide +kernel
theorem dX1_takeItem_18 : decode cX1_takeItem 18 = .ok (.invokevirtual 107, 3) := by decide +kernel
theorem dX1_takeItem_21 : decode cX1_takeItem 21 = .ok (.ireturn, 1) := by decide +kernel
theorem dX1_takeItem_22 : decode cX1_takeItem 22 = .ok (.aload_n 1, 1) := by decide +kernel
theorem dX1_takeItem_23 : decode cX1_takeItem 23 = .ok (.ldc 111, 2) := by decide +kernel
theorem dX1_takeItem_25 : decode cX1_takeItem 25 = .ok (.invokevirtual 103, 3) := by decide +kernel
theorem dX1_takeItem_28 : decode cX1_takeItem 28 = .ok (.ifCond .eq 9, 3) := by decide +kernel
theorem dX1_takeItem_31 : decode cX1_takeItem 31 = .ok (.aload_n 0, 1) := by decide +kernel
theorem dX1_takeItem_32 : decode cX1_takeItem 32 = .ok (.aload_n 1, 1) := by decide +kernel
theorem dX1_takeItem_33 : decode cX1_takeItem 33 = .ok (.invokevirtual 112, 3) := by decide +kernel
theorem dX1_takeItem_36 : decode cX1_takeItem 36 = .ok (.ireturn, 1) := by decide +kernel
theorem dX1_takeItem_37 : decode cX1_takeItem 37 = .ok (.aload_n 1, 1) := by decide +kernel
theorem dX1_takeItem_38 : decode cX1_takeItem 38 = .ok (.ldc 115, 2) := by decide +kernel
theorem dX1_takeItem_40 : decode cX1_takeItem 40 = .ok (.invokevirtual 103, 3) := by decide +kernel
theorem dX1_takeItem_43 : decode cX1_takeItem 43 = .ok (.ifCond .eq 10, 3) := by decide +kernel
theorem dX1_takeItem_46 : decode cX1_takeItem 46 = .ok (.aload_n 0, 1) := by decide +kernel
theorem dX1_takeItem_47 : decode cX1_takeItem 47 = .ok (.aload_n 1, 1) := by decide +kernel
theorem dX1_takeItem_48 : decode cX1_takeItem 48 = .ok (.iconst 1, 1) := by decide +kernel
theorem dX1_takeItem_49 : decode cX1_takeItem 49 = .ok (.invokevirtual 116, 3) := by decide +kernel
theorem dX1_takeItem_52 : decode cX1_takeItem 52 = .ok (.ireturn, 1) := by decide +kernel
theorem dX1_takeItem_53 : decode cX1_takeItem 53 = .ok (.aload_n 1, 1) := by decide +kernel
theorem dX1_takeItem_54 : decode cX1_takeItem 54 = .ok (.ldc 119, 2) := by decide +kernel
theorem dX1_takeItem_56 : decode cX1_takeItem 56 = .ok (.invokevirtual 103, 3) := by decide +kernel
theorem dX1_takeItem_59 : decode cX1_takeItem 59 = .ok (.ifCond .eq 10, 3) := by decide +kernel
theorem dX1_takeItem_62 : decode cX1_takeItem 62 = .ok (.aload_n 0, 1) := by decide +kernel
theorem dX1_takeItem_63 : decode cX1_takeItem 63 = .ok (.aload_n 1, 1) := by decide +kernel
theorem dX1_takeItem_64 : decode cX1_takeItem 64 = .ok (.iconst 0, 1) := by decide +kernel
theorem dX1_takeItem_65 : decode cX1_takeItem 65 = .ok (.invokevirtual 116, 3) := by decide +kernel
theorem dX1_takeItem_68 : decode cX1_takeItem 68 = .ok (.ireturn, 1) := by decide +kernel
theorem dX1_takeItem_69 : decode cX1_takeItem 69 = .ok (.aload_n 1, 1) := by decide +kernel
theorem dX1_takeItem_70 : decode cX1_takeItem 70 = .ok (.ldc 120, 2) := by decide +kernel
theorem dX1_takeItem_72 : decode cX1_takeItem 72 = .ok (.invokevirtual 103, 3) := by decide +kernel
theorem dX1_takeItem_75 : decode cX1_takeItem 75 = .ok (.ifCond .eq 15, 3) := by decide +kernel
theorem dX1_takeItem_78 : decode cX1_takeItem 78 = .ok (.aload_n 0, 1) := by decide +kernel
theorem dX1_takeItem_79 : decode cX1_takeItem 79 = .ok (.aload_n 1, 1) := by decide +kernel
theorem dX1_takeItem_80 : decode cX1_takeItem 80 = .ok (.invokevirtual 122, 3) := by decide +kernel
theorem dX1_takeItem_83 : decode cX1_takeItem 83 = .ok (.ifCond .eq 7, 3) := by decide +kernel
theorem dX1_takeItem_86 : decode cX1_takeItem 86 = .ok (.iconst 1, 1) := by decide +kernel
theorem dX1_takeItem_87 : decode cX1_takeItem 87 = .ok (.goto 4, 3) := by decide +kernel
theorem dX1_takeItem_90 : decode cX1_takeItem 90 = .ok (.iconst 0, 1) := by decide +kernel
theorem dX1_takeItem_91 : decode cX1_takeItem 91 = .ok (.ireturn, 1) := by decide +kernel
theorem dX1_takeDay_0 : decode cX1_takeDay 0 = .ok (.aload_n 1, 1) := by decide +kernel
theorem dX1_takeDay_1 : decode cX1_takeDay 1 = .ok (.invokevirtual 125, 3) := by decide +kernel
theorem dX1_takeDay_4 : decode cX1_takeDay 4 = .ok (.aload_n 0, 1) := by decide +kernel
theorem dX1_takeDay_5 : decode cX1_takeDay 5 = .ok (.getfield 12, 3) := by decide +kernel
theorem dX1_takeDay_8 : decode cX1_takeDay 8 = .ok (.aload_n 1, 1) := by decide +kernel
theorem dX1_takeDay_9 : decode cX1_takeDay 9 = .ok (.bipush 99, 2) := by decide +kernel
theorem dX1_takeDay_11 : decode cX1_takeDay 11 = .ok (.invokevirtual 128, 3) := by decide +kernel
theorem dX1_takeDay_14 : decode cX1_takeDay 14 = .ok (.putfield 132, 3) := by decide +kernel
theorem dX1_takeDay_17 : decode cX1_takeDay 17 = .ok (.aload_n 0, 1) := by decide +kernel
theorem dX1_takeDay_18 : decode cX1_takeDay 18 = .ok (.getfield 12, 3) := by decide +kernel
theorem dX1_takeDay_21 : decode cX1_takeDay 21 = .ok (.getfield 132, 3) := by decide +kernel
theorem dX1_takeDay_24 : decode cX1_takeDay 24 = .ok (.ifCond .lt 14, 3) := by decide +kernel
theorem dX1_takeDay_27 : decode cX1_takeDay 27 = .ok (.aload_n 1, 1) := by decide +kernel
theorem dX1_takeDay_28 : decode cX1_takeDay 28 = .ok (.invokevirtual 133, 3) := by decide +kernel
theorem dX1_takeDay_31 : decode cX1_takeDay 31 = .ok (.ifCond .eq 7, 3) := by decide +kernel
theorem dX1_takeDay_34 : decode cX1_takeDay 34 = .ok (.iconst 1, 1) := by decide +kernel
theorem dX1_takeDay_35 : decode cX1_takeDay 35 = .ok (.goto 4, 3) := by decide +kernel
theorem dX1_takeDay_38 : decode cX1_takeDay 38 = .ok (.iconst 0, 1) := by decide +kernel
theorem dX1_takeDay_39 : decode cX1_takeDay 39 = .ok (.ireturn, 1) := by decide +kernel
theorem dX1_takeDeputy_0 : decode cX1_takeDeputy 0 = .ok (.aload_n 0, 1) := by decide +kernel
theorem dX1_takeDeputy_1 : decode cX1_takeDeputy 1 = .ok (.getfield 40, 3) := by decide +kernel
theorem dX1_takeDeputy_4 : decode cX1_takeDeputy 4 = .ok (.bipush 6, 2) := by decide +kernel
theorem dX1_takeDeputy_6 : decode cX1_takeDeputy 6 = .ok (.if_icmp .lt 5, 3) := by decide +kernel
theorem dX1_takeDeputy_9 : decode cX1_takeDeputy 9 = .ok (.iconst 0, 1) := by decide +kernel
theorem dX1_takeDeputy_10 : decode cX1_takeDeputy 10 = .ok (.ireturn, 1) := by decide +kernel
theorem dX1_takeDeputy_11 : decode cX1_takeDeputy 11 = .ok (.aload_n 1, 1) := by decide +kernel
theorem dX1_takeDeputy_12 : decode cX1_takeDeputy 12 = .ok (.invokevirtual 125, 3) := by decide +kernel
theorem dX1_takeDeputy_15 : decode cX1_takeDeputy 15 = .ok (.aload_n 1, 1) := by decide +kernel
theorem dX1_takeDeputy_16 : decode cX1_takeDeputy 16 = .ok (.iconst 5, 1) := by decide +kernel
theorem dX1_takeDeputy_17 : decode cX1_takeDeputy 17 = .ok (.invokevirtual 128, 3) := by decide +kernel
theorem dX1_takeDeputy_20 : decode cX1_takeDeputy 20 = .ok (.istore_n 2, 1) := by decide +kernel
theorem dX1_takeDeputy_21 : decode cX1_takeDeputy 21 = .ok (.iload_n 2, 1) := by decide +kernel
theorem dX1_takeDeputy_22 : decode cX1_takeDeputy 22 = .ok (.ifCond .ge 7, 3) := by decide +kernel
theorem dX1_takeDeputy_25 : decode cX1_takeDeputy 25 = .ok (.iconst (-1), 1) := by decide +kernel
theorem dX1_takeDeputy_26 : decode cX1_takeDeputy 26 = .ok (.goto 9, 3) := by decide +kernel
theorem dX1_takeDeputy_29 : decode cX1_takeDeputy 29 = .ok (.aload_n 1, 1) := by decide +kernel
theorem dX1_takeDeputy_30 : decode cX1_takeDeputy 30 = .ok (.bipush 40, 2) := by decide +kernel
theorem dX1_takeDeputy_32 : decode cX1_takeDeputy 32 = .ok (.invokevirtual 128, 3) := by decide +kernel
theorem dX1_takeDeputy_35 : decode cX1_takeDeputy 35 = .ok (.istore_n 3, 1) := by decide +kernel
theorem dX1_takeDeputy_36 : decode cX1_takeDeputy 36 = .ok (.iload_n 3, 1) := by decide +kernel
theorem dX1_takeDeputy_37 : decode cX1_takeDeputy 37 = .ok (.ifCond .lt 10, 3) := by decide +kernel
theorem dX1_takeDeputy_40 : decode cX1_takeDeputy 40 = .ok (.aload_n 1, 1) := by decide +kernel
theorem dX1_takeDeputy_41 : decode cX1_takeDeputy 41 = .ok (.invokevirtual 133, 3) := by decide +kernel
theorem dX1_takeDeputy_44 : decode cX1_takeDeputy 44 = .ok (.ifCond .ne 5, 3) := by decide +kernel
theorem dX1_takeDeputy_47 : decode cX1_takeDeputy 47 = .ok (.iconst 0, 1) := by decide +kernel
theorem dX1_takeDeputy_48 : decode cX1_takeDeputy 48 = .ok (.ireturn, 1) := by decide +kernel
theorem dX1_takeDeputy_49 : decode cX1_takeDeputy 49 = .ok (.aload_n 0, 1) := by decide +kernel
theorem dX1_takeDeputy_50 : decode cX1_takeDeputy 50 = .ok (.iload_n 2, 1) := by decide +kernel
theorem dX1_takeDeputy_51 : decode cX1_takeDeputy 51 = .ok (.iconst 0, 1) := by decide +kernel
theorem dX1_takeDeputy_52 : decode cX1_takeDeputy 52 = .ok (.iconst 0, 1) := by decide +kernel
theorem dX1_takeDeputy_53 : decode cX1_takeDeputy 53 = .ok (.iload_n 3, 1) := by decide +kernel
theorem dX1_takeDeputy_54 : decode cX1_takeDeputy 54 = .ok (.invokevirtual 136, 3) := by decide +kernel
theorem dX1_takeDeputy_57 : decode cX1_takeDeputy 57 = .ok (.iconst 1, 1) := by decide +kernel
theorem dX1_takeDeputy_58 : decode cX1_takeDeputy 58 = .ok (.ireturn, 1) := by decide +kernel
theorem dX1_takeLeaning_0 : decode cX1_takeLeaning 0 = .ok (.aload_n 1, 1) := by decide +kernel
theorem dX1_takeLeaning_1 : decode cX1_takeLeaning 1 = .ok (.invokevirtual 125, 3) := by decide +kernel
theorem dX1_takeLeaning_4 : decode cX1_takeLeaning 4 = .ok (.aload_n 0, 1) := by decide +kernel
theorem dX1_takeLeaning_5 : decode cX1_takeLeaning 5 = .ok (.aload_n 1, 1) := by decide +kernel
theorem dX1_takeLeaning_6 : decode cX1_takeLeaning 6 = .ok (.aload_n 0, 1) := by decide +kernel
theorem dX1_takeLeaning_7 : decode cX1_takeLeaning 7 = .ok (.getfield 40, 3) := by decide +kernel
theorem dX1_takeLeaning_10 : decode cX1_takeLeaning 10 = .ok (.iconst 1, 1) := by decide +kernel
theorem dX1_takeLeaning_11 : decode cX1_takeLeaning 11 = .ok (.isub, 1) := by decide +kernel
theorem dX1_takeLeaning_12 : decode cX1_takeLeaning 12 = .ok (.invokevirtual 128, 3) := by decide +kernel
theorem dX1_takeLeaning_15 : decode cX1_takeLeaning 15 = .ok (.invokevirtual 140, 3) := by decide +kernel
theorem dX1_takeLeaning_18 : decode cX1_takeLeaning 18 = .ok (.astore_n 3, 1) := by decide +kernel
theorem dX1_takeLeaning_19 : decode cX1_takeLeaning 19 = .ok (.aload_n 3, 1) := by decide +kernel
theorem dX1_takeLeaning_20 : decode cX1_takeLeaning 20 = .ok (.ifnonnull 5, 3) := by decide +kernel
theorem dX1_takeLeaning_23 : decode cX1_takeLeaning 23 = .ok (.iconst 0, 1) := by decide +kernel
theorem dX1_takeLeaning_24 : decode cX1_takeLeaning 24 = .ok (.ireturn, 1) := by decide +kernel
theorem dX1_takeLeaning_25 : decode cX1_takeLeaning 25 = .ok (.aload_n 1, 1) := by decide +kernel
theorem dX1_takeLeaning_26 : decode cX1_takeLeaning 26 = .ok (.invokevirtual 144, 3) := by decide +kernel
theorem dX1_takeLeaning_29 : decode cX1_takeLeaning 29 = .ok (.istore 4, 2) := by decide +kernel
theorem dX1_takeLeaning_31 : decode cX1_takeLeaning 31 = .ok (.iload_n 2, 1) := by decide +kernel
theorem dX1_takeLeaning_32 : decode cX1_takeLeaning 32 = .ok (.ifCond .eq 12, 3) := by decide +kernel
theorem dX1_takeLeaning_35 : decode cX1_takeLeaning 35 = .ok (.aload_n 3, 1) := by decide +kernel
theorem dX1_takeLeaning_36 : decode cX1_takeLeaning 36 = .ok (.iload 4, 2) := by decide +kernel
theorem dX1_takeLeaning_38 : decode cX1_takeLeaning 38 = .ok (.putfield 63, 3) := by decide +kernel
theorem dX1_takeLeaning_41 : decode cX1_takeLeaning 41 = .ok (.goto 9, 3) := by decide +kernel
theorem dX1_takeLeaning_44 : decode cX1_takeLeaning 44 = .ok (.aload_n 3, 1) := by decide +kernel
theorem dX1_takeLeaning_45 : decode cX1_takeLeaning 45 = .ok (.iload 4, 2) := by decide +kernel
theorem dX1_takeLeaning_47 : decode cX1_takeLeaning 47 = .ok (.putfield 66, 3) := by decide +kernel
theorem dX1_takeLeaning_50 : decode cX1_takeLeaning 50 = .ok (.aload_n 1, 1) := by decide +kernel
theorem dX1_takeLeaning_51 : decode cX1_takeLeaning 51 = .ok (.invokevirtual 133, 3) := by decide +kernel
theorem dX1_takeLeaning_54 : decode cX1_takeLeaning 54 = .ok (.ireturn, 1) := by decide +kernel
theorem dX1_takeForce_0 : decode cX1_takeForce 0 = .ok (.aload_n 1, 1) := by decide +kernel
theorem dX1_takeForce_1 : decode cX1_takeForce 1 = .ok (.invokevirtual 125, 3) := by decide +kernel
theorem dX1_takeForce_4 : decode cX1_takeForce 4 = .ok (.aload_n 0, 1) := by decide +kernel
theorem dX1_takeForce_5 : decode cX1_takeForce 5 = .ok (.getfield 12, 3) := by decide +kernel
theorem dX1_takeForce_8 : decode cX1_takeForce 8 = .ok (.aload_n 1, 1) := by decide +kernel
theorem dX1_takeForce_9 : decode cX1_takeForce 9 = .ok (.invokevirtual 144, 3) := by decide +kernel
theorem dX1_takeForce_12 : decode cX1_takeForce 12 = .ok (.putfield 148, 3) := by decide +kernel
theorem dX1_takeForce_15 : decode cX1_takeForce 15 = .ok (.aload_n 1, 1) := by decide +kernel
theorem dX1_takeForce_16 : decode cX1_takeForce 16 = .ok (.invokevirtual 133, 3) := by decide +kernel
theorem dX1_takeForce_19 : decode cX1_takeForce 19 = .ok (.ireturn, 1) := by decide +kernel
theorem dX2_init_0 : decode cX2_init 0 = .ok (.aload_n 0, 1) := by decide +kernel
theorem dX2_init_1 : decode cX2_init 1 = .ok (.invokespecial 1, 3) := by decide +kernel
theorem dX2_init_4 : decode cX2_init 4 = .ok (.return_, 1) := by decide +kernel
theorem dX2_refuses_0 : decode cX2_refuses 0 = .ok (.aload_n 0, 1) := by decide +kernel
theorem dX2_refuses_1 : decode cX2_refuses 1 = .ok (.iload_n 1, 1) := by decide +kernel
theorem dX2_refuses_2 : decode cX2_refuses 2 = .ok (.iload_n 2, 1) := by decide +kernel
theorem dX2_refuses_3 : decode cX2_refuses 3 = .ok (.iload_n 3, 1) := by decide +kernel
theorem dX2_refuses_4 : decode cX2_refuses 4 = .ok (.invokespecial 7, 3) := by decide +kernel
theorem dX2_refuses_7 : decode cX2_refuses 7 = .ok (.ifCond .ne 9, 3) := by decide +kernel
theorem dX2_refuses_10 : decode cX2_refuses 10 = .ok (.iload_n 3, 1) := by decide +kernel
theorem dX2_refuses_11 : decode cX2_refuses 11 = .ok (.iconst 5, 1) := by decide +kernel
theorem dX2_refuses_12 : decode cX2_refuses 12 = .ok (.irem, 1) := by decide +kernel
theorem dX2_refuses_13 : decode cX2_refuses 13 = .ok (.ifCond .ne 7, 3) := by decide +kernel
theorem dX2_refuses_16 : decode cX2_refuses 16 = .ok (.iconst 1, 1) := by decide +kernel
theorem dX2_refuses_17 : decode cX2_refuses 17 = .ok (.goto 4, 3) := by decide +kernel
theorem dX2_refuses_20 : decode cX2_refuses 20 = .ok (.iconst 0, 1) := by decide +kernel
theorem dX2_refuses_21 : decode cX2_refuses 21 = .ok (.ireturn, 1) := by decide +kernel
theorem dX2_costAt_0 : decode cX2_costAt 0 = .ok (.iconst 2, 1) := by decide +kernel
theorem dX2_costAt_1 : decode cX2_costAt 1 = .ok (.aload_n 0, 1) := by decide +kernel
theorem dX2_costAt_2 : decode cX2_costAt 2 = .ok (.iload_n 1, 1) := by decide +kernel
theorem dX2_costAt_3 : decode cX2_costAt 3 = .ok (.invokespecial 11, 3) := by decide +kernel
theorem dX2_costAt_6 : decode cX2_costAt 6 = .ok (.imul, 1) := by decide +kernel
theorem dX2_costAt_7 : decode cX2_costAt 7 = .ok (.ireturn, 1) := by decide +kernel
theorem dX3_init_0 : decode cX3_init 0 = .ok (.aload_n 0, 1) := by decide +kernel
theorem dX3_init_1 : decode cX3_init 1 = .ok (.invokespecial 1, 3) := by decide +kernel
theorem dX3_init_4 : decode cX3_init 4 = .ok (.return_, 1) := by decide +kernel
theorem dX3_refuses_0 : decode cX3_refuses 0 = .ok (.iload_n 3, 1) := by decide +kernel
theorem dX3_refuses_1 : decode cX3_refuses 1 = .ok (.iconst 2, 1) := by decide +kernel
theorem dX3_refuses_2 : decode cX3_refuses 2 = .ok (.irem, 1) := by decide +kernel
theorem dX3_refuses_3 : decode cX3_refuses 3 = .ok (.ifCond .ne 17, 3) := by decide +kernel
theorem dX3_refuses_6 : decode cX3_refuses 6 = .ok (.aload_n 0, 1) := by decide +kernel
theorem dX3_refuses_7 : decode cX3_refuses 7 = .ok (.iload_n 1, 1) := by decide +kernel
theorem dX3_refuses_8 : decode cX3_refuses 8 = .ok (.iload_n 2, 1) := by decide +kernel
theorem dX3_refuses_9 : decode cX3_refuses 9 = .ok (.iload_n 3, 1) := by decide +kernel
theorem dX3_refuses_10 : decode cX3_refuses 10 = .ok (.invokespecial 7, 3) := by decide +kernel
theorem dX3_refuses_13 : decode cX3_refuses 13 = .ok (.ifCond .eq 7, 3) := by decide +kernel
theorem dX3_refuses_16 : decode cX3_refuses 16 = .ok (.iconst 1, 1) := by decide +kernel
theorem dX3_refuses_17 : decode cX3_refuses 17 = .ok (.goto 4, 3) := by decide +kernel
theorem dX3_refuses_20 : decode cX3_refuses 20 = .ok (.iconst 0, 1) := by decide +kernel
theorem dX3_refuses_21 : decode cX3_refuses 21 = .ok (.ireturn, 1) := by decide +kernel
theorem dX4_init_0 : decode cX4_init 0 = .ok (.aload_n 0, 1) := by decide +kernel
theorem dX4_init_1 : decode cX4_init 1 = .ok (.invokespecial 1, 3) := by decide +kernel
theorem dX4_init_4 : decode cX4_init 4 = .ok (.return_, 1) := by decide +kernel
theorem dX4_copyFrom_0 : decode cX4_copyFrom 0 = .ok (.aload_n 0, 1) := by decide +kernel
theorem dX4_copyFrom_1 : decode cX4_copyFrom 1 = .ok (.aload_n 1, 1) := by decide +kernel
theorem dX4_copyFrom_2 : decode cX4_copyFrom 2 = .ok (.getfield 7, 3) := by decide +kernel
theorem dX4_copyFrom_5 : decode cX4_copyFrom 5 = .ok (.putfield 7, 3) := by decide +kernel
theorem dX4_copyFrom_8 : decode cX4_copyFrom 8 = .ok (.aload_n 0, 1) := by decide +kernel
theorem dX4_copyFrom_9 : decode cX4_copyFrom 9 = .ok (.aload_n 1, 1) := by decide +kernel
theorem dX4_copyFrom_10 : decode cX4_copyFrom 10 = .ok (.getfield 13, 3) := by decide +kernel
theorem dX4_copyFrom_13 : decode cX4_copyFrom 13 = .ok (.putfield 13, 3) := by decide +kernel
theorem dX4_copyFrom_16 : decode cX4_copyFrom 16 = .ok (.aload_n 0, 1) := by decide +kernel
theorem dX4_copyFrom_17 : decode cX4_copyFrom 17 = .ok (.aload_n 1, 1) := by decide +kernel
theorem dX4_copyFrom_18 : decode cX4_copyFrom 18 = .ok (.getfield 16, 3) := by decide +kernel
theorem dX4_copyFrom_21 : decode cX4_copyFrom 21 = .ok (.putfield 16, 3) := by decide +kernel
theorem dX4_copyFrom_24 : decode cX4_copyFrom 24 = .ok (.aload_n 0, 1) := by decide +kernel
theorem dX4_copyFrom_25 : decode cX4_copyFrom 25 = .ok (.aload_n 1, 1) := by decide +kernel
theorem dX4_copyFrom_26 : decode cX4_copyFrom 26 = .ok (.getfield 19, 3) := by decide +kernel
theorem dX4_copyFrom_29 : decode cX4_copyFrom 29 = .ok (.putfield 19, 3) := by decide +kernel
theorem dX4_copyFrom_32 : decode cX4_copyFrom 32 = .ok (.return_, 1) := by decide +kernel
theorem dX5_init_0 : decode cX5_init 0 = .ok (.aload_n 0, 1) := by decide +kernel
theorem dX5_init_1 : decode cX5_init 1 = .ok (.invokespecial 1, 3) := by decide +kernel
theorem dX5_init_4 : decode cX5_init 4 = .ok (.return_, 1) := by decide +kernel
theorem dX5_joyBy_0 : decode cX5_joyBy 0 = .ok (.iconst 2, 1) := by decide +kernel
theorem dX5_joyBy_1 : decode cX5_joyBy 1 = .ok (.iload_n 1, 1) := by decide +kernel
theorem dX5_joyBy_2 : decode cX5_joyBy 2 = .ok (.imul, 1) := by decide +kernel
theorem dX5_joyBy_3 : decode cX5_joyBy 3 = .ok (.iconst 3, 1) := by decide +kernel
theorem dX5_joyBy_4 : decode cX5_joyBy 4 = .ok (.iload_n 2, 1) := by decide +kernel
theorem dX5_joyBy_5 : decode cX5_joyBy 5 = .ok (.imul, 1) := by decide +kernel
theorem dX5_joyBy_6 : decode cX5_joyBy 6 = .ok (.isub, 1) := by decide +kernel
theorem dX5_joyBy_7 : decode cX5_joyBy 7 = .ok (.ireturn, 1) := by decide +kernel
theorem dX5_refuses_0 : decode cX5_refuses 0 = .ok (.iload_n 1, 1) := by decide +kernel
theorem dX5_refuses_1 : decode cX5_refuses 1 = .ok (.ifCond .ge 7, 3) := by decide +kernel
theorem dX5_refuses_4 : decode cX5_refuses 4 = .ok (.iconst 1, 1) := by decide +kernel
theorem dX5_refuses_5 : decode cX5_refuses 5 = .ok (.goto 4, 3) := by decide +kernel
theorem dX5_refuses_8 : decode cX5_refuses 8 = .ok (.iconst 0, 1) := by decide +kernel
theorem dX5_refuses_9 : decode cX5_refuses 9 = .ok (.ireturn, 1) := by decide +kernel
theorem dX5_costAt_0 : decode cX5_costAt 0 = .ok (.iload_n 1, 1) := by decide +kernel
theorem dX5_costAt_1 : decode cX5_costAt 1 = .ok (.ireturn, 1) := by decide +kernel
theorem dX6_init_0 : decode cX6_init 0 = .ok (.aload_n 0, 1) := by decide +kernel
theorem dX6_init_1 : decode cX6_init 1 = .ok (.invokespecial 1, 3) := by decide +kernel
theorem dX6_init_4 : decode cX6_init 4 = .ok (.return_, 1) := by decide +kernel
theorem dX6_costAt_0 : decode cX6_costAt 0 = .ok (.aload_n 0, 1) := by decide +kernel
theorem dX6_costAt_1 : decode cX6_costAt 1 = .ok (.iload_n 1, 1) := by decide +kernel
theorem dX6_costAt_2 : decode cX6_costAt 2 = .ok (.invokespecial 7, 3) := by decide +kernel
theorem dX6_costAt_5 : decode cX6_costAt 5 = .ok (.iconst 1, 1) := by decide +kernel
theorem dX6_costAt_6 : decode cX6_costAt 6 = .ok (.iadd, 1) := by decide +kernel
theorem dX6_costAt_7 : decode cX6_costAt 7 = .ok (.iconst 2, 1) := by decide +kernel
theorem dX6_costAt_8 : decode cX6_costAt 8 = .ok (.idiv, 1) := by decide +kernel
theorem dX6_costAt_9 : decode cX6_costAt 9 = .ok (.ireturn, 1) := by decide +kernel
theorem dX7_init_0 : decode cX7_init 0 = .ok (.aload_n 0, 1) := by decide +kernel
theorem dX7_init_1 : decode cX7_init 1 = .ok (.invokespecial 1, 3) := by decide +kernel
theorem dX7_init_4 : decode cX7_init 4 = .ok (.return_, 1) := by decide +kernel
theorem dX7_refuses_0 : decode cX7_refuses 0 = .ok (.aload_n 0, 1) := by decide +kernel
theorem dX7_refuses_1 : decode cX7_refuses 1 = .ok (.iload_n 1, 1) := by decide +kernel
theorem dX7_refuses_2 : decode cX7_refuses 2 = .ok (.iload_n 2, 1) := by decide +kernel
theorem dX7_refuses_3 : decode cX7_refuses 3 = .ok (.iload_n 3, 1) := by decide +kernel
theorem dX7_refuses_4 : decode cX7_refuses 4 = .ok (.invokespecial 7, 3) := by decide +kernel
theorem dX7_refuses_7 : decode cX7_refuses 7 = .ok (.ifCond .ne 7, 3) := by decide +kernel
theorem dX7_refuses_10 : decode cX7_refuses 10 = .ok (.iload_n 2, 1) := by decide +kernel
theorem dX7_refuses_11 : decode cX7_refuses 11 = .ok (.ifCond .le 7, 3) := by decide +kernel
theorem dX7_refuses_14 : decode cX7_refuses 14 = .ok (.iconst 1, 1) := by decide +kernel
theorem dX7_refuses_15 : decode cX7_refuses 15 = .ok (.goto 4, 3) := by decide +kernel
theorem dX7_refuses_18 : decode cX7_refuses 18 = .ok (.iconst 0, 1) := by decide +kernel
theorem dX7_refuses_19 : decode cX7_refuses 19 = .ok (.ireturn, 1) := by decide +kernel
theorem dX8_init_0 : decode cX8_init 0 = .ok (.aload_n 0, 1) := by decide +kernel
theorem dX8_init_1 : decode cX8_init 1 = .ok (.invokespecial 3, 3) := by decide +kernel
theorem dX8_init_4 : decode cX8_init 4 = .ok (.return_, 1) := by decide +kernel
theorem dX8_startOn_0 : decode cX8_startOn 0 = .ok (.aload_n 0, 1) := by decide +kernel
theorem dX8_startOn_1 : decode cX8_startOn 1 = .ok (.iload_n 1, 1) := by decide +kernel
theorem dX8_startOn_2 : decode cX8_startOn 2 = .ok (.putfield 9, 3) := by decide +kernel
theorem dX8_startOn_5 : decode cX8_startOn 5 = .ok (.aload_n 0, 1) := by decide +kernel
theorem dX8_startOn_6 : decode cX8_startOn 6 = .ok (.iconst 0, 1) := by decide +kernel
theorem dX8_startOn_7 : decode cX8_startOn 7 = .ok (.putfield 15, 3) := by decide +kernel
theorem dX8_startOn_10 : decode cX8_startOn 10 = .ok (.aload_n 0, 1) := by decide +kernel
theorem dX8_startOn_11 : decode cX8_startOn 11 = .ok (.iconst 0, 1) := by decide +kernel
theorem dX8_startOn_12 : decode cX8_startOn 12 = .ok (.putfield 18, 3) := by decide +kernel
theorem dX8_startOn_15 : decode cX8_startOn 15 = .ok (.aload_n 0, 1) := by decide +kernel
theorem dX8_startOn_16 : decode cX8_startOn 16 = .ok (.iconst 0, 1) := by decide +kernel
theorem dX8_startOn_17 : decode cX8_startOn 17 = .ok (.putfield 21, 3) := by decide +kernel
theorem dX8_startOn_20 : decode cX8_startOn 20 = .ok (.aload_n 0, 1) := by decide +kernel
theorem dX8_startOn_21 : decode cX8_startOn 21 = .ok (.iconst 0, 1) := by decide +kernel
theorem dX8_startOn_22 : decode cX8_startOn 22 = .ok (.putfield 24, 3) := by decide +kernel
theorem dX8_startOn_25 : decode cX8_startOn 25 = .ok (.aload_n 0, 1) := by decide +kernel
theorem dX8_startOn_26 : decode cX8_startOn 26 = .ok (.iconst 0, 1) := by decide +kernel
theorem dX8_startOn_27 : decode cX8_startOn 27 = .ok (.putfield 27, 3) := by decide +kernel
theorem dX8_startOn_30 : decode cX8_startOn 30 = .ok (.return_, 1) := by decide +kernel
theorem dX8_copyFrom_0 : decode cX8_copyFrom 0 = .ok (.aload_n 0, 1) := by decide +kernel
theorem dX8_copyFrom_1 : decode cX8_copyFrom 1 = .ok (.aload_n 1, 1) := by decide +kernel
theorem dX8_copyFrom_2 : decode cX8_copyFrom 2 = .ok (.getfield 9, 3) := by decide +kernel
theorem dX8_copyFrom_5 : decode cX8_copyFrom 5 = .ok (.putfield 9, 3) := by decide +kernel
theorem dX8_copyFrom_8 : decode cX8_copyFrom 8 = .ok (.aload_n 0, 1) := by decide +kernel
theorem dX8_copyFrom_9 : decode cX8_copyFrom 9 = .ok (.aload_n 1, 1) := by decide +kernel
theorem dX8_copyFrom_10 : decode cX8_copyFrom 10 = .ok (.getfield 15, 3) := by decide +kernel
theorem dX8_copyFrom_13 : decode cX8_copyFrom 13 = .ok (.putfield 15, 3) := by decide +kernel
theorem dX8_copyFrom_16 : decode cX8_copyFrom 16 = .ok (.aload_n 0, 1) := by decide +kernel
theorem dX8_copyFrom_17 : decode cX8_copyFrom 17 = .ok (.aload_n 1, 1) := by decide +kernel
theorem dX8_copyFrom_18 : decode cX8_copyFrom 18 = .ok (.getfield 18, 3) := by decide +kernel
theorem dX8_copyFrom_21 : decode cX8_copyFrom 21 = .ok (.putfield 18, 3) := by decide +kernel
theorem dX8_copyFrom_24 : decode cX8_copyFrom 24 = .ok (.aload_n 0, 1) := by decide +kernel
theorem dX8_copyFrom_25 : decode cX8_copyFrom 25 = .ok (.aload_n 1, 1) := by decide +kernel
theorem dX8_copyFrom_26 : decode cX8_copyFrom 26 = .ok (.getfield 21, 3) := by decide +kernel
theorem dX8_copyFrom_29 : decode cX8_copyFrom 29 = .ok (.putfield 21, 3) := by decide +kernel
end
section
theorem dX8_copyFrom_32 : decode cX8_copyFrom 32 = .ok (.aload_n 0, 1) := by decide +kernel
theorem dX8_copyFrom_33 : decode cX8_copyFrom 33 = .ok (.aload_n 1, 1) := by decide +kernel
theorem dX8_copyFrom_34 : decode cX8_copyFrom 34 = .ok (.getfield 24, 3) := by decide +kernel
theorem dX8_copyFrom_37 : decode cX8_copyFrom 37 = .ok (.putfield 24, 3) := by decide +kernel
theorem dX8_copyFrom_40 : decode cX8_copyFrom 40 = .ok (.aload_n 0, 1) := by decide +kernel
theorem dX8_copyFrom_41 : decode cX8_copyFrom 41 = .ok (.aload_n 1, 1) := by decide +kernel
theorem dX8_copyFrom_42 : decode cX8_copyFrom 42 = .ok (.getfield 27, 3) := by decide +kernel
theorem dX8_copyFrom_45 : decode cX8_copyFrom 45 = .ok (.putfield 27, 3) := by decide +kernel
theorem dX8_copyFrom_48 : decode cX8_copyFrom 48 = .ok (.return_, 1) := by decide +kernel
theorem dX8_close_0 : decode cX8_close 0 = .ok (.aload_n 0, 1) := by decide +kernel
theorem dX8_close_1 : decode cX8_close 1 = .ok (.dup, 1) := by decide +kernel
theorem dX8_close_2 : decode cX8_close 2 = .ok (.getfield 18, 3) := by decide +kernel
theorem dX8_close_5 : decode cX8_close 5 = .ok (.aload_n 0, 1) := by decide +kernel
theorem dX8_close_6 : decode cX8_close 6 = .ok (.getfield 15, 3) := by decide +kernel
theorem dX8_close_9 : decode cX8_close 9 = .ok (.ior, 1) := by decide +kernel
theorem dX8_close_10 : decode cX8_close 10 = .ok (.putfield 18, 3) := by decide +kernel
theorem dX8_close_13 : decode cX8_close 13 = .ok (.aload_n 0, 1) := by decide +kernel
theorem dX8_close_14 : decode cX8_close 14 = .ok (.iconst 0, 1) := by decide +kernel
theorem dX8_close_15 : decode cX8_close 15 = .ok (.putfield 15, 3) := by decide +kernel
theorem dX8_close_18 : decode cX8_close 18 = .ok (.aload_n 0, 1) := by decide +kernel
theorem dX8_close_19 : decode cX8_close 19 = .ok (.iconst 0, 1) := by decide +kernel
theorem dX8_close_20 : decode cX8_close 20 = .ok (.putfield 21, 3) := by decide +kernel
theorem dX8_close_23 : decode cX8_close 23 = .ok (.aload_n 0, 1) := by decide +kernel
theorem dX8_close_24 : decode cX8_close 24 = .ok (.iconst 0, 1) := by decide +kernel
theorem dX8_close_25 : decode cX8_close 25 = .ok (.putfield 24, 3) := by decide +kernel
theorem dX8_close_28 : decode cX8_close 28 = .ok (.aload_n 0, 1) := by decide +kernel
theorem dX8_close_29 : decode cX8_close 29 = .ok (.dup, 1) := by decide +kernel
theorem dX8_close_30 : decode cX8_close 30 = .ok (.getfield 9, 3) := by decide +kernel
theorem dX8_close_33 : decode cX8_close 33 = .ok (.iconst 1, 1) := by decide +kernel
theorem dX8_close_34 : decode cX8_close 34 = .ok (.iadd, 1) := by decide +kernel
theorem dX8_close_35 : decode cX8_close 35 = .ok (.putfield 9, 3) := by decide +kernel
theorem dX8_close_38 : decode cX8_close 38 = .ok (.return_, 1) := by decide +kernel
theorem dX8_freeLaws_0 : decode cX8_freeLaws 0 = .ok (.sipush 255, 3) := by decide +kernel
theorem dX8_freeLaws_3 : decode cX8_freeLaws 3 = .ok (.aload_n 0, 1) := by decide +kernel
theorem dX8_freeLaws_4 : decode cX8_freeLaws 4 = .ok (.getfield 15, 3) := by decide +kernel
theorem dX8_freeLaws_7 : decode cX8_freeLaws 7 = .ok (.aload_n 0, 1) := by decide +kernel
theorem dX8_freeLaws_8 : decode cX8_freeLaws 8 = .ok (.getfield 18, 3) := by decide +kernel
theorem dX8_freeLaws_11 : decode cX8_freeLaws 11 = .ok (.ior, 1) := by decide +kernel
theorem dX8_freeLaws_12 : decode cX8_freeLaws 12 = .ok (.iconst (-1), 1) := by decide +kernel
theorem dX8_freeLaws_13 : decode cX8_freeLaws 13 = .ok (.ixor, 1) := by decide +kernel
theorem dX8_freeLaws_14 : decode cX8_freeLaws 14 = .ok (.iand, 1) := by decide +kernel
theorem dX8_freeLaws_15 : decode cX8_freeLaws 15 = .ok (.ireturn, 1) := by decide +kernel
theorem dX9_init_0 : decode cX9_init 0 = .ok (.aload_n 0, 1) := by decide +kernel
theorem dX9_init_1 : decode cX9_init 1 = .ok (.invokespecial 3, 3) := by decide +kernel
theorem dX9_init_4 : decode cX9_init 4 = .ok (.aload_n 0, 1) := by decide +kernel
theorem dX9_init_5 : decode cX9_init 5 = .ok (.sipush 150, 3) := by decide +kernel
theorem dX9_init_8 : decode cX9_init 8 = .ok (.newarray .byte, 2) := by decide +kernel
theorem dX9_init_10 : decode cX9_init 10 = .ok (.putfield 9, 3) := by decide +kernel
theorem dX9_init_13 : decode cX9_init 13 = .ok (.return_, 1) := by decide +kernel
theorem dX9_append_0 : decode cX9_append 0 = .ok (.aload_n 0, 1) := by decide +kernel
theorem dX9_append_1 : decode cX9_append 1 = .ok (.getfield 15, 3) := by decide +kernel
theorem dX9_append_4 : decode cX9_append 4 = .ok (.ifCond .lt 36, 3) := by decide +kernel
theorem dX9_append_7 : decode cX9_append 7 = .ok (.aload_n 0, 1) := by decide +kernel
theorem dX9_append_8 : decode cX9_append 8 = .ok (.getfield 15, 3) := by decide +kernel
theorem dX9_append_11 : decode cX9_append 11 = .ok (.aload_n 0, 1) := by decide +kernel
theorem dX9_append_12 : decode cX9_append 12 = .ok (.getfield 9, 3) := by decide +kernel
theorem dX9_append_15 : decode cX9_append 15 = .ok (.arraylength, 1) := by decide +kernel
theorem dX9_append_16 : decode cX9_append 16 = .ok (.if_icmp .ge 24, 3) := by decide +kernel
theorem dX9_append_19 : decode cX9_append 19 = .ok (.aload_n 0, 1) := by decide +kernel
theorem dX9_append_20 : decode cX9_append 20 = .ok (.getfield 9, 3) := by decide +kernel
theorem dX9_append_23 : decode cX9_append 23 = .ok (.aload_n 0, 1) := by decide +kernel
theorem dX9_append_24 : decode cX9_append 24 = .ok (.getfield 15, 3) := by decide +kernel
theorem dX9_append_27 : decode cX9_append 27 = .ok (.iload_n 1, 1) := by decide +kernel
theorem dX9_append_28 : decode cX9_append 28 = .ok (.i2b, 1) := by decide +kernel
theorem dX9_append_29 : decode cX9_append 29 = .ok (.bastore, 1) := by decide +kernel
theorem dX9_append_30 : decode cX9_append 30 = .ok (.aload_n 0, 1) := by decide +kernel
theorem dX9_append_31 : decode cX9_append 31 = .ok (.dup, 1) := by decide +kernel
theorem dX9_append_32 : decode cX9_append 32 = .ok (.getfield 15, 3) := by decide +kernel
theorem dX9_append_35 : decode cX9_append 35 = .ok (.iconst 1, 1) := by decide +kernel
theorem dX9_append_36 : decode cX9_append 36 = .ok (.iadd, 1) := by decide +kernel
theorem dX9_append_37 : decode cX9_append 37 = .ok (.putfield 15, 3) := by decide +kernel
theorem dX9_append_40 : decode cX9_append 40 = .ok (.return_, 1) := by decide +kernel
theorem dX9_rewind_0 : decode cX9_rewind 0 = .ok (.aload_n 0, 1) := by decide +kernel
theorem dX9_rewind_1 : decode cX9_rewind 1 = .ok (.iconst 0, 1) := by decide +kernel
theorem dX9_rewind_2 : decode cX9_rewind 2 = .ok (.putfield 19, 3) := by decide +kernel
theorem dX9_rewind_5 : decode cX9_rewind 5 = .ok (.aload_n 0, 1) := by decide +kernel
theorem dX9_rewind_6 : decode cX9_rewind 6 = .ok (.invokevirtual 22, 3) := by decide +kernel
theorem dX9_rewind_9 : decode cX9_rewind 9 = .ok (.return_, 1) := by decide +kernel
theorem dX9_step_0 : decode cX9_step 0 = .ok (.aload_n 0, 1) := by decide +kernel
theorem dX9_step_1 : decode cX9_step 1 = .ok (.aload_n 0, 1) := by decide +kernel
theorem dX9_step_2 : decode cX9_step 2 = .ok (.aload_n 0, 1) := by decide +kernel
theorem dX9_step_3 : decode cX9_step 3 = .ok (.getfield 19, 3) := by decide +kernel
theorem dX9_step_6 : decode cX9_step 6 = .ok (.bipush 32, 2) := by decide +kernel
theorem dX9_step_8 : decode cX9_step 8 = .ok (.bipush 32, 2) := by decide +kernel
theorem dX9_step_10 : decode cX9_step 10 = .ok (.invokevirtual 25, 3) := by decide +kernel
theorem dX9_step_13 : decode cX9_step 13 = .ok (.putfield 29, 3) := by decide +kernel
theorem dX9_step_16 : decode cX9_step 16 = .ok (.aload_n 0, 1) := by decide +kernel
theorem dX9_step_17 : decode cX9_step 17 = .ok (.aload_n 0, 1) := by decide +kernel
theorem dX9_step_18 : decode cX9_step 18 = .ok (.getfield 29, 3) := by decide +kernel
theorem dX9_step_21 : decode cX9_step 21 = .ok (.bipush 97, 2) := by decide +kernel
theorem dX9_step_23 : decode cX9_step 23 = .ok (.bipush 122, 2) := by decide +kernel
theorem dX9_step_25 : decode cX9_step 25 = .ok (.invokevirtual 25, 3) := by decide +kernel
theorem dX9_step_28 : decode cX9_step 28 = .ok (.istore_n 1, 1) := by decide +kernel
theorem dX9_step_29 : decode cX9_step 29 = .ok (.aload_n 0, 1) := by decide +kernel
theorem dX9_step_30 : decode cX9_step 30 = .ok (.aload_n 0, 1) := by decide +kernel
theorem dX9_step_31 : decode cX9_step 31 = .ok (.getfield 29, 3) := by decide +kernel
theorem dX9_step_34 : decode cX9_step 34 = .ok (.bipush 48, 2) := by decide +kernel
theorem dX9_step_36 : decode cX9_step 36 = .ok (.bipush 57, 2) := by decide +kernel
theorem dX9_step_38 : decode cX9_step 38 = .ok (.invokevirtual 25, 3) := by decide +kernel
theorem dX9_step_41 : decode cX9_step 41 = .ok (.istore_n 2, 1) := by decide +kernel
theorem dX9_step_42 : decode cX9_step 42 = .ok (.aload_n 0, 1) := by decide +kernel
theorem dX9_step_43 : decode cX9_step 43 = .ok (.getfield 29, 3) := by decide +kernel
theorem dX9_step_46 : decode cX9_step 46 = .ok (.aload_n 0, 1) := by decide +kernel
theorem dX9_step_47 : decode cX9_step 47 = .ok (.getfield 15, 3) := by decide +kernel
theorem dX9_step_50 : decode cX9_step 50 = .ok (.if_icmp .lt 19, 3) := by decide +kernel
theorem dX9_step_53 : decode cX9_step 53 = .ok (.aload_n 0, 1) := by decide +kernel
theorem dX9_step_54 : decode cX9_step 54 = .ok (.iconst 0, 1) := by decide +kernel
theorem dX9_step_55 : decode cX9_step 55 = .ok (.putfield 32, 3) := by decide +kernel
theorem dX9_step_58 : decode cX9_step 58 = .ok (.aload_n 0, 1) := by decide +kernel
theorem dX9_step_59 : decode cX9_step 59 = .ok (.aload_n 0, 1) := by decide +kernel
theorem dX9_step_60 : decode cX9_step 60 = .ok (.getfield 29, 3) := by decide +kernel
theorem dX9_step_63 : decode cX9_step 63 = .ok (.putfield 19, 3) := by decide +kernel
theorem dX9_step_66 : decode cX9_step 66 = .ok (.goto 104, 3) := by decide +kernel
theorem dX9_step_69 : decode cX9_step 69 = .ok (.iload_n 1, 1) := by decide +kernel
theorem dX9_step_70 : decode cX9_step 70 = .ok (.aload_n 0, 1) := by decide +kernel
theorem dX9_step_71 : decode cX9_step 71 = .ok (.getfield 29, 3) := by decide +kernel
theorem dX9_step_74 : decode cX9_step 74 = .ok (.if_icmp .le 16, 3) := by decide +kernel
theorem dX9_step_77 : decode cX9_step 77 = .ok (.aload_n 0, 1) := by decide +kernel
theorem dX9_step_78 : decode cX9_step 78 = .ok (.iconst 1, 1) := by decide +kernel
theorem dX9_step_79 : decode cX9_step 79 = .ok (.putfield 32, 3) := by decide +kernel
theorem dX9_step_82 : decode cX9_step 82 = .ok (.aload_n 0, 1) := by decide +kernel
theorem dX9_step_83 : decode cX9_step 83 = .ok (.iload_n 1, 1) := by decide +kernel
theorem dX9_step_84 : decode cX9_step 84 = .ok (.putfield 19, 3) := by decide +kernel
theorem dX9_step_87 : decode cX9_step 87 = .ok (.goto 83, 3) := by decide +kernel
theorem dX9_step_90 : decode cX9_step 90 = .ok (.iload_n 2, 1) := by decide +kernel
theorem dX9_step_91 : decode cX9_step 91 = .ok (.aload_n 0, 1) := by decide +kernel
theorem dX9_step_92 : decode cX9_step 92 = .ok (.getfield 29, 3) := by decide +kernel
theorem dX9_step_95 : decode cX9_step 95 = .ok (.if_icmp .le 43, 3) := by decide +kernel
theorem dX9_step_98 : decode cX9_step 98 = .ok (.aload_n 0, 1) := by decide +kernel
theorem dX9_step_99 : decode cX9_step 99 = .ok (.iload_n 2, 1) := by decide +kernel
theorem dX9_step_100 : decode cX9_step 100 = .ok (.aload_n 0, 1) := by decide +kernel
theorem dX9_step_101 : decode cX9_step 101 = .ok (.getfield 29, 3) := by decide +kernel
theorem dX9_step_104 : decode cX9_step 104 = .ok (.isub, 1) := by decide +kernel
theorem dX9_step_105 : decode cX9_step 105 = .ok (.iconst 2, 1) := by decide +kernel
theorem dX9_step_106 : decode cX9_step 106 = .ok (.if_icmp .le 7, 3) := by decide +kernel
theorem dX9_step_109 : decode cX9_step 109 = .ok (.iconst 4, 1) := by decide +kernel
theorem dX9_step_110 : decode cX9_step 110 = .ok (.goto 4, 3) := by decide +kernel
theorem dX9_step_113 : decode cX9_step 113 = .ok (.iconst 2, 1) := by decide +kernel
theorem dX9_step_114 : decode cX9_step 114 = .ok (.putfield 32, 3) := by decide +kernel
theorem dX9_step_117 : decode cX9_step 117 = .ok (.aload_n 0, 1) := by decide +kernel
theorem dX9_step_118 : decode cX9_step 118 = .ok (.iload_n 2, 1) := by decide +kernel
theorem dX9_step_119 : decode cX9_step 119 = .ok (.putfield 19, 3) := by decide +kernel
theorem dX9_step_122 : decode cX9_step 122 = .ok (.aload_n 0, 1) := by decide +kernel
theorem dX9_step_123 : decode cX9_step 123 = .ok (.aload_n 0, 1) := by decide +kernel
theorem dX9_step_124 : decode cX9_step 124 = .ok (.aload_n 0, 1) := by decide +kernel
theorem dX9_step_125 : decode cX9_step 125 = .ok (.getfield 29, 3) := by decide +kernel
theorem dX9_step_128 : decode cX9_step 128 = .ok (.iload_n 2, 1) := by decide +kernel
theorem dX9_step_129 : decode cX9_step 129 = .ok (.invokevirtual 35, 3) := by decide +kernel
theorem dX9_step_132 : decode cX9_step 132 = .ok (.putfield 39, 3) := by decide +kernel
theorem dX9_step_135 : decode cX9_step 135 = .ok (.goto 35, 3) := by decide +kernel
theorem dX9_step_138 : decode cX9_step 138 = .ok (.aload_n 0, 1) := by decide +kernel
theorem dX9_step_139 : decode cX9_step 139 = .ok (.aload_n 0, 1) := by decide +kernel
theorem dX9_step_140 : decode cX9_step 140 = .ok (.aload_n 0, 1) := by decide +kernel
theorem dX9_step_141 : decode cX9_step 141 = .ok (.getfield 29, 3) := by decide +kernel
theorem dX9_step_144 : decode cX9_step 144 = .ok (.invokevirtual 42, 3) := by decide +kernel
theorem dX9_step_147 : decode cX9_step 147 = .ok (.bipush 59, 2) := by decide +kernel
theorem dX9_step_149 : decode cX9_step 149 = .ok (.if_icmp .ne 7, 3) := by decide +kernel
theorem dX9_step_152 : decode cX9_step 152 = .ok (.iconst 3, 1) := by decide +kernel
theorem dX9_step_153 : decode cX9_step 153 = .ok (.goto 4, 3) := by decide +kernel
theorem dX9_step_156 : decode cX9_step 156 = .ok (.iconst 4, 1) := by decide +kernel
theorem dX9_step_157 : decode cX9_step 157 = .ok (.putfield 32, 3) := by decide +kernel
theorem dX9_step_160 : decode cX9_step 160 = .ok (.aload_n 0, 1) := by decide +kernel
theorem dX9_step_161 : decode cX9_step 161 = .ok (.aload_n 0, 1) := by decide +kernel
theorem dX9_step_162 : decode cX9_step 162 = .ok (.getfield 29, 3) := by decide +kernel
theorem dX9_step_165 : decode cX9_step 165 = .ok (.iconst 1, 1) := by decide +kernel
theorem dX9_step_166 : decode cX9_step 166 = .ok (.iadd, 1) := by decide +kernel
theorem dX9_step_167 : decode cX9_step 167 = .ok (.putfield 19, 3) := by decide +kernel
theorem dX9_step_170 : decode cX9_step 170 = .ok (.return_, 1) := by decide +kernel
theorem dX9_isAtEnd_0 : decode cX9_isAtEnd 0 = .ok (.aload_n 0, 1) := by decide +kernel
theorem dX9_isAtEnd_1 : decode cX9_isAtEnd 1 = .ok (.getfield 32, 3) := by decide +kernel
theorem dX9_isAtEnd_4 : decode cX9_isAtEnd 4 = .ok (.ifCond .ne 7, 3) := by decide +kernel
theorem dX9_isAtEnd_7 : decode cX9_isAtEnd 7 = .ok (.iconst 1, 1) := by decide +kernel
theorem dX9_isAtEnd_8 : decode cX9_isAtEnd 8 = .ok (.goto 4, 3) := by decide +kernel
theorem dX9_isAtEnd_11 : decode cX9_isAtEnd 11 = .ok (.iconst 0, 1) := by decide +kernel
theorem dX9_isAtEnd_12 : decode cX9_isAtEnd 12 = .ok (.ireturn, 1) := by decide +kernel
theorem dX9_isWord_0 : decode cX9_isWord 0 = .ok (.aload_n 0, 1) := by decide +kernel
theorem dX9_isWord_1 : decode cX9_isWord 1 = .ok (.getfield 32, 3) := by decide +kernel
theorem dX9_isWord_4 : decode cX9_isWord 4 = .ok (.iconst 1, 1) := by decide +kernel
theorem dX9_isWord_5 : decode cX9_isWord 5 = .ok (.if_icmp .ne 19, 3) := by decide +kernel
theorem dX9_isWord_8 : decode cX9_isWord 8 = .ok (.aload_n 0, 1) := by decide +kernel
theorem dX9_isWord_9 : decode cX9_isWord 9 = .ok (.getfield 19, 3) := by decide +kernel
theorem dX9_isWord_12 : decode cX9_isWord 12 = .ok (.aload_n 0, 1) := by decide +kernel
theorem dX9_isWord_13 : decode cX9_isWord 13 = .ok (.getfield 29, 3) := by decide +kernel
theorem dX9_isWord_16 : decode cX9_isWord 16 = .ok (.isub, 1) := by decide +kernel
theorem dX9_isWord_17 : decode cX9_isWord 17 = .ok (.aload_n 1, 1) := by decide +kernel
theorem dX9_isWord_18 : decode cX9_isWord 18 = .ok (.invokevirtual 46, 3) := by decide +kernel
theorem dX9_isWord_21 : decode cX9_isWord 21 = .ok (.if_icmp .eq 5, 3) := by decide +kernel
theorem dX9_isWord_24 : decode cX9_isWord 24 = .ok (.iconst 0, 1) := by decide +kernel
theorem dX9_isWord_25 : decode cX9_isWord 25 = .ok (.ireturn, 1) := by decide +kernel
theorem dX9_isWord_26 : decode cX9_isWord 26 = .ok (.iconst 0, 1) := by decide +kernel
theorem dX9_isWord_27 : decode cX9_isWord 27 = .ok (.istore_n 2, 1) := by decide +kernel
theorem dX9_isWord_28 : decode cX9_isWord 28 = .ok (.iload_n 2, 1) := by decide +kernel
theorem dX9_isWord_29 : decode cX9_isWord 29 = .ok (.aload_n 1, 1) := by decide +kernel
theorem dX9_isWord_30 : decode cX9_isWord 30 = .ok (.invokevirtual 46, 3) := by decide +kernel
theorem dX9_isWord_33 : decode cX9_isWord 33 = .ok (.if_icmp .ge 29, 3) := by decide +kernel
theorem dX9_isWord_36 : decode cX9_isWord 36 = .ok (.aload_n 0, 1) := by decide +kernel
theorem dX9_isWord_37 : decode cX9_isWord 37 = .ok (.aload_n 0, 1) := by decide +kernel
theorem dX9_isWord_38 : decode cX9_isWord 38 = .ok (.getfield 29, 3) := by decide +kernel
theorem dX9_isWord_41 : decode cX9_isWord 41 = .ok (.iload_n 2, 1) := by decide +kernel
theorem dX9_isWord_42 : decode cX9_isWord 42 = .ok (.iadd, 1) := by decide +kernel
theorem dX9_isWord_43 : decode cX9_isWord 43 = .ok (.invokevirtual 42, 3) := by decide +kernel
theorem dX9_isWord_46 : decode cX9_isWord 46 = .ok (.aload_n 1, 1) := by decide +kernel
theorem dX9_isWord_47 : decode cX9_isWord 47 = .ok (.iload_n 2, 1) := by decide +kernel
theorem dX9_isWord_48 : decode cX9_isWord 48 = .ok (.invokevirtual 51, 3) := by decide +kernel
theorem dX9_isWord_51 : decode cX9_isWord 51 = .ok (.if_icmp .eq 5, 3) := by decide +kernel
theorem dX9_isWord_54 : decode cX9_isWord 54 = .ok (.iconst 0, 1) := by decide +kernel
theorem dX9_isWord_55 : decode cX9_isWord 55 = .ok (.ireturn, 1) := by decide +kernel
theorem dX9_isWord_56 : decode cX9_isWord 56 = .ok (.iinc 2 1, 3) := by decide +kernel
theorem dX9_isWord_59 : decode cX9_isWord 59 = .ok (.goto (-31), 3) := by decide +kernel
theorem dX9_isWord_62 : decode cX9_isWord 62 = .ok (.iconst 1, 1) := by decide +kernel
theorem dX9_isWord_63 : decode cX9_isWord 63 = .ok (.ireturn, 1) := by decide +kernel
theorem dX9_takeNumber_0 : decode cX9_takeNumber 0 = .ok (.aload_n 0, 1) := by decide +kernel
theorem dX9_takeNumber_1 : decode cX9_takeNumber 1 = .ok (.getfield 32, 3) := by decide +kernel
theorem dX9_takeNumber_4 : decode cX9_takeNumber 4 = .ok (.iconst 2, 1) := by decide +kernel
theorem dX9_takeNumber_5 : decode cX9_takeNumber 5 = .ok (.if_icmp .ne 11, 3) := by decide +kernel
theorem dX9_takeNumber_8 : decode cX9_takeNumber 8 = .ok (.aload_n 0, 1) := by decide +kernel
theorem dX9_takeNumber_9 : decode cX9_takeNumber 9 = .ok (.getfield 39, 3) := by decide +kernel
theorem dX9_takeNumber_12 : decode cX9_takeNumber 12 = .ok (.iload_n 1, 1) := by decide +kernel
theorem dX9_takeNumber_13 : decode cX9_takeNumber 13 = .ok (.if_icmp .le 5, 3) := by decide +kernel
theorem dX9_takeNumber_16 : decode cX9_takeNumber 16 = .ok (.iconst (-1), 1) := by decide +kernel
theorem dX9_takeNumber_17 : decode cX9_takeNumber 17 = .ok (.ireturn, 1) := by decide +kernel
theorem dX9_takeNumber_18 : decode cX9_takeNumber 18 = .ok (.aload_n 0, 1) := by decide +kernel
theorem dX9_takeNumber_19 : decode cX9_takeNumber 19 = .ok (.getfield 39, 3) := by decide +kernel
theorem dX9_takeNumber_22 : decode cX9_takeNumber 22 = .ok (.istore_n 2, 1) := by decide +kernel
theorem dX9_takeNumber_23 : decode cX9_takeNumber 23 = .ok (.aload_n 0, 1) := by decide +kernel
theorem dX9_takeNumber_24 : decode cX9_takeNumber 24 = .ok (.invokevirtual 22, 3) := by decide +kernel
theorem dX9_takeNumber_27 : decode cX9_takeNumber 27 = .ok (.iload_n 2, 1) := by decide +kernel
theorem dX9_takeNumber_28 : decode cX9_takeNumber 28 = .ok (.ireturn, 1) := by decide +kernel
theorem dX9_takeLaws_0 : decode cX9_takeLaws 0 = .ok (.iconst 0, 1) := by decide +kernel
theorem dX9_takeLaws_1 : decode cX9_takeLaws 1 = .ok (.istore_n 1, 1) := by decide +kernel
theorem dX9_takeLaws_2 : decode cX9_takeLaws 2 = .ok (.iconst 0, 1) := by decide +kernel
theorem dX9_takeLaws_3 : decode cX9_takeLaws 3 = .ok (.istore_n 2, 1) := by decide +kernel
theorem dX9_takeLaws_4 : decode cX9_takeLaws 4 = .ok (.iload_n 2, 1) := by decide +kernel
theorem dX9_takeLaws_5 : decode cX9_takeLaws 5 = .ok (.sipush 150, 3) := by decide +kernel
theorem dX9_takeLaws_8 : decode cX9_takeLaws 8 = .ok (.if_icmp .ge 40, 3) := by decide +kernel
theorem dX9_takeLaws_11 : decode cX9_takeLaws 11 = .ok (.aload_n 0, 1) := by decide +kernel
theorem dX9_takeLaws_12 : decode cX9_takeLaws 12 = .ok (.getfield 32, 3) := by decide +kernel
theorem dX9_takeLaws_15 : decode cX9_takeLaws 15 = .ok (.iconst 2, 1) := by decide +kernel
theorem dX9_takeLaws_16 : decode cX9_takeLaws 16 = .ok (.if_icmp .ne 32, 3) := by decide +kernel
theorem dX9_takeLaws_19 : decode cX9_takeLaws 19 = .ok (.aload_n 0, 1) := by decide +kernel
theorem dX9_takeLaws_20 : decode cX9_takeLaws 20 = .ok (.getfield 39, 3) := by decide +kernel
theorem dX9_takeLaws_23 : decode cX9_takeLaws 23 = .ok (.bipush 8, 2) := by decide +kernel
theorem dX9_takeLaws_25 : decode cX9_takeLaws 25 = .ok (.if_icmp .ge 23, 3) := by decide +kernel
theorem dX9_takeLaws_28 : decode cX9_takeLaws 28 = .ok (.iload_n 1, 1) := by decide +kernel
theorem dX9_takeLaws_29 : decode cX9_takeLaws 29 = .ok (.aload_n 0, 1) := by decide +kernel
theorem dX9_takeLaws_30 : decode cX9_takeLaws 30 = .ok (.getfield 39, 3) := by decide +kernel
theorem dX9_takeLaws_33 : decode cX9_takeLaws 33 = .ok (.invokestatic 55, 3) := by decide +kernel
theorem dX9_takeLaws_36 : decode cX9_takeLaws 36 = .ok (.ior, 1) := by decide +kernel
theorem dX9_takeLaws_37 : decode cX9_takeLaws 37 = .ok (.istore_n 1, 1) := by decide +kernel
theorem dX9_takeLaws_38 : decode cX9_takeLaws 38 = .ok (.aload_n 0, 1) := by decide +kernel
theorem dX9_takeLaws_39 : decode cX9_takeLaws 39 = .ok (.invokevirtual 22, 3) := by decide +kernel
theorem dX9_takeLaws_42 : decode cX9_takeLaws 42 = .ok (.iinc 2 1, 3) := by decide +kernel
theorem dX9_takeLaws_45 : decode cX9_takeLaws 45 = .ok (.goto (-41), 3) := by decide +kernel
theorem dX9_takeLaws_48 : decode cX9_takeLaws 48 = .ok (.iload_n 1, 1) := by decide +kernel
theorem dX9_takeLaws_49 : decode cX9_takeLaws 49 = .ok (.ireturn, 1) := by decide +kernel
theorem dX9_takeMark_0 : decode cX9_takeMark 0 = .ok (.aload_n 0, 1) := by decide +kernel
theorem dX9_takeMark_1 : decode cX9_takeMark 1 = .ok (.getfield 32, 3) := by decide +kernel
theorem dX9_takeMark_4 : decode cX9_takeMark 4 = .ok (.iconst 3, 1) := by decide +kernel
theorem dX9_takeMark_5 : decode cX9_takeMark 5 = .ok (.if_icmp .eq 5, 3) := by decide +kernel
theorem dX9_takeMark_8 : decode cX9_takeMark 8 = .ok (.iconst 0, 1) := by decide +kernel
theorem dX9_takeMark_9 : decode cX9_takeMark 9 = .ok (.ireturn, 1) := by decide +kernel
theorem dX9_takeMark_10 : decode cX9_takeMark 10 = .ok (.aload_n 0, 1) := by decide +kernel
theorem dX9_takeMark_11 : decode cX9_takeMark 11 = .ok (.invokevirtual 22, 3) := by decide +kernel
theorem dX9_takeMark_14 : decode cX9_takeMark 14 = .ok (.iconst 1, 1) := by decide +kernel
theorem dX9_takeMark_15 : decode cX9_takeMark 15 = .ok (.ireturn, 1) := by decide +kernel
theorem dX9_endOfRun_0 : decode cX9_endOfRun 0 = .ok (.iload_n 1, 1) := by decide +kernel
theorem dX9_endOfRun_1 : decode cX9_endOfRun 1 = .ok (.iconst 0, 1) := by decide +kernel
theorem dX9_endOfRun_2 : decode cX9_endOfRun 2 = .ok (.invokestatic 58, 3) := by decide +kernel
theorem dX9_endOfRun_5 : decode cX9_endOfRun 5 = .ok (.istore 4, 2) := by decide +kernel
theorem dX9_endOfRun_7 : decode cX9_endOfRun 7 = .ok (.iload 4, 2) := by decide +kernel
theorem dX9_endOfRun_9 : decode cX9_endOfRun 9 = .ok (.aload_n 0, 1) := by decide +kernel
theorem dX9_endOfRun_10 : decode cX9_endOfRun 10 = .ok (.getfield 15, 3) := by decide +kernel
theorem dX9_endOfRun_13 : decode cX9_endOfRun 13 = .ok (.if_icmp .ge 41, 3) := by decide +kernel
theorem dX9_endOfRun_16 : decode cX9_endOfRun 16 = .ok (.iload 4, 2) := by decide +kernel
theorem dX9_endOfRun_18 : decode cX9_endOfRun 18 = .ok (.aload_n 0, 1) := by decide +kernel
theorem dX9_endOfRun_19 : decode cX9_endOfRun 19 = .ok (.getfield 9, 3) := by decide +kernel
theorem dX9_endOfRun_22 : decode cX9_endOfRun 22 = .ok (.arraylength, 1) := by decide +kernel
theorem dX9_endOfRun_23 : decode cX9_endOfRun 23 = .ok (.if_icmp .ge 31, 3) := by decide +kernel
theorem dX9_endOfRun_26 : decode cX9_endOfRun 26 = .ok (.aload_n 0, 1) := by decide +kernel
theorem dX9_endOfRun_27 : decode cX9_endOfRun 27 = .ok (.getfield 9, 3) := by decide +kernel
theorem dX9_endOfRun_30 : decode cX9_endOfRun 30 = .ok (.iload 4, 2) := by decide +kernel
theorem dX9_endOfRun_32 : decode cX9_endOfRun 32 = .ok (.baload, 1) := by decide +kernel
theorem dX9_endOfRun_33 : decode cX9_endOfRun 33 = .ok (.iload_n 2, 1) := by decide +kernel
theorem dX9_endOfRun_34 : decode cX9_endOfRun 34 = .ok (.if_icmp .lt 20, 3) := by decide +kernel
theorem dX9_endOfRun_37 : decode cX9_endOfRun 37 = .ok (.aload_n 0, 1) := by decide +kernel
theorem dX9_endOfRun_38 : decode cX9_endOfRun 38 = .ok (.getfield 9, 3) := by decide +kernel
theorem dX9_endOfRun_41 : decode cX9_endOfRun 41 = .ok (.iload 4, 2) := by decide +kernel
theorem dX9_endOfRun_43 : decode cX9_endOfRun 43 = .ok (.baload, 1) := by decide +kernel
theorem dX9_endOfRun_44 : decode cX9_endOfRun 44 = .ok (.iload_n 3, 1) := by decide +kernel
theorem dX9_endOfRun_45 : decode cX9_endOfRun 45 = .ok (.if_icmp .gt 9, 3) := by decide +kernel
theorem dX9_endOfRun_48 : decode cX9_endOfRun 48 = .ok (.iinc 4 1, 3) := by decide +kernel
theorem dX9_endOfRun_51 : decode cX9_endOfRun 51 = .ok (.goto (-44), 3) := by decide +kernel
theorem dX9_endOfRun_54 : decode cX9_endOfRun 54 = .ok (.iload 4, 2) := by decide +kernel
theorem dX9_endOfRun_56 : decode cX9_endOfRun 56 = .ok (.ireturn, 1) := by decide +kernel
theorem dX9_numberAt_0 : decode cX9_numberAt 0 = .ok (.iconst 0, 1) := by decide +kernel
theorem dX9_numberAt_1 : decode cX9_numberAt 1 = .ok (.istore_n 3, 1) := by decide +kernel
theorem dX9_numberAt_2 : decode cX9_numberAt 2 = .ok (.iload_n 1, 1) := by decide +kernel
theorem dX9_numberAt_3 : decode cX9_numberAt 3 = .ok (.iconst 0, 1) := by decide +kernel
theorem dX9_numberAt_4 : decode cX9_numberAt 4 = .ok (.invokestatic 58, 3) := by decide +kernel
theorem dX9_numberAt_7 : decode cX9_numberAt 7 = .ok (.istore 4, 2) := by decide +kernel
theorem dX9_numberAt_9 : decode cX9_numberAt 9 = .ok (.iload 4, 2) := by decide +kernel
theorem dX9_numberAt_11 : decode cX9_numberAt 11 = .ok (.iload_n 2, 1) := by decide +kernel
theorem dX9_numberAt_12 : decode cX9_numberAt 12 = .ok (.if_icmp .ge 35, 3) := by decide +kernel
theorem dX9_numberAt_15 : decode cX9_numberAt 15 = .ok (.iload 4, 2) := by decide +kernel
theorem dX9_numberAt_17 : decode cX9_numberAt 17 = .ok (.aload_n 0, 1) := by decide +kernel
theorem dX9_numberAt_18 : decode cX9_numberAt 18 = .ok (.getfield 9, 3) := by decide +kernel
theorem dX9_numberAt_21 : decode cX9_numberAt 21 = .ok (.arraylength, 1) := by decide +kernel
theorem dX9_numberAt_22 : decode cX9_numberAt 22 = .ok (.if_icmp .ge 25, 3) := by decide +kernel
theorem dX9_numberAt_25 : decode cX9_numberAt 25 = .ok (.bipush 10, 2) := by decide +kernel
theorem dX9_numberAt_27 : decode cX9_numberAt 27 = .ok (.iload_n 3, 1) := by decide +kernel
theorem dX9_numberAt_28 : decode cX9_numberAt 28 = .ok (.imul, 1) := by decide +kernel
theorem dX9_numberAt_29 : decode cX9_numberAt 29 = .ok (.aload_n 0, 1) := by decide +kernel
theorem dX9_numberAt_30 : decode cX9_numberAt 30 = .ok (.getfield 9, 3) := by decide +kernel
theorem dX9_numberAt_33 : decode cX9_numberAt 33 = .ok (.iload 4, 2) := by decide +kernel
theorem dX9_numberAt_35 : decode cX9_numberAt 35 = .ok (.baload, 1) := by decide +kernel
theorem dX9_numberAt_36 : decode cX9_numberAt 36 = .ok (.iadd, 1) := by decide +kernel
theorem dX9_numberAt_37 : decode cX9_numberAt 37 = .ok (.bipush 48, 2) := by decide +kernel
theorem dX9_numberAt_39 : decode cX9_numberAt 39 = .ok (.isub, 1) := by decide +kernel
theorem dX9_numberAt_40 : decode cX9_numberAt 40 = .ok (.istore_n 3, 1) := by decide +kernel
theorem dX9_numberAt_41 : decode cX9_numberAt 41 = .ok (.iinc 4 1, 3) := by decide +kernel
theorem dX9_numberAt_44 : decode cX9_numberAt 44 = .ok (.goto (-35), 3) := by decide +kernel
theorem dX9_numberAt_47 : decode cX9_numberAt 47 = .ok (.iload_n 3, 1) := by decide +kernel
theorem dX9_numberAt_48 : decode cX9_numberAt 48 = .ok (.ireturn, 1) := by decide +kernel
theorem dX9_byteAt_0 : decode cX9_byteAt 0 = .ok (.iload_n 1, 1) := by decide +kernel
theorem dX9_byteAt_1 : decode cX9_byteAt 1 = .ok (.ifCond .lt 29, 3) := by decide +kernel
theorem dX9_byteAt_4 : decode cX9_byteAt 4 = .ok (.iload_n 1, 1) := by decide +kernel
theorem dX9_byteAt_5 : decode cX9_byteAt 5 = .ok (.aload_n 0, 1) := by decide +kernel
theorem dX9_byteAt_6 : decode cX9_byteAt 6 = .ok (.getfield 15, 3) := by decide +kernel
theorem dX9_byteAt_9 : decode cX9_byteAt 9 = .ok (.if_icmp .ge 21, 3) := by decide +kernel
theorem dX9_byteAt_12 : decode cX9_byteAt 12 = .ok (.iload_n 1, 1) := by decide +kernel
theorem dX9_byteAt_13 : decode cX9_byteAt 13 = .ok (.aload_n 0, 1) := by decide +kernel
theorem dX9_byteAt_14 : decode cX9_byteAt 14 = .ok (.getfield 9, 3) := by decide +kernel
theorem dX9_byteAt_17 : decode cX9_byteAt 17 = .ok (.arraylength, 1) := by decide +kernel
theorem dX9_byteAt_18 : decode cX9_byteAt 18 = .ok (.if_icmp .ge 12, 3) := by decide +kernel
theorem dX9_byteAt_21 : decode cX9_byteAt 21 = .ok (.aload_n 0, 1) := by decide +kernel
theorem dX9_byteAt_22 : decode cX9_byteAt 22 = .ok (.getfield 9, 3) := by decide +kernel
theorem dX9_byteAt_25 : decode cX9_byteAt 25 = .ok (.iload_n 1, 1) := by decide +kernel
theorem dX9_byteAt_26 : decode cX9_byteAt 26 = .ok (.baload, 1) := by decide +kernel
theorem dX9_byteAt_27 : decode cX9_byteAt 27 = .ok (.goto 4, 3) := by decide +kernel
theorem dX9_byteAt_30 : decode cX9_byteAt 30 = .ok (.iconst (-1), 1) := by decide +kernel
theorem dX9_byteAt_31 : decode cX9_byteAt 31 = .ok (.ireturn, 1) := by decide +kernel
theorem dX10_init_0 : decode cX10_init 0 = .ok (.aload_n 0, 1) := by decide +kernel
theorem dX10_init_1 : decode cX10_init 1 = .ok (.invokespecial 1, 3) := by decide +kernel
theorem dX10_init_4 : decode cX10_init 4 = .ok (.return_, 1) := by decide +kernel
theorem dX10_joyBy_0 : decode cX10_joyBy 0 = .ok (.aload_n 0, 1) := by decide +kernel
theorem dX10_joyBy_1 : decode cX10_joyBy 1 = .ok (.iload_n 1, 1) := by decide +kernel
theorem dX10_joyBy_2 : decode cX10_joyBy 2 = .ok (.iload_n 2, 1) := by decide +kernel
theorem dX10_joyBy_3 : decode cX10_joyBy 3 = .ok (.invokespecial 7, 3) := by decide +kernel
theorem dX10_joyBy_6 : decode cX10_joyBy 6 = .ok (.iconst 2, 1) := by decide +kernel
theorem dX10_joyBy_7 : decode cX10_joyBy 7 = .ok (.iadd, 1) := by decide +kernel
theorem dX10_joyBy_8 : decode cX10_joyBy 8 = .ok (.ireturn, 1) := by decide +kernel
theorem dJ6_bitCount_0f7a4_0 : decode cJ6_bitCount_0f7a4 0 = .ok (.iload_n 0, 1) := by decide +kernel
theorem dJ6_bitCount_0f7a4_1 : decode cJ6_bitCount_0f7a4 1 = .ok (.iload_n 0, 1) := by decide +kernel
theorem dJ6_bitCount_0f7a4_2 : decode cJ6_bitCount_0f7a4 2 = .ok (.iconst 1, 1) := by decide +kernel
theorem dJ6_bitCount_0f7a4_3 : decode cJ6_bitCount_0f7a4 3 = .ok (.iushr, 1) := by decide +kernel
theorem dJ6_bitCount_0f7a4_4 : decode cJ6_bitCount_0f7a4 4 = .ok (.ldc_w 265, 3) := by decide +kernel
theorem dJ6_bitCount_0f7a4_7 : decode cJ6_bitCount_0f7a4 7 = .ok (.iand, 1) := by decide +kernel
theorem dJ6_bitCount_0f7a4_8 : decode cJ6_bitCount_0f7a4 8 = .ok (.isub, 1) := by decide +kernel
theorem dJ6_bitCount_0f7a4_9 : decode cJ6_bitCount_0f7a4 9 = .ok (.istore_n 0, 1) := by decide +kernel
theorem dJ6_bitCount_0f7a4_10 : decode cJ6_bitCount_0f7a4 10 = .ok (.iload_n 0, 1) := by decide +kernel
theorem dJ6_bitCount_0f7a4_11 : decode cJ6_bitCount_0f7a4 11 = .ok (.ldc_w 266, 3) := by decide +kernel
theorem dJ6_bitCount_0f7a4_14 : decode cJ6_bitCount_0f7a4 14 = .ok (.iand, 1) := by decide +kernel
theorem dJ6_bitCount_0f7a4_15 : decode cJ6_bitCount_0f7a4 15 = .ok (.iload_n 0, 1) := by decide +kernel
theorem dJ6_bitCount_0f7a4_16 : decode cJ6_bitCount_0f7a4 16 = .ok (.iconst 2, 1) := by decide +kernel
theorem dJ6_bitCount_0f7a4_17 : decode cJ6_bitCount_0f7a4 17 = .ok (.iushr, 1) := by decide +kernel
theorem dJ6_bitCount_0f7a4_18 : decode cJ6_bitCount_0f7a4 18 = .ok (.ldc_w 266, 3) := by decide +kernel
theorem dJ6_bitCount_0f7a4_21 : decode cJ6_bitCount_0f7a4 21 = .ok (.iand, 1) := by decide +kernel
theorem dJ6_bitCount_0f7a4_22 : decode cJ6_bitCount_0f7a4 22 = .ok (.iadd, 1) := by decide +kernel
theorem dJ6_bitCount_0f7a4_23 : decode cJ6_bitCount_0f7a4 23 = .ok (.istore_n 0, 1) := by decide +kernel
theorem dJ6_bitCount_0f7a4_24 : decode cJ6_bitCount_0f7a4 24 = .ok (.iload_n 0, 1) := by decide +kernel
theorem dJ6_bitCount_0f7a4_25 : decode cJ6_bitCount_0f7a4 25 = .ok (.iload_n 0, 1) := by decide +kernel
theorem dJ6_bitCount_0f7a4_26 : decode cJ6_bitCount_0f7a4 26 = .ok (.iconst 4, 1) := by decide +kernel
theorem dJ6_bitCount_0f7a4_27 : decode cJ6_bitCount_0f7a4 27 = .ok (.iushr, 1) := by decide +kernel
theorem dJ6_bitCount_0f7a4_28 : decode cJ6_bitCount_0f7a4 28 = .ok (.iadd, 1) := by decide +kernel
theorem dJ6_bitCount_0f7a4_29 : decode cJ6_bitCount_0f7a4 29 = .ok (.ldc_w 267, 3) := by decide +kernel
theorem dJ6_bitCount_0f7a4_32 : decode cJ6_bitCount_0f7a4 32 = .ok (.iand, 1) := by decide +kernel
theorem dJ6_bitCount_0f7a4_33 : decode cJ6_bitCount_0f7a4 33 = .ok (.istore_n 0, 1) := by decide +kernel
theorem dJ6_bitCount_0f7a4_34 : decode cJ6_bitCount_0f7a4 34 = .ok (.iload_n 0, 1) := by decide +kernel
theorem dJ6_bitCount_0f7a4_35 : decode cJ6_bitCount_0f7a4 35 = .ok (.iload_n 0, 1) := by decide +kernel
theorem dJ6_bitCount_0f7a4_36 : decode cJ6_bitCount_0f7a4 36 = .ok (.bipush 8, 2) := by decide +kernel
theorem dJ6_bitCount_0f7a4_38 : decode cJ6_bitCount_0f7a4 38 = .ok (.iushr, 1) := by decide +kernel
theorem dJ6_bitCount_0f7a4_39 : decode cJ6_bitCount_0f7a4 39 = .ok (.iadd, 1) := by decide +kernel
theorem dJ6_bitCount_0f7a4_40 : decode cJ6_bitCount_0f7a4 40 = .ok (.istore_n 0, 1) := by decide +kernel
theorem dJ6_bitCount_0f7a4_41 : decode cJ6_bitCount_0f7a4 41 = .ok (.iload_n 0, 1) := by decide +kernel
theorem dJ6_bitCount_0f7a4_42 : decode cJ6_bitCount_0f7a4 42 = .ok (.iload_n 0, 1) := by decide +kernel
theorem dJ6_bitCount_0f7a4_43 : decode cJ6_bitCount_0f7a4 43 = .ok (.bipush 16, 2) := by decide +kernel
theorem dJ6_bitCount_0f7a4_45 : decode cJ6_bitCount_0f7a4 45 = .ok (.iushr, 1) := by decide +kernel
theorem dJ6_bitCount_0f7a4_46 : decode cJ6_bitCount_0f7a4 46 = .ok (.iadd, 1) := by decide +kernel
theorem dJ6_bitCount_0f7a4_47 : decode cJ6_bitCount_0f7a4 47 = .ok (.istore_n 0, 1) := by decide +kernel
theorem dJ6_bitCount_0f7a4_48 : decode cJ6_bitCount_0f7a4 48 = .ok (.iload_n 0, 1) := by decide +kernel
theorem dJ6_bitCount_0f7a4_49 : decode cJ6_bitCount_0f7a4 49 = .ok (.bipush 63, 2) := by decide +kernel
theorem dJ6_bitCount_0f7a4_51 : decode cJ6_bitCount_0f7a4 51 = .ok (.iand, 1) := by decide +kernel
theorem dJ6_bitCount_0f7a4_52 : decode cJ6_bitCount_0f7a4 52 = .ok (.ireturn, 1) := by decide +kernel
theorem dJ9_max_7cf53_0 : decode cJ9_max_7cf53 0 = .ok (.iload_n 0, 1) := by decide +kernel
theorem dJ9_max_7cf53_1 : decode cJ9_max_7cf53 1 = .ok (.iload_n 1, 1) := by decide +kernel
theorem dJ9_max_7cf53_2 : decode cJ9_max_7cf53 2 = .ok (.if_icmp .lt 7, 3) := by decide +kernel
theorem dJ9_max_7cf53_5 : decode cJ9_max_7cf53 5 = .ok (.iload_n 0, 1) := by decide +kernel
theorem dJ9_max_7cf53_6 : decode cJ9_max_7cf53 6 = .ok (.goto 4, 3) := by decide +kernel
theorem dJ9_max_7cf53_9 : decode cJ9_max_7cf53 9 = .ok (.iload_n 1, 1) := by decide +kernel
theorem dJ9_max_7cf53_10 : decode cJ9_max_7cf53 10 = .ok (.ireturn, 1) := by decide +kernel
theorem dJ0_length_8abf5_0 : decode cJ0_length_8abf5 0 = .ok (.aload_n 0, 1) := by decide +kernel
theorem dJ0_length_8abf5_1 : decode cJ0_length_8abf5 1 = .ok (.getfield 9, 3) := by decide +kernel
theorem dJ0_length_8abf5_4 : decode cJ0_length_8abf5 4 = .ok (.arraylength, 1) := by decide +kernel
theorem dJ0_length_8abf5_5 : decode cJ0_length_8abf5 5 = .ok (.aload_n 0, 1) := by decide +kernel
theorem dJ0_length_8abf5_6 : decode cJ0_length_8abf5 6 = .ok (.invokevirtual 335, 3) := by decide +kernel
theorem dJ0_length_8abf5_9 : decode cJ0_length_8abf5 9 = .ok (.ishr, 1) := by decide +kernel
theorem dJ0_length_8abf5_10 : decode cJ0_length_8abf5 10 = .ok (.ireturn, 1) := by decide +kernel
theorem dJ0_charAt_5068e_0 : decode cJ0_charAt_5068e 0 = .ok (.aload_n 0, 1) := by decide +kernel
theorem dJ0_charAt_5068e_1 : decode cJ0_charAt_5068e 1 = .ok (.invokevirtual 492, 3) := by decide +kernel
theorem dJ0_charAt_5068e_4 : decode cJ0_charAt_5068e 4 = .ok (.ifCond .eq 12, 3) := by decide +kernel
theorem dJ0_charAt_5068e_7 : decode cJ0_charAt_5068e 7 = .ok (.aload_n 0, 1) := by decide +kernel
theorem dJ0_charAt_5068e_8 : decode cJ0_charAt_5068e 8 = .ok (.getfield 9, 3) := by decide +kernel
theorem dJ0_charAt_5068e_11 : decode cJ0_charAt_5068e 11 = .ok (.iload_n 1, 1) := by decide +kernel
theorem dJ0_charAt_5068e_12 : decode cJ0_charAt_5068e 12 = .ok (.invokestatic 495, 3) := by decide +kernel
theorem dJ0_charAt_5068e_15 : decode cJ0_charAt_5068e 15 = .ok (.ireturn, 1) := by decide +kernel
theorem dJ0_charAt_5068e_16 : decode cJ0_charAt_5068e 16 = .ok (.aload_n 0, 1) := by decide +kernel
theorem dJ0_charAt_5068e_17 : decode cJ0_charAt_5068e 17 = .ok (.getfield 9, 3) := by decide +kernel
theorem dJ0_charAt_5068e_20 : decode cJ0_charAt_5068e 20 = .ok (.iload_n 1, 1) := by decide +kernel
theorem dJ0_charAt_5068e_21 : decode cJ0_charAt_5068e 21 = .ok (.invokestatic 498, 3) := by decide +kernel
theorem dJ0_charAt_5068e_24 : decode cJ0_charAt_5068e 24 = .ok (.ireturn, 1) := by decide +kernel
theorem dJ0_coder_7d493_0 : decode cJ0_coder_7d493 0 = .ok (.getstatic 38, 3) := by decide +kernel
theorem dJ0_coder_7d493_3 : decode cJ0_coder_7d493 3 = .ok (.ifCond .eq 10, 3) := by decide +kernel
theorem dJ0_coder_7d493_6 : decode cJ0_coder_7d493 6 = .ok (.aload_n 0, 1) := by decide +kernel
theorem dJ0_coder_7d493_7 : decode cJ0_coder_7d493 7 = .ok (.getfield 15, 3) := by decide +kernel
theorem dJ0_coder_7d493_10 : decode cJ0_coder_7d493 10 = .ok (.goto 4, 3) := by decide +kernel
theorem dJ0_coder_7d493_13 : decode cJ0_coder_7d493 13 = .ok (.iconst 1, 1) := by decide +kernel
theorem dJ0_coder_7d493_14 : decode cJ0_coder_7d493 14 = .ok (.ireturn, 1) := by decide +kernel
theorem dJ0_isLatin1_aae02_0 : decode cJ0_isLatin1_aae02 0 = .ok (.getstatic 38, 3) := by decide +kernel
theorem dJ0_isLatin1_aae02_3 : decode cJ0_isLatin1_aae02 3 = .ok (.ifCond .eq 14, 3) := by decide +kernel
theorem dJ0_isLatin1_aae02_6 : decode cJ0_isLatin1_aae02 6 = .ok (.aload_n 0, 1) := by decide +kernel
theorem dJ0_isLatin1_aae02_7 : decode cJ0_isLatin1_aae02 7 = .ok (.getfield 15, 3) := by decide +kernel
theorem dJ0_isLatin1_aae02_10 : decode cJ0_isLatin1_aae02 10 = .ok (.ifCond .ne 7, 3) := by decide +kernel
theorem dJ0_isLatin1_aae02_13 : decode cJ0_isLatin1_aae02 13 = .ok (.iconst 1, 1) := by decide +kernel
theorem dJ0_isLatin1_aae02_14 : decode cJ0_isLatin1_aae02 14 = .ok (.goto 4, 3) := by decide +kernel
theorem dJ0_isLatin1_aae02_17 : decode cJ0_isLatin1_aae02 17 = .ok (.iconst 0, 1) := by decide +kernel
theorem dJ0_isLatin1_aae02_18 : decode cJ0_isLatin1_aae02 18 = .ok (.ireturn, 1) := by decide +kernel
theorem dJ0_checkIndex_df160_0 : decode cJ0_checkIndex_df160 0 = .ok (.iload_n 0, 1) := by decide +kernel
theorem dJ0_checkIndex_df160_1 : decode cJ0_checkIndex_df160 1 = .ok (.iload_n 1, 1) := by decide +kernel
theorem dJ0_checkIndex_df160_2 : decode cJ0_checkIndex_df160 2 = .ok (.getstatic 1053, 3) := by decide +kernel
theorem dJ0_checkIndex_df160_5 : decode cJ0_checkIndex_df160 5 = .ok (.invokestatic 1059, 3) := by decide +kernel
theorem dJ0_checkIndex_df160_8 : decode cJ0_checkIndex_df160 8 = .ok (.pop, 1) := by decide +kernel
theorem dJ0_checkIndex_df160_9 : decode cJ0_checkIndex_df160 9 = .ok (.return_, 1) := by decide +kernel
theorem dJ1_charAt_3b067_0 : decode cJ1_charAt_3b067 0 = .ok (.iload_n 1, 1) := by decide +kernel
theorem dJ1_charAt_3b067_1 : decode cJ1_charAt_3b067 1 = .ok (.aload_n 0, 1) := by decide +kernel
theorem dJ1_charAt_3b067_2 : decode cJ1_charAt_3b067 2 = .ok (.arraylength, 1) := by decide +kernel
theorem dJ1_charAt_3b067_3 : decode cJ1_charAt_3b067 3 = .ok (.invokestatic 9, 3) := by decide +kernel
theorem dJ1_charAt_3b067_6 : decode cJ1_charAt_3b067 6 = .ok (.aload_n 0, 1) := by decide +kernel
theorem dJ1_charAt_3b067_7 : decode cJ1_charAt_3b067 7 = .ok (.iload_n 1, 1) := by decide +kernel
theorem dJ1_charAt_3b067_8 : decode cJ1_charAt_3b067 8 = .ok (.baload, 1) := by decide +kernel
theorem dJ1_charAt_3b067_9 : decode cJ1_charAt_3b067 9 = .ok (.sipush 255, 3) := by decide +kernel
theorem dJ1_charAt_3b067_12 : decode cJ1_charAt_3b067 12 = .ok (.iand, 1) := by decide +kernel
theorem dJ1_charAt_3b067_13 : decode cJ1_charAt_3b067 13 = .ok (.i2c, 1) := by decide +kernel
theorem dJ1_charAt_3b067_14 : decode cJ1_charAt_3b067 14 = .ok (.ireturn, 1) := by decide +kernel
theorem dJ2_getChar_3b067_0 : decode cJ2_getChar_3b067 0 = .ok (.getstatic 44, 3) := by decide +kernel
theorem dJ2_getChar_3b067_3 : decode cJ2_getChar_3b067 3 = .ok (.ifCond .ne 25, 3) := by decide +kernel
theorem dJ2_getChar_3b067_6 : decode cJ2_getChar_3b067 6 = .ok (.iload_n 1, 1) := by decide +kernel
theorem dJ2_getChar_3b067_7 : decode cJ2_getChar_3b067 7 = .ok (.ifCond .lt 11, 3) := by decide +kernel
theorem dJ2_getChar_3b067_10 : decode cJ2_getChar_3b067 10 = .ok (.iload_n 1, 1) := by decide +kernel
theorem dJ2_getChar_3b067_11 : decode cJ2_getChar_3b067 11 = .ok (.aload_n 0, 1) := by decide +kernel
theorem dJ2_getChar_3b067_12 : decode cJ2_getChar_3b067 12 = .ok (.invokestatic 48, 3) := by decide +kernel
theorem dJ2_getChar_3b067_15 : decode cJ2_getChar_3b067 15 = .ok (.if_icmp .lt 13, 3) := by decide +kernel
theorem dJ2_getChar_3b067_18 : decode cJ2_getChar_3b067 18 = .ok (.new 52, 3) := by decide +kernel
theorem dJ2_getChar_3b067_21 : decode cJ2_getChar_3b067 21 = .ok (.dup, 1) := by decide +kernel
theorem dJ2_getChar_3b067_22 : decode cJ2_getChar_3b067 22 = .ok (.ldc 54, 2) := by decide +kernel
theorem dJ2_getChar_3b067_24 : decode cJ2_getChar_3b067 24 = .ok (.invokespecial 56, 3) := by decide +kernel
theorem dJ2_getChar_3b067_27 : decode cJ2_getChar_3b067 27 = .ok (.athrow, 1) := by decide +kernel
theorem dJ2_getChar_3b067_28 : decode cJ2_getChar_3b067 28 = .ok (.iload_n 1, 1) := by decide +kernel
theorem dJ2_getChar_3b067_29 : decode cJ2_getChar_3b067 29 = .ok (.iconst 1, 1) := by decide +kernel
theorem dJ2_getChar_3b067_30 : decode cJ2_getChar_3b067 30 = .ok (.ishl, 1) := by decide +kernel
theorem dJ2_getChar_3b067_31 : decode cJ2_getChar_3b067 31 = .ok (.istore_n 1, 1) := by decide +kernel
theorem dJ2_getChar_3b067_32 : decode cJ2_getChar_3b067 32 = .ok (.aload_n 0, 1) := by decide +kernel
theorem dJ2_getChar_3b067_33 : decode cJ2_getChar_3b067 33 = .ok (.iload_n 1, 1) := by decide +kernel
theorem dJ2_getChar_3b067_34 : decode cJ2_getChar_3b067 34 = .ok (.iinc 1 1, 3) := by decide +kernel
theorem dJ2_getChar_3b067_37 : decode cJ2_getChar_3b067 37 = .ok (.baload, 1) := by decide +kernel
theorem dJ2_getChar_3b067_38 : decode cJ2_getChar_3b067 38 = .ok (.sipush 255, 3) := by decide +kernel
theorem dJ2_getChar_3b067_41 : decode cJ2_getChar_3b067 41 = .ok (.iand, 1) := by decide +kernel
theorem dJ2_getChar_3b067_42 : decode cJ2_getChar_3b067 42 = .ok (.getstatic 59, 3) := by decide +kernel
theorem dJ2_getChar_3b067_45 : decode cJ2_getChar_3b067 45 = .ok (.ishl, 1) := by decide +kernel
theorem dJ2_getChar_3b067_46 : decode cJ2_getChar_3b067 46 = .ok (.aload_n 0, 1) := by decide +kernel
theorem dJ2_getChar_3b067_47 : decode cJ2_getChar_3b067 47 = .ok (.iload_n 1, 1) := by decide +kernel
theorem dJ2_getChar_3b067_48 : decode cJ2_getChar_3b067 48 = .ok (.baload, 1) := by decide +kernel
theorem dJ2_getChar_3b067_49 : decode cJ2_getChar_3b067 49 = .ok (.sipush 255, 3) := by decide +kernel
theorem dJ2_getChar_3b067_52 : decode cJ2_getChar_3b067 52 = .ok (.iand, 1) := by decide +kernel
theorem dJ2_getChar_3b067_53 : decode cJ2_getChar_3b067 53 = .ok (.getstatic 63, 3) := by decide +kernel
theorem dJ2_getChar_3b067_56 : decode cJ2_getChar_3b067 56 = .ok (.ishl, 1) := by decide +kernel
theorem dJ2_getChar_3b067_57 : decode cJ2_getChar_3b067 57 = .ok (.ior, 1) := by decide +kernel
theorem dJ2_getChar_3b067_58 : decode cJ2_getChar_3b067 58 = .ok (.i2c, 1) := by decide +kernel
theorem dJ2_getChar_3b067_59 : decode cJ2_getChar_3b067 59 = .ok (.ireturn, 1) := by decide +kernel
theorem dJ2_length_9d52b_0 : decode cJ2_length_9d52b 0 = .ok (.aload_n 0, 1) := by decide +kernel
theorem dJ2_length_9d52b_1 : decode cJ2_length_9d52b 1 = .ok (.arraylength, 1) := by decide +kernel
theorem dJ2_length_9d52b_2 : decode cJ2_length_9d52b 2 = .ok (.iconst 1, 1) := by decide +kernel
theorem dJ2_length_9d52b_3 : decode cJ2_length_9d52b 3 = .ok (.ishr, 1) := by decide +kernel
theorem dJ2_length_9d52b_4 : decode cJ2_length_9d52b 4 = .ok (.ireturn, 1) := by decide +kernel
theorem dJ2_charAt_3b067_0 : decode cJ2_charAt_3b067 0 = .ok (.iload_n 1, 1) := by decide +kernel
theorem dJ2_charAt_3b067_1 : decode cJ2_charAt_3b067 1 = .ok (.aload_n 0, 1) := by decide +kernel
theorem dJ2_charAt_3b067_2 : decode cJ2_charAt_3b067 2 = .ok (.invokestatic 67, 3) := by decide +kernel
theorem dJ2_charAt_3b067_5 : decode cJ2_charAt_3b067 5 = .ok (.aload_n 0, 1) := by decide +kernel
theorem dJ2_charAt_3b067_6 : decode cJ2_charAt_3b067 6 = .ok (.iload_n 1, 1) := by decide +kernel
theorem dJ2_charAt_3b067_7 : decode cJ2_charAt_3b067 7 = .ok (.invokestatic 71, 3) := by decide +kernel
theorem dJ2_charAt_3b067_10 : decode cJ2_charAt_3b067 10 = .ok (.ireturn, 1) := by decide +kernel
theorem dJ2_checkIndex_2214a_0 : decode cJ2_checkIndex_2214a 0 = .ok (.iload_n 0, 1) := by decide +kernel
theorem dJ2_checkIndex_2214a_1 : decode cJ2_checkIndex_2214a 1 = .ok (.aload_n 1, 1) := by decide +kernel
theorem dJ2_checkIndex_2214a_2 : decode cJ2_checkIndex_2214a 2 = .ok (.invokestatic 48, 3) := by decide +kernel
theorem dJ2_checkIndex_2214a_5 : decode cJ2_checkIndex_2214a 5 = .ok (.invokestatic 414, 3) := by decide +kernel
theorem dJ2_checkIndex_2214a_8 : decode cJ2_checkIndex_2214a 8 = .ok (.return_, 1) := by decide +kernel
theorem dJ3_checkIndex_8e157_0 : decode cJ3_checkIndex_8e157 0 = .ok (.iload_n 0, 1) := by decide +kernel
theorem dJ3_checkIndex_8e157_1 : decode cJ3_checkIndex_8e157 1 = .ok (.ifCond .lt 8, 3) := by decide +kernel
theorem dJ3_checkIndex_8e157_4 : decode cJ3_checkIndex_8e157 4 = .ok (.iload_n 0, 1) := by decide +kernel
theorem dJ3_checkIndex_8e157_5 : decode cJ3_checkIndex_8e157 5 = .ok (.iload_n 1, 1) := by decide +kernel
theorem dJ3_checkIndex_8e157_6 : decode cJ3_checkIndex_8e157 6 = .ok (.if_icmp .lt 10, 3) := by decide +kernel
theorem dJ3_checkIndex_8e157_9 : decode cJ3_checkIndex_8e157 9 = .ok (.aload_n 2, 1) := by decide +kernel
theorem dJ3_checkIndex_8e157_10 : decode cJ3_checkIndex_8e157 10 = .ok (.iload_n 0, 1) := by decide +kernel
theorem dJ3_checkIndex_8e157_11 : decode cJ3_checkIndex_8e157 11 = .ok (.iload_n 1, 1) := by decide +kernel
theorem dJ3_checkIndex_8e157_12 : decode cJ3_checkIndex_8e157 12 = .ok (.invokestatic 95, 3) := by decide +kernel
theorem dJ3_checkIndex_8e157_15 : decode cJ3_checkIndex_8e157 15 = .ok (.athrow, 1) := by decide +kernel
theorem dJ3_checkIndex_8e157_16 : decode cJ3_checkIndex_8e157 16 = .ok (.iload_n 0, 1) := by decide +kernel
theorem dJ3_checkIndex_8e157_17 : decode cJ3_checkIndex_8e157 17 = .ok (.ireturn, 1) := by decide +kernel
end
section
/-- n places of cell q, put into cell o -/
def zcp (s : zS) (o q n : Nat) : zS := fun k j => if k = o ∧ j < n then s q j else s k j
abbrev mX0_copyFrom : zM := (yX0_copyFrom, cX0_copyFrom, 2, none, { frames := 0, cells := 0, slots := 0, locals := 0 })
theorem cp0_eq (s : zS) (o q : Nat) : (zu (zu (zu (zu s o 0 (s q 0)) o 1 ((zu s o 0 (s q 0)) q 1)) o 2 ((zu (zu s o 0 (s q 0)) o 1 ((zu s o 0 (s q 0)) q 1)) q 2)) o 3 ((zu (zu (zu s o 0 (s q 0)) o 1 ((zu s o 0 (s q 0)) q 1)) o 2 ((zu (zu s o 0 (s q 0)) o 1 ((zu s o 0 (s q 0)) q 1)) q 2)) q 3)) = zcp s o q 4 := by
  funext k j
  by_cases hk : k = o
  · subst hk
    rcases (show j = 0 ∨ j = 1 ∨ j = 2 ∨ j = 3 ∨ 4 ≤ j by omega) with rfl | rfl | rfl | rfl | hj
    · simp [zu, zcp]
    · simp [zu, zcp]
    · simp [zu, zcp]
    · simp [zu, zcp]
    · simp [zu, zcp, show ¬ j = 0 by omega, show ¬ j = 1 by omega, show ¬ j = 2 by omega, show ¬ j = 3 by omega, show ¬ j < 4 by omega]
  · simp [zu, zcp, hk]
set_option maxRecDepth 100000 in
set_option maxHeartbeats 4000000 in
theorem c_X0_copyFrom (l : Launch) (B : zB) (s : zS) (t : zL) (o q : Nat) (ho : zk o = 0) (lo : o < 124) (hq : zk q = 0) (lq : q < 124) : zD l B mX0_copyFrom s t [.ref (B.1 + o), .ref (B.1 + q)] none (zcp s o q 4) t := by
  refine z_met (by decide) (Nat.le_of_ble_eq_true rfl) ?_
  intro X hl C E hnm
  show Zf X B mX0_copyFrom s t 0 [(0, .ref (B.1 + o)), (1, .ref (B.1 + q))] []
  refine z_aload_n C dX0_copyFrom_0 0 rfl rfl ?_
  refine z_aload_n C dX0_copyFrom_1 1 rfl rfl ?_
  refine f_get0 C 0 (v := .int (s q 0)) (by decide) tw_117 rfl hq lq rfl dX0_copyFrom_2 ?_
  refine f_put0_0 C tw_117 ho lo dX0_copyFrom_5 ?_
  refine z_aload_n C dX0_copyFrom_8 0 rfl rfl ?_
  refine z_aload_n C dX0_copyFrom_9 1 rfl rfl ?_
  refine f_get0 C 1 (v := .int ((zu s o 0 (s q 0)) q 1)) (by decide) tw_120 rfl hq lq rfl dX0_copyFrom_10 ?_
  refine f_put0_1 C tw_120 ho lo dX0_copyFrom_13 ?_
  refine z_aload_n C dX0_copyFrom_16 0 rfl rfl ?_
  refine z_aload_n C dX0_copyFrom_17 1 rfl rfl ?_
  refine f_get0 C 2 (v := .int ((zu (zu s o 0 (s q 0)) o 1 ((zu s o 0 (s q 0)) q 1)) q 2)) (by decide) tw_123 rfl hq lq rfl dX0_copyFrom_18 ?_
  refine f_put0_2 C tw_123 ho lo dX0_copyFrom_21 ?_
  refine z_aload_n C dX0_copyFrom_24 0 rfl rfl ?_
  refine z_aload_n C dX0_copyFrom_25 1 rfl rfl ?_
  refine f_get0 C 3 (v := .int ((zu (zu (zu s o 0 (s q 0)) o 1 ((zu s o 0 (s q 0)) q 1)) o 2 ((zu (zu s o 0 (s q 0)) o 1 ((zu s o 0 (s q 0)) q 1)) q 2)) q 3)) (by decide) tw_126 rfl hq lq rfl dX0_copyFrom_26 ?_
  refine f_put0_3 C tw_126 ho lo dX0_copyFrom_29 ?_
  refine z_vret C E rfl dX0_copyFrom_32 rfl (Nat.le_refl _) ⟨rfl, congrArg (fun z => zg B z t) (cp0_eq s o q)⟩
abbrev mX4_copyFrom : zM := (yX4_copyFrom, cX4_copyFrom, 2, none, { frames := 0, cells := 0, slots := 0, locals := 0 })
theorem cp4_eq (s : zS) (o q : Nat) : (zu (zu (zu (zu s o 0 (s q 0)) o 1 ((zu s o 0 (s q 0)) q 1)) o 2 ((zu (zu s o 0 (s q 0)) o 1 ((zu s o 0 (s q 0)) q 1)) q 2)) o 3 ((zu (zu (zu s o 0 (s q 0)) o 1 ((zu s o 0 (s q 0)) q 1)) o 2 ((zu (zu s o 0 (s q 0)) o 1 ((zu s o 0 (s q 0)) q 1)) q 2)) q 3)) = zcp s o q 4 := by
  funext k j
  by_cases hk : k = o
  · subst hk
    rcases (show j = 0 ∨ j = 1 ∨ j = 2 ∨ j = 3 ∨ 4 ≤ j by omega) with rfl | rfl | rfl | rfl | hj
    · simp [zu, zcp]
    · simp [zu, zcp]
    · simp [zu, zcp]
    · simp [zu, zcp]
    · simp [zu, zcp, show ¬ j = 0 by omega, show ¬ j = 1 by omega, show ¬ j = 2 by omega, show ¬ j = 3 by omega, show ¬ j < 4 by omega]
  · simp [zu, zcp, hk]
set_option maxRecDepth 100000 in
set_option maxHeartbeats 4000000 in
theorem c_X4_copyFrom (l : Launch) (B : zB) (s : zS) (t : zL) (o q : Nat) (ho : zk o = 4) (lo : o < 124) (hq : zk q = 4) (lq : q < 124) : zD l B mX4_copyFrom s t [.ref (B.1 + o), .ref (B.1 + q)] none (zcp s o q 4) t := by
  refine z_met (by decide) (Nat.le_of_ble_eq_true rfl) ?_
  intro X hl C E hnm
  show Zf X B mX4_copyFrom s t 0 [(0, .ref (B.1 + o)), (1, .ref (B.1 + q))] []
  refine z_aload_n C dX4_copyFrom_0 0 rfl rfl ?_
  refine z_aload_n C dX4_copyFrom_1 1 rfl rfl ?_
  refine f_get4 C 0 (v := .int (s q 0)) (by decide) tw_145 rfl hq lq rfl dX4_copyFrom_2 ?_
  refine f_put4_0 C tw_145 ho lo dX4_copyFrom_5 ?_
  refine z_aload_n C dX4_copyFrom_8 0 rfl rfl ?_
  refine z_aload_n C dX4_copyFrom_9 1 rfl rfl ?_
  refine f_get4 C 1 (v := .int ((zu s o 0 (s q 0)) q 1)) (by decide) tw_148 rfl hq lq rfl dX4_copyFrom_10 ?_
  refine f_put4_1 C tw_148 ho lo dX4_copyFrom_13 ?_
  refine z_aload_n C dX4_copyFrom_16 0 rfl rfl ?_
  refine z_aload_n C dX4_copyFrom_17 1 rfl rfl ?_
  refine f_get4 C 2 (v := .int ((zu (zu s o 0 (s q 0)) o 1 ((zu s o 0 (s q 0)) q 1)) q 2)) (by decide) tw_151 rfl hq lq rfl dX4_copyFrom_18 ?_
  refine f_put4_2 C tw_151 ho lo dX4_copyFrom_21 ?_
  refine z_aload_n C dX4_copyFrom_24 0 rfl rfl ?_
  refine z_aload_n C dX4_copyFrom_25 1 rfl rfl ?_
  refine f_get4 C 3 (v := .int ((zu (zu (zu s o 0 (s q 0)) o 1 ((zu s o 0 (s q 0)) q 1)) o 2 ((zu (zu s o 0 (s q 0)) o 1 ((zu s o 0 (s q 0)) q 1)) q 2)) q 3)) (by decide) tw_154 rfl hq lq rfl dX4_copyFrom_26 ?_
  refine f_put4_3 C tw_154 ho lo dX4_copyFrom_29 ?_
  refine z_vret C E rfl dX4_copyFrom_32 rfl (Nat.le_refl _) ⟨rfl, congrArg (fun z => zg B z t) (cp4_eq s o q)⟩
abbrev mX8_copyFrom : zM := (yX8_copyFrom, cX8_copyFrom, 2, none, { frames := 0, cells := 0, slots := 0, locals := 0 })
theorem cp8_eq (s : zS) (o q : Nat) : (zu (zu (zu (zu (zu (zu s o 0 (s q 0)) o 1 ((zu s o 0 (s q 0)) q 1)) o 2 ((zu (zu s o 0 (s q 0)) o 1 ((zu s o 0 (s q 0)) q 1)) q 2)) o 3 ((zu (zu (zu s o 0 (s q 0)) o 1 ((zu s o 0 (s q 0)) q 1)) o 2 ((zu (zu s o 0 (s q 0)) o 1 ((zu s o 0 (s q 0)) q 1)) q 2)) q 3)) o 4 ((zu (zu (zu (zu s o 0 (s q 0)) o 1 ((zu s o 0 (s q 0)) q 1)) o 2 ((zu (zu s o 0 (s q 0)) o 1 ((zu s o 0 (s q 0)) q 1)) q 2)) o 3 ((zu (zu (zu s o 0 (s q 0)) o 1 ((zu s o 0 (s q 0)) q 1)) o 2 ((zu (zu s o 0 (s q 0)) o 1 ((zu s o 0 (s q 0)) q 1)) q 2)) q 3)) q 4)) o 5 ((zu (zu (zu (zu (zu s o 0 (s q 0)) o 1 ((zu s o 0 (s q 0)) q 1)) o 2 ((zu (zu s o 0 (s q 0)) o 1 ((zu s o 0 (s q 0)) q 1)) q 2)) o 3 ((zu (zu (zu s o 0 (s q 0)) o 1 ((zu s o 0 (s q 0)) q 1)) o 2 ((zu (zu s o 0 (s q 0)) o 1 ((zu s o 0 (s q 0)) q 1)) q 2)) q 3)) o 4 ((zu (zu (zu (zu s o 0 (s q 0)) o 1 ((zu s o 0 (s q 0)) q 1)) o 2 ((zu (zu s o 0 (s q 0)) o 1 ((zu s o 0 (s q 0)) q 1)) q 2)) o 3 ((zu (zu (zu s o 0 (s q 0)) o 1 ((zu s o 0 (s q 0)) q 1)) o 2 ((zu (zu s o 0 (s q 0)) o 1 ((zu s o 0 (s q 0)) q 1)) q 2)) q 3)) q 4)) q 5)) = zcp s o q 6 := by
  funext k j
  by_cases hk : k = o
  · subst hk
    rcases (show j = 0 ∨ j = 1 ∨ j = 2 ∨ j = 3 ∨ j = 4 ∨ j = 5 ∨ 6 ≤ j by omega) with rfl | rfl | rfl | rfl | rfl | rfl | hj
    · simp [zu, zcp]
    · simp [zu, zcp]
    · simp [zu, zcp]
    · simp [zu, zcp]
    · simp [zu, zcp]
    · simp [zu, zcp]
    · simp [zu, zcp, show ¬ j = 0 by omega, show ¬ j = 1 by omega, show ¬ j = 2 by omega, show ¬ j = 3 by omega, show ¬ j = 4 by omega, show ¬ j = 5 by omega, show ¬ j < 6 by omega]
  · simp [zu, zcp, hk]
set_option maxRecDepth 100000 in
set_option maxHeartbeats 4000000 in
theorem c_X8_copyFrom (l : Launch) (B : zB) (s : zS) (t : zL) (o q : Nat) (ho : zk o = 8) (lo : o < 124) (hq : zk q = 8) (lq : q < 124) : zD l B mX8_copyFrom s t [.ref (B.1 + o), .ref (B.1 + q)] none (zcp s o q 6) t := by
  refine z_met (by decide) (Nat.le_of_ble_eq_true rfl) ?_
  intro X hl C E hnm
  show Zf X B mX8_copyFrom s t 0 [(0, .ref (B.1 + o)), (1, .ref (B.1 + q))] []
  refine z_aload_n C dX8_copyFrom_0 0 rfl rfl ?_
  refine z_aload_n C dX8_copyFrom_1 1 rfl rfl ?_
  refine f_get8 C 0 (v := .int (s q 0)) (by decide) tw_83 rfl hq lq rfl dX8_copyFrom_2 ?_
  refine f_put8_0 C tw_83 ho lo dX8_copyFrom_5 ?_
  refine z_aload_n C dX8_copyFrom_8 0 rfl rfl ?_
  refine z_aload_n C dX8_copyFrom_9 1 rfl rfl ?_
  refine f_get8 C 1 (v := .int ((zu s o 0 (s q 0)) q 1)) (by decide) tw_86 rfl hq lq rfl dX8_copyFrom_10 ?_
  refine f_put8_1 C tw_86 ho lo dX8_copyFrom_13 ?_
  refine z_aload_n C dX8_copyFrom_16 0 rfl rfl ?_
  refine z_aload_n C dX8_copyFrom_17 1 rfl rfl ?_
  refine f_get8 C 2 (v := .int ((zu (zu s o 0 (s q 0)) o 1 ((zu s o 0 (s q 0)) q 1)) q 2)) (by decide) tw_88 rfl hq lq rfl dX8_copyFrom_18 ?_
  refine f_put8_2 C tw_88 ho lo dX8_copyFrom_21 ?_
  refine z_aload_n C dX8_copyFrom_24 0 rfl rfl ?_
  refine z_aload_n C dX8_copyFrom_25 1 rfl rfl ?_
  refine f_get8 C 3 (v := .int ((zu (zu (zu s o 0 (s q 0)) o 1 ((zu s o 0 (s q 0)) q 1)) o 2 ((zu (zu s o 0 (s q 0)) o 1 ((zu s o 0 (s q 0)) q 1)) q 2)) q 3)) (by decide) tw_91 rfl hq lq rfl dX8_copyFrom_26 ?_
  refine f_put8_3 C tw_91 ho lo dX8_copyFrom_29 ?_
  refine z_aload_n C dX8_copyFrom_32 0 rfl rfl ?_
  refine z_aload_n C dX8_copyFrom_33 1 rfl rfl ?_
  refine f_get8 C 4 (v := .int ((zu (zu (zu (zu s o 0 (s q 0)) o 1 ((zu s o 0 (s q 0)) q 1)) o 2 ((zu (zu s o 0 (s q 0)) o 1 ((zu s o 0 (s q 0)) q 1)) q 2)) o 3 ((zu (zu (zu s o 0 (s q 0)) o 1 ((zu s o 0 (s q 0)) q 1)) o 2 ((zu (zu s o 0 (s q 0)) o 1 ((zu s o 0 (s q 0)) q 1)) q 2)) q 3)) q 4)) (by decide) tw_93 rfl hq lq rfl dX8_copyFrom_34 ?_
  refine f_put8_4 C tw_93 ho lo dX8_copyFrom_37 ?_
  refine z_aload_n C dX8_copyFrom_40 0 rfl rfl ?_
  refine z_aload_n C dX8_copyFrom_41 1 rfl rfl ?_
  refine f_get8 C 5 (v := .int ((zu (zu (zu (zu (zu s o 0 (s q 0)) o 1 ((zu s o 0 (s q 0)) q 1)) o 2 ((zu (zu s o 0 (s q 0)) o 1 ((zu s o 0 (s q 0)) q 1)) q 2)) o 3 ((zu (zu (zu s o 0 (s q 0)) o 1 ((zu s o 0 (s q 0)) q 1)) o 2 ((zu (zu s o 0 (s q 0)) o 1 ((zu s o 0 (s q 0)) q 1)) q 2)) q 3)) o 4 ((zu (zu (zu (zu s o 0 (s q 0)) o 1 ((zu s o 0 (s q 0)) q 1)) o 2 ((zu (zu s o 0 (s q 0)) o 1 ((zu s o 0 (s q 0)) q 1)) q 2)) o 3 ((zu (zu (zu s o 0 (s q 0)) o 1 ((zu s o 0 (s q 0)) q 1)) o 2 ((zu (zu s o 0 (s q 0)) o 1 ((zu s o 0 (s q 0)) q 1)) q 2)) q 3)) q 4)) q 5)) (by decide) tw_95 rfl hq lq rfl dX8_copyFrom_42 ?_
  refine f_put8_5 C tw_95 ho lo dX8_copyFrom_45 ?_
  refine z_vret C E rfl dX8_copyFrom_48 rfl (Nat.le_refl _) ⟨rfl, congrArg (fun z => zg B z t) (cp8_eq s o q)⟩
abbrev mX8_startOn : zM := (yX8_startOn, cX8_startOn, 2, none, { frames := 0, cells := 0, slots := 0, locals := 0 })
set_option maxRecDepth 100000 in
set_option maxHeartbeats 4000000 in
theorem c_X8_startOn (l : Launch) (B : zB) (s : zS) (t : zL) (o : Nat) (ho : zk o = 8) (lo : o < 124) (a : Int32) : zD l B mX8_startOn s t [.ref (B.1 + o), .int a] none (zu (zu (zu (zu (zu (zu s o 0 a) o 1 0) o 2 0) o 3 0) o 4 0) o 5 0) t := by
  refine z_met (by decide) (Nat.le_of_ble_eq_true rfl) ?_
  intro X hl C E hnm
  show Zf X B mX8_startOn s t 0 [(0, .ref (B.1 + o)), (1, .int a)] []
  refine z_aload_n C dX8_startOn_0 0 rfl rfl ?_
  refine z_iload_n C dX8_startOn_1 1 rfl rfl ?_
  refine f_put8_0 C tw_83 ho lo dX8_startOn_2 ?_
  refine z_aload_n C dX8_startOn_5 0 rfl rfl ?_
  refine z_iconst C dX8_startOn_6 ki_0 ?_
  refine f_put8_1 C tw_86 ho lo dX8_startOn_7 ?_
  refine z_aload_n C dX8_startOn_10 0 rfl rfl ?_
  refine z_iconst C dX8_startOn_11 ki_0 ?_
  refine f_put8_2 C tw_88 ho lo dX8_startOn_12 ?_
  refine z_aload_n C dX8_startOn_15 0 rfl rfl ?_
  refine z_iconst C dX8_startOn_16 ki_0 ?_
  refine f_put8_3 C tw_91 ho lo dX8_startOn_17 ?_
  refine z_aload_n C dX8_startOn_20 0 rfl rfl ?_
  refine z_iconst C dX8_startOn_21 ki_0 ?_
  refine f_put8_4 C tw_93 ho lo dX8_startOn_22 ?_
  refine z_aload_n C dX8_startOn_25 0 rfl rfl ?_
  refine z_iconst C dX8_startOn_26 ki_0 ?_
  refine f_put8_5 C tw_95 ho lo dX8_startOn_27 ?_
  refine z_vret C E rfl dX8_startOn_30 rfl (Nat.le_refl _) ⟨rfl, rfl⟩
/-- a sitting ends: force, passed, bought, locked, day -/
def wClose (s : zS) (o : Nat) : zS := zu (zu (zu (zu (zu s o 2 (s o 2 ||| s o 1)) o 1 0) o 3 0) o 4 0) o 0 (s o 0 + 1)
abbrev mX8_close : zM := (yX8_close, cX8_close, 1, none, { frames := 0, cells := 0, slots := 0, locals := 0 })
set_option maxRecDepth 100000 in
set_option maxHeartbeats 4000000 in
theorem c_X8_close (l : Launch) (B : zB) (s : zS) (t : zL) (o : Nat) (ho : zk o = 8) (lo : o < 124) : zD l B mX8_close s t [.ref (B.1 + o)] none (wClose s o) t := by
  refine z_met (by decide) (Nat.le_of_ble_eq_true rfl) ?_
  intro X hl C E hnm
  show Zf X B mX8_close s t 0 [(0, .ref (B.1 + o))] []
  refine z_aload_n C dX8_close_0 0 rfl rfl ?_
  refine z_dup C dX8_close_1 rfl ?_
  refine f_get8 C 2 (v := .int (s o 2)) (by decide) tw_88 rfl ho lo rfl dX8_close_2 ?_
  refine z_aload_n C dX8_close_5 0 rfl rfl ?_
  refine f_get8 C 1 (v := .int (s o 1)) (by decide) tw_86 rfl ho lo rfl dX8_close_6 ?_
  refine z_ior C dX8_close_9 ?_
  refine f_put8_2 C tw_88 ho lo dX8_close_10 ?_
  refine z_aload_n C dX8_close_13 0 rfl rfl ?_
  refine z_iconst C dX8_close_14 ki_0 ?_
  refine f_put8_1 C tw_86 ho lo dX8_close_15 ?_
  refine z_aload_n C dX8_close_18 0 rfl rfl ?_
  refine z_iconst C dX8_close_19 ki_0 ?_
  refine f_put8_3 C tw_91 ho lo dX8_close_20 ?_
  refine z_aload_n C dX8_close_23 0 rfl rfl ?_
  refine z_iconst C dX8_close_24 ki_0 ?_
  refine f_put8_4 C tw_93 ho lo dX8_close_25 ?_
  refine z_aload_n C dX8_close_28 0 rfl rfl ?_
  refine z_dup C dX8_close_29 rfl ?_
  refine f_get8 C 0 (v := .int ((zu (zu (zu (zu s o 2 ((s o 2) ||| (s o 1))) o 1 0) o 3 0) o 4 0) o 0)) (by decide) tw_83 rfl ho lo rfl dX8_close_30 ?_
  refine z_iconst C dX8_close_33 ki_1 ?_
  refine z_iadd C dX8_close_34 ?_
  refine f_put8_0 C tw_83 ho lo dX8_close_35 ?_
  refine z_vret C E rfl dX8_close_38 rfl (Nat.le_refl _) ⟨rfl, congrArg (fun z => zg B z t) (by simp [wClose, zu])⟩
abbrev mX8_freeLaws : zM := (yX8_freeLaws, cX8_freeLaws, 1, (some .int), { frames := 0, cells := 0, slots := 0, locals := 0 })
set_option maxRecDepth 100000 in
set_option maxHeartbeats 4000000 in
theorem c_X8_freeLaws (l : Launch) (B : zB) (s : zS) (t : zL) (o : Nat) (ho : zk o = 8) (lo : o < 124) : zD l B mX8_freeLaws s t [.ref (B.1 + o)] (some (.int (255 &&& ((s o 1 ||| s o 2) ^^^ (-1))))) s t := by
  refine z_met (by decide) (Nat.le_of_ble_eq_true rfl) ?_
  intro X hl C E hnm
  show Zf X B mX8_freeLaws s t 0 [(0, .ref (B.1 + o))] []
  refine z_sipush C dX8_freeLaws_0 ks_255 ?_
  refine z_aload_n C dX8_freeLaws_3 0 rfl rfl ?_
  refine f_get8 C 1 (v := .int (s o 1)) (by decide) tw_86 rfl ho lo rfl dX8_freeLaws_4 ?_
  refine z_aload_n C dX8_freeLaws_7 0 rfl rfl ?_
  refine f_get8 C 2 (v := .int (s o 2)) (by decide) tw_88 rfl ho lo rfl dX8_freeLaws_8 ?_
  refine z_ior C dX8_freeLaws_11 ?_
  refine z_iconst C dX8_freeLaws_12 ki_m1 ?_
  refine z_ixor C dX8_freeLaws_13 ?_
  refine z_iand C dX8_freeLaws_14 ?_
  refine z_iret C E rfl dX8_freeLaws_15 rfl (Nat.le_refl _) ⟨rfl, rfl⟩
abbrev mX5_joyBy : zM := (yX5_joyBy, cX5_joyBy, 3, (some .int), { frames := 0, cells := 0, slots := 0, locals := 0 })
set_option maxRecDepth 100000 in
set_option maxHeartbeats 4000000 in
theorem c_X5_joyBy (l : Launch) (B : zB) (s : zS) (t : zL) (o ci : Nat) (a b : Int32) : zD l B mX5_joyBy s t [.ref (B.1 + o), .int a, .int b] (some (.int (2 * a - 3 * b))) s t := by
  refine z_met (by decide) (Nat.le_of_ble_eq_true rfl) ?_
  intro X hl C E hnm
  show Zf X B mX5_joyBy s t 0 [(0, .ref (B.1 + o)), (1, .int a), (2, .int b)] []
  refine z_iconst C dX5_joyBy_0 ki_2 ?_
  refine z_iload_n C dX5_joyBy_1 1 rfl rfl ?_
  refine z_imul C dX5_joyBy_2 ?_
  refine z_iconst C dX5_joyBy_3 ki_3 ?_
  refine z_iload_n C dX5_joyBy_4 2 rfl rfl ?_
  refine z_imul C dX5_joyBy_5 ?_
  refine z_isub C dX5_joyBy_6 ?_
  refine z_iret C E rfl dX5_joyBy_7 rfl (Nat.le_refl _) ⟨rfl, rfl⟩
abbrev mX5_refuses : zM := (yX5_refuses, cX5_refuses, 4, (some .boolean), { frames := 0, cells := 0, slots := 0, locals := 0 })
set_option maxRecDepth 100000 in
set_option maxHeartbeats 4000000 in
theorem c_X5_refuses (l : Launch) (B : zB) (s : zS) (t : zL) (o ci : Nat) (a b d : Int32) : zD l B mX5_refuses s t [.ref (B.1 + o), .int a, .int b, .int d] (some (.int (zi (decide (a < 0))))) s t := by
  refine z_met (by decide) (Nat.le_of_ble_eq_true rfl) ?_
  intro X hl C E hnm
  show Zf X B mX5_refuses s t 0 [(0, .ref (B.1 + o)), (1, .int a), (2, .int b), (3, .int d)] []
  refine z_iload_n C dX5_refuses_0 1 rfl rfl ?_
  refine z_if_ge C 8 dX5_refuses_1 (by decide) (fun h1 => ?_) (fun h1 => ?_)
  · refine z_iconst C dX5_refuses_8 ki_0 ?_
    refine z_zret C E rfl dX5_refuses_9 rfl rfl (Nat.le_refl _) ⟨by simp [zi, *], rfl⟩
  · refine z_iconst C dX5_refuses_4 ki_1 ?_
    refine z_goto C 9 dX5_refuses_5 (by decide) ?_
    refine z_zret C E rfl dX5_refuses_9 rfl rfl (Nat.le_refl _) ⟨by simp [zi, *], rfl⟩
abbrev mX5_costAt : zM := (yX5_costAt, cX5_costAt, 2, (some .int), { frames := 0, cells := 0, slots := 0, locals := 0 })
set_option maxRecDepth 100000 in
set_option maxHeartbeats 4000000 in
theorem c_X5_costAt (l : Launch) (B : zB) (s : zS) (t : zL) (o : Nat) (a : Int32) : zD l B mX5_costAt s t [.ref (B.1 + o), .int a] (some (.int a)) s t := by
  refine z_met (by decide) (Nat.le_of_ble_eq_true rfl) ?_
  intro X hl C E hnm
  show Zf X B mX5_costAt s t 0 [(0, .ref (B.1 + o)), (1, .int a)] []
  refine z_iload_n C dX5_costAt_0 1 rfl rfl ?_
  refine z_iret C E rfl dX5_costAt_1 rfl (Nat.le_refl _) ⟨rfl, rfl⟩
abbrev mX10_joyBy : zM := (yX10_joyBy, cX10_joyBy, 3, (some .int), { frames := 1, cells := 0, slots := 0, locals := 22 })
set_option maxRecDepth 100000 in
set_option maxHeartbeats 4000000 in
theorem c_X10_joyBy (l : Launch) (B : zB) (s : zS) (t : zL) (o : Nat) (a b : Int32) (ho : zk o = 10) (lo : o < 124) : zD l B mX10_joyBy s t [.ref (B.1 + o), .int a, .int b] (some (.int (2 * a - 3 * b + 2))) s t := by
  refine z_met (by decide) (Nat.le_of_ble_eq_true rfl) ?_
  intro X hl C E hnm
  show Zf X B mX10_joyBy s t 0 [(0, .ref (B.1 + o)), (1, .int a), (2, .int b)] []
  refine z_aload_n C dX10_joyBy_0 0 rfl rfl ?_
  refine z_iload_n C dX10_joyBy_1 1 rfl rfl ?_
  refine z_iload_n C dX10_joyBy_2 2 rfl rfl ?_
  refine f_callPr C hl (As := [.int a, .int b]) (rest := []) (c_X5_joyBy l B s t o 0 a b) lo (zg_10 ho) rfl (zCS (nA := 2) C rfl rfl tw_502 tw_2 tw_498 tw_493 tw_49 tw_491 (by decide +kernel) ⟨Nat.le_of_ble_eq_true rfl, Nat.le_of_ble_eq_true rfl⟩) rfl rfl (Nat.le_of_ble_eq_true rfl) dX10_joyBy_3 (Nat.zero_le _) ?_
  refine z_iconst C dX10_joyBy_6 ki_2 ?_
  refine z_iadd C dX10_joyBy_7 ?_
  refine z_iret C E rfl dX10_joyBy_8 rfl (Nat.le_refl _) ⟨rfl, rfl⟩
abbrev mX7_refuses : zM := (yX7_refuses, cX7_refuses, 4, (some .boolean), { frames := 1, cells := 0, slots := 0, locals := 23 })
set_option maxRecDepth 100000 in
set_option maxHeartbeats 4000000 in
theorem c_X7_refuses (l : Launch) (B : zB) (s : zS) (t : zL) (o : Nat) (a b d : Int32) (ho : zk o = 7) (lo : o < 124) : zD l B mX7_refuses s t [.ref (B.1 + o), .int a, .int b, .int d] (some (.int (zi (decide (a < 0) || decide (0 < b))))) s t := by
  refine z_met (by decide) (Nat.le_of_ble_eq_true rfl) ?_
  intro X hl C E hnm
  show Zf X B mX7_refuses s t 0 [(0, .ref (B.1 + o)), (1, .int a), (2, .int b), (3, .int d)] []
  refine z_aload_n C dX7_refuses_0 0 rfl rfl ?_
  refine z_iload_n C dX7_refuses_1 1 rfl rfl ?_
  refine z_iload_n C dX7_refuses_2 2 rfl rfl ?_
  refine z_iload_n C dX7_refuses_3 3 rfl rfl ?_
  refine f_callPr C hl (As := [.int a, .int b, .int d]) (rest := []) (c_X5_refuses l B s t o 0 a b d) lo (zg_7 ho) rfl (zCS (nA := 3) C rfl rfl tw_523 tw_2 tw_513 tw_506 tw_42 tw_504 (by decide +kernel) ⟨Nat.le_of_ble_eq_true rfl, Nat.le_of_ble_eq_true rfl⟩) rfl rfl (Nat.le_of_ble_eq_true rfl) dX7_refuses_4 (Nat.zero_le _) ?_
  refine z_ifb_ne C 14 dX7_refuses_7 (by decide) (fun h7 => ?_) (fun h7 => ?_)
  · refine z_iconst C dX7_refuses_14 ki_1 ?_
    refine z_goto C 19 dX7_refuses_15 (by decide) ?_
    refine z_zret C E rfl dX7_refuses_19 rfl rfl (Nat.le_refl _) ⟨by simp_all [zi], rfl⟩
  · refine z_iload_n C dX7_refuses_10 2 rfl rfl ?_
    refine z_if_le C 18 dX7_refuses_11 (by decide) (fun h11 => ?_) (fun h11 => ?_)
    · refine z_iconst C dX7_refuses_18 ki_0 ?_
      refine z_zret C E rfl dX7_refuses_19 rfl rfl (Nat.le_refl _) ⟨by simp_all [zi], rfl⟩
    · refine z_iconst C dX7_refuses_14 ki_1 ?_
      refine z_goto C 19 dX7_refuses_15 (by decide) ?_
      refine z_zret C E rfl dX7_refuses_19 rfl rfl (Nat.le_refl _) ⟨by simp_all [zi], rfl⟩

set_option maxRecDepth 100000 in
set_option maxHeartbeats 4000000 in
theorem c_X7_refuses2 (l : Launch) (B : zB) (s : zS) (t : zL) (o : Nat) (a b d : Int32) (ho : zk o = 2) (lo : o < 124) : zD l B mX7_refuses s t [.ref (B.1 + o), .int a, .int b, .int d] (some (.int (zi (decide (a < 0) || decide (0 < b))))) s t := by
  refine z_met (by decide) (Nat.le_of_ble_eq_true rfl) ?_
  intro X hl C E hnm
  show Zf X B mX7_refuses s t 0 [(0, .ref (B.1 + o)), (1, .int a), (2, .int b), (3, .int d)] []
  refine z_aload_n C dX7_refuses_0 0 rfl rfl ?_
  refine z_iload_n C dX7_refuses_1 1 rfl rfl ?_
  refine z_iload_n C dX7_refuses_2 2 rfl rfl ?_
  refine z_iload_n C dX7_refuses_3 3 rfl rfl ?_
  refine f_callPr C hl (As := [.int a, .int b, .int d]) (rest := []) (c_X5_refuses l B s t o 0 a b d) lo (zg_2 ho) rfl (zCS (nA := 3) C rfl rfl tw_523 tw_2 tw_513 tw_506 tw_42 tw_504 (by decide +kernel) ⟨Nat.le_of_ble_eq_true rfl, Nat.le_of_ble_eq_true rfl⟩) rfl rfl (Nat.le_of_ble_eq_true rfl) dX7_refuses_4 (Nat.zero_le _) ?_
  refine z_ifb_ne C 14 dX7_refuses_7 (by decide) (fun h7 => ?_) (fun h7 => ?_)
  · refine z_iconst C dX7_refuses_14 ki_1 ?_
    refine z_goto C 19 dX7_refuses_15 (by decide) ?_
    refine z_zret C E rfl dX7_refuses_19 rfl rfl (Nat.le_refl _) ⟨by simp_all [zi], rfl⟩
  · refine z_iload_n C dX7_refuses_10 2 rfl rfl ?_
    refine z_if_le C 18 dX7_refuses_11 (by decide) (fun h11 => ?_) (fun h11 => ?_)
    · refine z_iconst C dX7_refuses_18 ki_0 ?_
      refine z_zret C E rfl dX7_refuses_19 rfl rfl (Nat.le_refl _) ⟨by simp_all [zi], rfl⟩
    · refine z_iconst C dX7_refuses_14 ki_1 ?_
      refine z_goto C 19 dX7_refuses_15 (by decide) ?_
      refine z_zret C E rfl dX7_refuses_19 rfl rfl (Nat.le_refl _) ⟨by simp_all [zi], rfl⟩

set_option maxRecDepth 100000 in
set_option maxHeartbeats 4000000 in
theorem c_X10_joyBy3 (l : Launch) (B : zB) (s : zS) (t : zL) (o : Nat) (a b : Int32) (ho : zk o = 3) (lo : o < 124) : zD l B mX10_joyBy s t [.ref (B.1 + o), .int a, .int b] (some (.int (2 * a - 3 * b + 2))) s t := by
  refine z_met (by decide) (Nat.le_of_ble_eq_true rfl) ?_
  intro X hl C E hnm
  show Zf X B mX10_joyBy s t 0 [(0, .ref (B.1 + o)), (1, .int a), (2, .int b)] []
  refine z_aload_n C dX10_joyBy_0 0 rfl rfl ?_
  refine z_iload_n C dX10_joyBy_1 1 rfl rfl ?_
  refine z_iload_n C dX10_joyBy_2 2 rfl rfl ?_
  refine f_callPr C hl (As := [.int a, .int b]) (rest := []) (c_X5_joyBy l B s t o 0 a b) lo (zg_3 ho) rfl (zCS (nA := 2) C rfl rfl tw_502 tw_2 tw_498 tw_493 tw_49 tw_491 (by decide +kernel) ⟨Nat.le_of_ble_eq_true rfl, Nat.le_of_ble_eq_true rfl⟩) rfl rfl (Nat.le_of_ble_eq_true rfl) dX10_joyBy_3 (Nat.zero_le _) ?_
  refine z_iconst C dX10_joyBy_6 ki_2 ?_
  refine z_iadd C dX10_joyBy_7 ?_
  refine z_iret C E rfl dX10_joyBy_8 rfl (Nat.le_refl _) ⟨rfl, rfl⟩
abbrev mX2_refuses : zM := (yX2_refuses, cX2_refuses, 4, (some .boolean), { frames := 2, cells := 0, slots := 0, locals := 46 })
set_option maxRecDepth 100000 in
set_option maxHeartbeats 4000000 in
theorem c_X2_refuses (l : Launch) (B : zB) (s : zS) (t : zL) (o : Nat) (a b d : Int32) (ho : zk o = 2) (lo : o < 124) : zD l B mX2_refuses s t [.ref (B.1 + o), .int a, .int b, .int d] (some (.int (zi ((decide (a < 0) || decide (0 < b)) || decide (d - d / 5 * 5 = 0))))) s t := by
  refine z_met (by decide) (Nat.le_of_ble_eq_true rfl) ?_
  intro X hl C E hnm
  show Zf X B mX2_refuses s t 0 [(0, .ref (B.1 + o)), (1, .int a), (2, .int b), (3, .int d)] []
  refine z_aload_n C dX2_refuses_0 0 rfl rfl ?_
  refine z_iload_n C dX2_refuses_1 1 rfl rfl ?_
  refine z_iload_n C dX2_refuses_2 2 rfl rfl ?_
  refine z_iload_n C dX2_refuses_3 3 rfl rfl ?_
  refine f_callPr C hl (As := [.int a, .int b, .int d]) (rest := []) (c_X7_refuses2 l B s t o a b d ho lo) lo (zg_2 ho) rfl (zCS (nA := 3) C rfl rfl tw_512 tw_3 tw_510 tw_1108 tw_70 tw_511 (by decide +kernel) ⟨Nat.le_of_ble_eq_true rfl, Nat.le_of_ble_eq_true rfl⟩) rfl rfl (Nat.le_of_ble_eq_true rfl) dX2_refuses_4 (Nat.zero_le _) ?_
  refine z_ifb_ne C 16 dX2_refuses_7 (by decide) (fun h7 => ?_) (fun h7 => ?_)
  · refine z_iconst C dX2_refuses_16 ki_1 ?_
    refine z_goto C 21 dX2_refuses_17 (by decide) ?_
    refine z_zret C E rfl dX2_refuses_21 rfl rfl (Nat.le_refl _) ⟨by simp_all [zi], rfl⟩
  · refine z_iload_n C dX2_refuses_10 3 rfl rfl ?_
    refine z_iconst C dX2_refuses_11 ki_5 ?_
    refine z_irem C dX2_refuses_12 (by decide) ?_
    refine z_if_ne C 20 dX2_refuses_13 (by decide) (fun h13 => ?_) (fun h13 => ?_)
    · refine z_iconst C dX2_refuses_20 ki_0 ?_
      refine z_zret C E rfl dX2_refuses_21 rfl rfl (Nat.le_refl _) ⟨by simp_all [zi], rfl⟩
    · refine z_iconst C dX2_refuses_16 ki_1 ?_
      refine z_goto C 21 dX2_refuses_17 (by decide) ?_
      refine z_zret C E rfl dX2_refuses_21 rfl rfl (Nat.le_refl _) ⟨by simp_all [zi], rfl⟩
abbrev mX6_costAt : zM := (yX6_costAt, cX6_costAt, 2, (some .int), { frames := 1, cells := 0, slots := 0, locals := 21 })
set_option maxRecDepth 100000 in
set_option maxHeartbeats 4000000 in
theorem c_X6_costAt (l : Launch) (B : zB) (s : zS) (t : zL) (o : Nat) (a : Int32) (ho : zk o = 6) (lo : o < 124) : zD l B mX6_costAt s t [.ref (B.1 + o), .int a] (some (.int ((a + 1) / 2))) s t := by
  refine z_met (by decide) (Nat.le_of_ble_eq_true rfl) ?_
  intro X hl C E hnm
  show Zf X B mX6_costAt s t 0 [(0, .ref (B.1 + o)), (1, .int a)] []
  refine z_aload_n C dX6_costAt_0 0 rfl rfl ?_
  refine z_iload_n C dX6_costAt_1 1 rfl rfl ?_
  refine f_callPr C hl (As := [.int a]) (rest := []) (c_X5_costAt l B s t o a) lo (zg_6 ho) rfl (zCS (nA := 1) C rfl rfl tw_557 tw_2 tw_554 tw_543 tw_56 tw_541 (by decide +kernel) ⟨Nat.le_of_ble_eq_true rfl, Nat.le_of_ble_eq_true rfl⟩) rfl rfl (Nat.le_of_ble_eq_true rfl) dX6_costAt_2 (Nat.zero_le _) ?_
  refine z_iconst C dX6_costAt_5 ki_1 ?_
  refine z_iadd C dX6_costAt_6 ?_
  refine z_iconst C dX6_costAt_7 ki_2 ?_
  refine z_idiv C dX6_costAt_8 (by decide) ?_
  refine z_iret C E rfl dX6_costAt_9 rfl (Nat.le_refl _) ⟨rfl, rfl⟩
end
section
abbrev mJ6_bitCount_0f7a4 : zM := (yJ6_bitCount_0f7a4, cJ6_bitCount_0f7a4, 1, (some .int), { frames := 0, cells := 0, slots := 0, locals := 0 })
theorem pop_all : ∀ n, n < 256 → (fun a : Int32 => (((((((a - (((a.toUInt32 >>> ((1 : Int32).toUInt32 &&& Int32.toUInt32 31)).toInt32) &&& 1431655765)) &&& 858993459) + ((((a - (((a.toUInt32 >>> ((1 : Int32).toUInt32 &&& Int32.toUInt32 31)).toInt32) &&& 1431655765)).toUInt32 >>> ((2 : Int32).toUInt32 &&& Int32.toUInt32 31)).toInt32) &&& 858993459)) + (((((a - (((a.toUInt32 >>> ((1 : Int32).toUInt32 &&& Int32.toUInt32 31)).toInt32) &&& 1431655765)) &&& 858993459) + ((((a - (((a.toUInt32 >>> ((1 : Int32).toUInt32 &&& Int32.toUInt32 31)).toInt32) &&& 1431655765)).toUInt32 >>> ((2 : Int32).toUInt32 &&& Int32.toUInt32 31)).toInt32) &&& 858993459)).toUInt32 >>> ((4 : Int32).toUInt32 &&& Int32.toUInt32 31)).toInt32)) &&& 252645135) + (((((((a - (((a.toUInt32 >>> ((1 : Int32).toUInt32 &&& Int32.toUInt32 31)).toInt32) &&& 1431655765)) &&& 858993459) + ((((a - (((a.toUInt32 >>> ((1 : Int32).toUInt32 &&& Int32.toUInt32 31)).toInt32) &&& 1431655765)).toUInt32 >>> ((2 : Int32).toUInt32 &&& Int32.toUInt32 31)).toInt32) &&& 858993459)) + (((((a - (((a.toUInt32 >>> ((1 : Int32).toUInt32 &&& Int32.toUInt32 31)).toInt32) &&& 1431655765)) &&& 858993459) + ((((a - (((a.toUInt32 >>> ((1 : Int32).toUInt32 &&& Int32.toUInt32 31)).toInt32) &&& 1431655765)).toUInt32 >>> ((2 : Int32).toUInt32 &&& Int32.toUInt32 31)).toInt32) &&& 858993459)).toUInt32 >>> ((4 : Int32).toUInt32 &&& Int32.toUInt32 31)).toInt32)) &&& 252645135).toUInt32 >>> ((8 : Int32).toUInt32 &&& Int32.toUInt32 31)).toInt32)) + ((((((((a - (((a.toUInt32 >>> ((1 : Int32).toUInt32 &&& Int32.toUInt32 31)).toInt32) &&& 1431655765)) &&& 858993459) + ((((a - (((a.toUInt32 >>> ((1 : Int32).toUInt32 &&& Int32.toUInt32 31)).toInt32) &&& 1431655765)).toUInt32 >>> ((2 : Int32).toUInt32 &&& Int32.toUInt32 31)).toInt32) &&& 858993459)) + (((((a - (((a.toUInt32 >>> ((1 : Int32).toUInt32 &&& Int32.toUInt32 31)).toInt32) &&& 1431655765)) &&& 858993459) + ((((a - (((a.toUInt32 >>> ((1 : Int32).toUInt32 &&& Int32.toUInt32 31)).toInt32) &&& 1431655765)).toUInt32 >>> ((2 : Int32).toUInt32 &&& Int32.toUInt32 31)).toInt32) &&& 858993459)).toUInt32 >>> ((4 : Int32).toUInt32 &&& Int32.toUInt32 31)).toInt32)) &&& 252645135) + (((((((a - (((a.toUInt32 >>> ((1 : Int32).toUInt32 &&& Int32.toUInt32 31)).toInt32) &&& 1431655765)) &&& 858993459) + ((((a - (((a.toUInt32 >>> ((1 : Int32).toUInt32 &&& Int32.toUInt32 31)).toInt32) &&& 1431655765)).toUInt32 >>> ((2 : Int32).toUInt32 &&& Int32.toUInt32 31)).toInt32) &&& 858993459)) + (((((a - (((a.toUInt32 >>> ((1 : Int32).toUInt32 &&& Int32.toUInt32 31)).toInt32) &&& 1431655765)) &&& 858993459) + ((((a - (((a.toUInt32 >>> ((1 : Int32).toUInt32 &&& Int32.toUInt32 31)).toInt32) &&& 1431655765)).toUInt32 >>> ((2 : Int32).toUInt32 &&& Int32.toUInt32 31)).toInt32) &&& 858993459)).toUInt32 >>> ((4 : Int32).toUInt32 &&& Int32.toUInt32 31)).toInt32)) &&& 252645135).toUInt32 >>> ((8 : Int32).toUInt32 &&& Int32.toUInt32 31)).toInt32)).toUInt32 >>> ((16 : Int32).toUInt32 &&& Int32.toUInt32 31)).toInt32)) &&& 63) (nI n) = wPop (nI n) := by decide +kernel
theorem pop_eq (a : Int32) (h : r8 a) : (((((((a - (((a.toUInt32 >>> ((1 : Int32).toUInt32 &&& Int32.toUInt32 31)).toInt32) &&& 1431655765)) &&& 858993459) + ((((a - (((a.toUInt32 >>> ((1 : Int32).toUInt32 &&& Int32.toUInt32 31)).toInt32) &&& 1431655765)).toUInt32 >>> ((2 : Int32).toUInt32 &&& Int32.toUInt32 31)).toInt32) &&& 858993459)) + (((((a - (((a.toUInt32 >>> ((1 : Int32).toUInt32 &&& Int32.toUInt32 31)).toInt32) &&& 1431655765)) &&& 858993459) + ((((a - (((a.toUInt32 >>> ((1 : Int32).toUInt32 &&& Int32.toUInt32 31)).toInt32) &&& 1431655765)).toUInt32 >>> ((2 : Int32).toUInt32 &&& Int32.toUInt32 31)).toInt32) &&& 858993459)).toUInt32 >>> ((4 : Int32).toUInt32 &&& Int32.toUInt32 31)).toInt32)) &&& 252645135) + (((((((a - (((a.toUInt32 >>> ((1 : Int32).toUInt32 &&& Int32.toUInt32 31)).toInt32) &&& 1431655765)) &&& 858993459) + ((((a - (((a.toUInt32 >>> ((1 : Int32).toUInt32 &&& Int32.toUInt32 31)).toInt32) &&& 1431655765)).toUInt32 >>> ((2 : Int32).toUInt32 &&& Int32.toUInt32 31)).toInt32) &&& 858993459)) + (((((a - (((a.toUInt32 >>> ((1 : Int32).toUInt32 &&& Int32.toUInt32 31)).toInt32) &&& 1431655765)) &&& 858993459) + ((((a - (((a.toUInt32 >>> ((1 : Int32).toUInt32 &&& Int32.toUInt32 31)).toInt32) &&& 1431655765)).toUInt32 >>> ((2 : Int32).toUInt32 &&& Int32.toUInt32 31)).toInt32) &&& 858993459)).toUInt32 >>> ((4 : Int32).toUInt32 &&& Int32.toUInt32 31)).toInt32)) &&& 252645135).toUInt32 >>> ((8 : Int32).toUInt32 &&& Int32.toUInt32 31)).toInt32)) + ((((((((a - (((a.toUInt32 >>> ((1 : Int32).toUInt32 &&& Int32.toUInt32 31)).toInt32) &&& 1431655765)) &&& 858993459) + ((((a - (((a.toUInt32 >>> ((1 : Int32).toUInt32 &&& Int32.toUInt32 31)).toInt32) &&& 1431655765)).toUInt32 >>> ((2 : Int32).toUInt32 &&& Int32.toUInt32 31)).toInt32) &&& 858993459)) + (((((a - (((a.toUInt32 >>> ((1 : Int32).toUInt32 &&& Int32.toUInt32 31)).toInt32) &&& 1431655765)) &&& 858993459) + ((((a - (((a.toUInt32 >>> ((1 : Int32).toUInt32 &&& Int32.toUInt32 31)).toInt32) &&& 1431655765)).toUInt32 >>> ((2 : Int32).toUInt32 &&& Int32.toUInt32 31)).toInt32) &&& 858993459)).toUInt32 >>> ((4 : Int32).toUInt32 &&& Int32.toUInt32 31)).toInt32)) &&& 252645135) + (((((((a - (((a.toUInt32 >>> ((1 : Int32).toUInt32 &&& Int32.toUInt32 31)).toInt32) &&& 1431655765)) &&& 858993459) + ((((a - (((a.toUInt32 >>> ((1 : Int32).toUInt32 &&& Int32.toUInt32 31)).toInt32) &&& 1431655765)).toUInt32 >>> ((2 : Int32).toUInt32 &&& Int32.toUInt32 31)).toInt32) &&& 858993459)) + (((((a - (((a.toUInt32 >>> ((1 : Int32).toUInt32 &&& Int32.toUInt32 31)).toInt32) &&& 1431655765)) &&& 858993459) + ((((a - (((a.toUInt32 >>> ((1 : Int32).toUInt32 &&& Int32.toUInt32 31)).toInt32) &&& 1431655765)).toUInt32 >>> ((2 : Int32).toUInt32 &&& Int32.toUInt32 31)).toInt32) &&& 858993459)).toUInt32 >>> ((4 : Int32).toUInt32 &&& Int32.toUInt32 31)).toInt32)) &&& 252645135).toUInt32 >>> ((8 : Int32).toUInt32 &&& Int32.toUInt32 31)).toInt32)).toUInt32 >>> ((16 : Int32).toUInt32 &&& Int32.toUInt32 31)).toInt32)) &&& 63 = wPop a := by
  obtain ⟨n, hn, rfl⟩ := r8_ex h
  exact pop_all n hn
set_option maxRecDepth 100000 in
set_option maxHeartbeats 4000000 in
theorem c_J6_bitCount_0f7a4 (l : Launch) (B : zB) (s : zS) (t : zL) (a : Int32) (h : r8 a) : zD l B mJ6_bitCount_0f7a4 s t [.int a] (some (.int (wPop a))) s t := by
  refine z_met (by decide) (Nat.le_of_ble_eq_true rfl) ?_
  intro X hl C E hnm
  show Zf X B mJ6_bitCount_0f7a4 s t 0 [(0, .int a)] []
  refine z_iload_n C dJ6_bitCount_0f7a4_0 0 rfl rfl ?_
  refine z_iload_n C dJ6_bitCount_0f7a4_1 0 rfl rfl ?_
  refine z_iconst C dJ6_bitCount_0f7a4_2 ki_1 ?_
  refine z_iushr C dJ6_bitCount_0f7a4_3 rfl ?_
  refine z_ldcw C dJ6_bitCount_0f7a4_4 tw_487 ?_
  refine z_iand C dJ6_bitCount_0f7a4_7 ?_
  refine z_isub C dJ6_bitCount_0f7a4_8 ?_
  refine z_istore_n C [(0, .int (a - (((a.toUInt32 >>> ((1 : Int32).toUInt32 &&& Int32.toUInt32 31)).toInt32) &&& 1431655765)))] dJ6_bitCount_0f7a4_9 rfl (by decide) rfl ?_
  refine z_iload_n C dJ6_bitCount_0f7a4_10 0 rfl rfl ?_
  refine z_ldcw C dJ6_bitCount_0f7a4_11 tw_488 ?_
  refine z_iand C dJ6_bitCount_0f7a4_14 ?_
  refine z_iload_n C dJ6_bitCount_0f7a4_15 0 rfl rfl ?_
  refine z_iconst C dJ6_bitCount_0f7a4_16 ki_2 ?_
  refine z_iushr C dJ6_bitCount_0f7a4_17 rfl ?_
  refine z_ldcw C dJ6_bitCount_0f7a4_18 tw_488 ?_
  refine z_iand C dJ6_bitCount_0f7a4_21 ?_
  refine z_iadd C dJ6_bitCount_0f7a4_22 ?_
  refine z_istore_n C [(0, .int (((a - (((a.toUInt32 >>> ((1 : Int32).toUInt32 &&& Int32.toUInt32 31)).toInt32) &&& 1431655765)) &&& 858993459) + ((((a - (((a.toUInt32 >>> ((1 : Int32).toUInt32 &&& Int32.toUInt32 31)).toInt32) &&& 1431655765)).toUInt32 >>> ((2 : Int32).toUInt32 &&& Int32.toUInt32 31)).toInt32) &&& 858993459)))] dJ6_bitCount_0f7a4_23 rfl (by decide) rfl ?_
  refine z_iload_n C dJ6_bitCount_0f7a4_24 0 rfl rfl ?_
  refine z_iload_n C dJ6_bitCount_0f7a4_25 0 rfl rfl ?_
  refine z_iconst C dJ6_bitCount_0f7a4_26 ki_4 ?_
  refine z_iushr C dJ6_bitCount_0f7a4_27 rfl ?_
  refine z_iadd C dJ6_bitCount_0f7a4_28 ?_
  refine z_ldcw C dJ6_bitCount_0f7a4_29 tw_489 ?_
  refine z_iand C dJ6_bitCount_0f7a4_32 ?_
  refine z_istore_n C [(0, .int (((((a - (((a.toUInt32 >>> ((1 : Int32).toUInt32 &&& Int32.toUInt32 31)).toInt32) &&& 1431655765)) &&& 858993459) + ((((a - (((a.toUInt32 >>> ((1 : Int32).toUInt32 &&& Int32.toUInt32 31)).toInt32) &&& 1431655765)).toUInt32 >>> ((2 : Int32).toUInt32 &&& Int32.toUInt32 31)).toInt32) &&& 858993459)) + (((((a - (((a.toUInt32 >>> ((1 : Int32).toUInt32 &&& Int32.toUInt32 31)).toInt32) &&& 1431655765)) &&& 858993459) + ((((a - (((a.toUInt32 >>> ((1 : Int32).toUInt32 &&& Int32.toUInt32 31)).toInt32) &&& 1431655765)).toUInt32 >>> ((2 : Int32).toUInt32 &&& Int32.toUInt32 31)).toInt32) &&& 858993459)).toUInt32 >>> ((4 : Int32).toUInt32 &&& Int32.toUInt32 31)).toInt32)) &&& 252645135))] dJ6_bitCount_0f7a4_33 rfl (by decide) rfl ?_
  refine z_iload_n C dJ6_bitCount_0f7a4_34 0 rfl rfl ?_
  refine z_iload_n C dJ6_bitCount_0f7a4_35 0 rfl rfl ?_
  refine z_bipush C dJ6_bitCount_0f7a4_36 kb_8 ?_
  refine z_iushr C dJ6_bitCount_0f7a4_38 rfl ?_
  refine z_iadd C dJ6_bitCount_0f7a4_39 ?_
  refine z_istore_n C [(0, .int ((((((a - (((a.toUInt32 >>> ((1 : Int32).toUInt32 &&& Int32.toUInt32 31)).toInt32) &&& 1431655765)) &&& 858993459) + ((((a - (((a.toUInt32 >>> ((1 : Int32).toUInt32 &&& Int32.toUInt32 31)).toInt32) &&& 1431655765)).toUInt32 >>> ((2 : Int32).toUInt32 &&& Int32.toUInt32 31)).toInt32) &&& 858993459)) + (((((a - (((a.toUInt32 >>> ((1 : Int32).toUInt32 &&& Int32.toUInt32 31)).toInt32) &&& 1431655765)) &&& 858993459) + ((((a - (((a.toUInt32 >>> ((1 : Int32).toUInt32 &&& Int32.toUInt32 31)).toInt32) &&& 1431655765)).toUInt32 >>> ((2 : Int32).toUInt32 &&& Int32.toUInt32 31)).toInt32) &&& 858993459)).toUInt32 >>> ((4 : Int32).toUInt32 &&& Int32.toUInt32 31)).toInt32)) &&& 252645135) + (((((((a - (((a.toUInt32 >>> ((1 : Int32).toUInt32 &&& Int32.toUInt32 31)).toInt32) &&& 1431655765)) &&& 858993459) + ((((a - (((a.toUInt32 >>> ((1 : Int32).toUInt32 &&& Int32.toUInt32 31)).toInt32) &&& 1431655765)).toUInt32 >>> ((2 : Int32).toUInt32 &&& Int32.toUInt32 31)).toInt32) &&& 858993459)) + (((((a - (((a.toUInt32 >>> ((1 : Int32).toUInt32 &&& Int32.toUInt32 31)).toInt32) &&& 1431655765)) &&& 858993459) + ((((a - (((a.toUInt32 >>> ((1 : Int32).toUInt32 &&& Int32.toUInt32 31)).toInt32) &&& 1431655765)).toUInt32 >>> ((2 : Int32).toUInt32 &&& Int32.toUInt32 31)).toInt32) &&& 858993459)).toUInt32 >>> ((4 : Int32).toUInt32 &&& Int32.toUInt32 31)).toInt32)) &&& 252645135).toUInt32 >>> ((8 : Int32).toUInt32 &&& Int32.toUInt32 31)).toInt32)))] dJ6_bitCount_0f7a4_40 rfl (by decide) rfl ?_
  refine z_iload_n C dJ6_bitCount_0f7a4_41 0 rfl rfl ?_
  refine z_iload_n C dJ6_bitCount_0f7a4_42 0 rfl rfl ?_
  refine z_bipush C dJ6_bitCount_0f7a4_43 kb_16 ?_
  refine z_iushr C dJ6_bitCount_0f7a4_45 rfl ?_
  refine z_iadd C dJ6_bitCount_0f7a4_46 ?_
  refine z_istore_n C [(0, .int (((((((a - (((a.toUInt32 >>> ((1 : Int32).toUInt32 &&& Int32.toUInt32 31)).toInt32) &&& 1431655765)) &&& 858993459) + ((((a - (((a.toUInt32 >>> ((1 : Int32).toUInt32 &&& Int32.toUInt32 31)).toInt32) &&& 1431655765)).toUInt32 >>> ((2 : Int32).toUInt32 &&& Int32.toUInt32 31)).toInt32) &&& 858993459)) + (((((a - (((a.toUInt32 >>> ((1 : Int32).toUInt32 &&& Int32.toUInt32 31)).toInt32) &&& 1431655765)) &&& 858993459) + ((((a - (((a.toUInt32 >>> ((1 : Int32).toUInt32 &&& Int32.toUInt32 31)).toInt32) &&& 1431655765)).toUInt32 >>> ((2 : Int32).toUInt32 &&& Int32.toUInt32 31)).toInt32) &&& 858993459)).toUInt32 >>> ((4 : Int32).toUInt32 &&& Int32.toUInt32 31)).toInt32)) &&& 252645135) + (((((((a - (((a.toUInt32 >>> ((1 : Int32).toUInt32 &&& Int32.toUInt32 31)).toInt32) &&& 1431655765)) &&& 858993459) + ((((a - (((a.toUInt32 >>> ((1 : Int32).toUInt32 &&& Int32.toUInt32 31)).toInt32) &&& 1431655765)).toUInt32 >>> ((2 : Int32).toUInt32 &&& Int32.toUInt32 31)).toInt32) &&& 858993459)) + (((((a - (((a.toUInt32 >>> ((1 : Int32).toUInt32 &&& Int32.toUInt32 31)).toInt32) &&& 1431655765)) &&& 858993459) + ((((a - (((a.toUInt32 >>> ((1 : Int32).toUInt32 &&& Int32.toUInt32 31)).toInt32) &&& 1431655765)).toUInt32 >>> ((2 : Int32).toUInt32 &&& Int32.toUInt32 31)).toInt32) &&& 858993459)).toUInt32 >>> ((4 : Int32).toUInt32 &&& Int32.toUInt32 31)).toInt32)) &&& 252645135).toUInt32 >>> ((8 : Int32).toUInt32 &&& Int32.toUInt32 31)).toInt32)) + ((((((((a - (((a.toUInt32 >>> ((1 : Int32).toUInt32 &&& Int32.toUInt32 31)).toInt32) &&& 1431655765)) &&& 858993459) + ((((a - (((a.toUInt32 >>> ((1 : Int32).toUInt32 &&& Int32.toUInt32 31)).toInt32) &&& 1431655765)).toUInt32 >>> ((2 : Int32).toUInt32 &&& Int32.toUInt32 31)).toInt32) &&& 858993459)) + (((((a - (((a.toUInt32 >>> ((1 : Int32).toUInt32 &&& Int32.toUInt32 31)).toInt32) &&& 1431655765)) &&& 858993459) + ((((a - (((a.toUInt32 >>> ((1 : Int32).toUInt32 &&& Int32.toUInt32 31)).toInt32) &&& 1431655765)).toUInt32 >>> ((2 : Int32).toUInt32 &&& Int32.toUInt32 31)).toInt32) &&& 858993459)).toUInt32 >>> ((4 : Int32).toUInt32 &&& Int32.toUInt32 31)).toInt32)) &&& 252645135) + (((((((a - (((a.toUInt32 >>> ((1 : Int32).toUInt32 &&& Int32.toUInt32 31)).toInt32) &&& 1431655765)) &&& 858993459) + ((((a - (((a.toUInt32 >>> ((1 : Int32).toUInt32 &&& Int32.toUInt32 31)).toInt32) &&& 1431655765)).toUInt32 >>> ((2 : Int32).toUInt32 &&& Int32.toUInt32 31)).toInt32) &&& 858993459)) + (((((a - (((a.toUInt32 >>> ((1 : Int32).toUInt32 &&& Int32.toUInt32 31)).toInt32) &&& 1431655765)) &&& 858993459) + ((((a - (((a.toUInt32 >>> ((1 : Int32).toUInt32 &&& Int32.toUInt32 31)).toInt32) &&& 1431655765)).toUInt32 >>> ((2 : Int32).toUInt32 &&& Int32.toUInt32 31)).toInt32) &&& 858993459)).toUInt32 >>> ((4 : Int32).toUInt32 &&& Int32.toUInt32 31)).toInt32)) &&& 252645135).toUInt32 >>> ((8 : Int32).toUInt32 &&& Int32.toUInt32 31)).toInt32)).toUInt32 >>> ((16 : Int32).toUInt32 &&& Int32.toUInt32 31)).toInt32)))] dJ6_bitCount_0f7a4_47 rfl (by decide) rfl ?_
  refine z_iload_n C dJ6_bitCount_0f7a4_48 0 rfl rfl ?_
  refine z_bipush C dJ6_bitCount_0f7a4_49 kb_63 ?_
  refine z_iand C dJ6_bitCount_0f7a4_51 ?_
  refine z_iret C E rfl dJ6_bitCount_0f7a4_52 rfl (Nat.le_refl _) ⟨congrArg (fun z => some (Value.int z)) (pop_eq a h), rfl⟩
abbrev mX3_refuses : zM := (yX3_refuses, cX3_refuses, 4, (some .boolean), { frames := 1, cells := 0, slots := 0, locals := 23 })
set_option maxRecDepth 100000 in
set_option maxHeartbeats 4000000 in
theorem c_X3_refuses (l : Launch) (B : zB) (s : zS) (t : zL) (o : Nat) (a b d : Int32) (ho : zk o = 3) (lo : o < 124) : zD l B mX3_refuses s t [.ref (B.1 + o), .int a, .int b, .int d] (some (.int (zi (decide (d - d / 2 * 2 = 0) && decide (a < 0))))) s t := by
  refine z_met (by decide) (Nat.le_of_ble_eq_true rfl) ?_
  intro X hl C E hnm
  show Zf X B mX3_refuses s t 0 [(0, .ref (B.1 + o)), (1, .int a), (2, .int b), (3, .int d)] []
  refine z_iload_n C dX3_refuses_0 3 rfl rfl ?_
  refine z_iconst C dX3_refuses_1 ki_2 ?_
  refine z_irem C dX3_refuses_2 (by decide) ?_
  refine z_if_ne C 20 dX3_refuses_3 (by decide) (fun h3 => ?_) (fun h3 => ?_)
  · refine z_iconst C dX3_refuses_20 ki_0 ?_
    refine z_zret C E rfl dX3_refuses_21 rfl rfl (Nat.le_refl _) ⟨by simp_all [zi], rfl⟩
  · refine z_aload_n C dX3_refuses_6 0 rfl rfl ?_
    refine z_iload_n C dX3_refuses_7 1 rfl rfl ?_
    refine z_iload_n C dX3_refuses_8 2 rfl rfl ?_
    refine z_iload_n C dX3_refuses_9 3 rfl rfl ?_
    refine f_callQr C hl 3 (As := [.int a, .int b, .int d]) (rest := []) (c_X5_refuses l B s t o 0 a b d) lo (zg_3 ho) rfl rfl rfl tw_523 tw_2 tw_517 tw_518 rfl tw_63 tw_49 tw_504 (by decide +kernel) ⟨Nat.le_of_ble_eq_true rfl, Nat.le_of_ble_eq_true rfl⟩ rfl rfl (Nat.le_of_ble_eq_true rfl) dX3_refuses_10 (Nat.zero_le _) ?_
    refine z_ifb_eq C 20 dX3_refuses_13 (by decide) (fun h13 => ?_) (fun h13 => ?_)
    · refine z_iconst C dX3_refuses_20 ki_0 ?_
      refine z_zret C E rfl dX3_refuses_21 rfl rfl (Nat.le_refl _) ⟨by simp_all [zi], rfl⟩
    · refine z_iconst C dX3_refuses_16 ki_1 ?_
      refine z_goto C 21 dX3_refuses_17 (by decide) ?_
      refine z_zret C E rfl dX3_refuses_21 rfl rfl (Nat.le_refl _) ⟨by simp_all [zi], rfl⟩
abbrev mX2_costAt : zM := (yX2_costAt, cX2_costAt, 2, (some .int), { frames := 1, cells := 0, slots := 0, locals := 21 })
set_option maxRecDepth 100000 in
set_option maxHeartbeats 4000000 in
theorem c_X2_costAt (l : Launch) (B : zB) (s : zS) (t : zL) (o : Nat) (a : Int32) (ho : zk o = 2) (lo : o < 124) : zD l B mX2_costAt s t [.ref (B.1 + o), .int a] (some (.int (2 * a))) s t := by
  refine z_met (by decide) (Nat.le_of_ble_eq_true rfl) ?_
  intro X hl C E hnm
  show Zf X B mX2_costAt s t 0 [(0, .ref (B.1 + o)), (1, .int a)] []
  refine z_iconst C dX2_costAt_0 ki_2 ?_
  refine z_aload_n C dX2_costAt_1 0 rfl rfl ?_
  refine z_iload_n C dX2_costAt_2 1 rfl rfl ?_
  refine f_callQr C hl 1 (As := [.int a]) (rest := [.int 2]) (c_X5_costAt l B s t o a) lo (zg_2 ho) rfl rfl rfl tw_557 tw_2 tw_547 tw_548 rfl tw_70 tw_42 tw_541 (by decide +kernel) ⟨Nat.le_of_ble_eq_true rfl, Nat.le_of_ble_eq_true rfl⟩ rfl rfl (Nat.le_of_ble_eq_true rfl) dX2_costAt_3 (Nat.zero_le _) ?_
  refine z_imul C dX2_costAt_6 ?_
  refine z_iret C E rfl dX2_costAt_7 rfl (Nat.le_refl _) ⟨rfl, rfl⟩
end
section
theorem dX11_init_0 : decode cX11_init 0 = .ok (.aload_n 0, 1) := by decide +kernel
theorem dX11_init_1 : decode cX11_init 1 = .ok (.invokespecial 1, 3) := by decide +kernel
theorem dX11_init_4 : decode cX11_init 4 = .ok (.aload_n 0, 1) := by decide +kernel
theorem dX11_init_5 : decode cX11_init 5 = .ok (.bipush 6, 2) := by decide +kernel
theorem dX11_init_7 : decode cX11_init 7 = .ok (.anewarray 7, 3) := by decide +kernel
theorem dX11_init_10 : decode cX11_init 10 = .ok (.dup, 1) := by decide +kernel
theorem dX11_init_11 : decode cX11_init 11 = .ok (.iconst 0, 1) := by decide +kernel
theorem dX11_init_12 : decode cX11_init 12 = .ok (.new 7, 3) := by decide +kernel
theorem dX11_init_15 : decode cX11_init 15 = .ok (.dup, 1) := by decide +kernel
theorem dX11_init_16 : decode cX11_init 16 = .ok (.invokespecial 9, 3) := by decide +kernel
theorem dX11_init_19 : decode cX11_init 19 = .ok (.aastore, 1) := by decide +kernel
theorem dX11_init_20 : decode cX11_init 20 = .ok (.dup, 1) := by decide +kernel
theorem dX11_init_21 : decode cX11_init 21 = .ok (.iconst 1, 1) := by decide +kernel
theorem dX11_init_22 : decode cX11_init 22 = .ok (.new 10, 3) := by decide +kernel
theorem dX11_init_25 : decode cX11_init 25 = .ok (.dup, 1) := by decide +kernel
theorem dX11_init_26 : decode cX11_init 26 = .ok (.invokespecial 12, 3) := by decide +kernel
theorem dX11_init_29 : decode cX11_init 29 = .ok (.aastore, 1) := by decide +kernel
theorem dX11_init_30 : decode cX11_init 30 = .ok (.dup, 1) := by decide +kernel
theorem dX11_init_31 : decode cX11_init 31 = .ok (.iconst 2, 1) := by decide +kernel
theorem dX11_init_32 : decode cX11_init 32 = .ok (.new 13, 3) := by decide +kernel
theorem dX11_init_35 : decode cX11_init 35 = .ok (.dup, 1) := by decide +kernel
theorem dX11_init_36 : decode cX11_init 36 = .ok (.invokespecial 15, 3) := by decide +kernel
theorem dX11_init_39 : decode cX11_init 39 = .ok (.aastore, 1) := by decide +kernel
theorem dX11_init_40 : decode cX11_init 40 = .ok (.dup, 1) := by decide +kernel
theorem dX11_init_41 : decode cX11_init 41 = .ok (.iconst 3, 1) := by decide +kernel
theorem dX11_init_42 : decode cX11_init 42 = .ok (.new 16, 3) := by decide +kernel
theorem dX11_init_45 : decode cX11_init 45 = .ok (.dup, 1) := by decide +kernel
theorem dX11_init_46 : decode cX11_init 46 = .ok (.invokespecial 18, 3) := by decide +kernel
theorem dX11_init_49 : decode cX11_init 49 = .ok (.aastore, 1) := by decide +kernel
theorem dX11_init_50 : decode cX11_init 50 = .ok (.dup, 1) := by decide +kernel
theorem dX11_init_51 : decode cX11_init 51 = .ok (.iconst 4, 1) := by decide +kernel
theorem dX11_init_52 : decode cX11_init 52 = .ok (.new 19, 3) := by decide +kernel
theorem dX11_init_55 : decode cX11_init 55 = .ok (.dup, 1) := by decide +kernel
theorem dX11_init_56 : decode cX11_init 56 = .ok (.invokespecial 21, 3) := by decide +kernel
theorem dX11_init_59 : decode cX11_init 59 = .ok (.aastore, 1) := by decide +kernel
theorem dX11_init_60 : decode cX11_init 60 = .ok (.dup, 1) := by decide +kernel
theorem dX11_init_61 : decode cX11_init 61 = .ok (.iconst 5, 1) := by decide +kernel
theorem dX11_init_62 : decode cX11_init 62 = .ok (.new 22, 3) := by decide +kernel
theorem dX11_init_65 : decode cX11_init 65 = .ok (.dup, 1) := by decide +kernel
theorem dX11_init_66 : decode cX11_init 66 = .ok (.invokespecial 24, 3) := by decide +kernel
theorem dX11_init_69 : decode cX11_init 69 = .ok (.aastore, 1) := by decide +kernel
theorem dX11_init_70 : decode cX11_init 70 = .ok (.putfield 25, 3) := by decide +kernel
theorem dX11_init_73 : decode cX11_init 73 = .ok (.aload_n 0, 1) := by decide +kernel
theorem dX11_init_74 : decode cX11_init 74 = .ok (.new 31, 3) := by decide +kernel
theorem dX11_init_77 : decode cX11_init 77 = .ok (.dup, 1) := by decide +kernel
theorem dX11_init_78 : decode cX11_init 78 = .ok (.invokespecial 33, 3) := by decide +kernel
theorem dX11_init_81 : decode cX11_init 81 = .ok (.putfield 34, 3) := by decide +kernel
theorem dX11_init_84 : decode cX11_init 84 = .ok (.aload_n 0, 1) := by decide +kernel
theorem dX11_init_85 : decode cX11_init 85 = .ok (.new 31, 3) := by decide +kernel
theorem dX11_init_88 : decode cX11_init 88 = .ok (.dup, 1) := by decide +kernel
theorem dX11_init_89 : decode cX11_init 89 = .ok (.invokespecial 33, 3) := by decide +kernel
theorem dX11_init_92 : decode cX11_init 92 = .ok (.putfield 38, 3) := by decide +kernel
theorem dX11_init_95 : decode cX11_init 95 = .ok (.aload_n 0, 1) := by decide +kernel
theorem dX11_init_96 : decode cX11_init 96 = .ok (.iconst 2, 1) := by decide +kernel
theorem dX11_init_97 : decode cX11_init 97 = .ok (.anewarray 31, 3) := by decide +kernel
theorem dX11_init_100 : decode cX11_init 100 = .ok (.dup, 1) := by decide +kernel
theorem dX11_init_101 : decode cX11_init 101 = .ok (.iconst 0, 1) := by decide +kernel
theorem dX11_init_102 : decode cX11_init 102 = .ok (.new 31, 3) := by decide +kernel
theorem dX11_init_105 : decode cX11_init 105 = .ok (.dup, 1) := by decide +kernel
theorem dX11_init_106 : decode cX11_init 106 = .ok (.invokespecial 33, 3) := by decide +kernel
theorem dX11_init_109 : decode cX11_init 109 = .ok (.aastore, 1) := by decide +kernel
theorem dX11_init_110 : decode cX11_init 110 = .ok (.dup, 1) := by decide +kernel
theorem dX11_init_111 : decode cX11_init 111 = .ok (.iconst 1, 1) := by decide +kernel
theorem dX11_init_112 : decode cX11_init 112 = .ok (.new 31, 3) := by decide +kernel
theorem dX11_init_115 : decode cX11_init 115 = .ok (.dup, 1) := by decide +kernel
theorem dX11_init_116 : decode cX11_init 116 = .ok (.invokespecial 33, 3) := by decide +kernel
theorem dX11_init_119 : decode cX11_init 119 = .ok (.aastore, 1) := by decide +kernel
theorem dX11_init_120 : decode cX11_init 120 = .ok (.putfield 41, 3) := by decide +kernel
theorem dX11_init_123 : decode cX11_init 123 = .ok (.aload_n 0, 1) := by decide +kernel
theorem dX11_init_124 : decode cX11_init 124 = .ok (.aload_n 0, 1) := by decide +kernel
theorem dX11_init_125 : decode cX11_init 125 = .ok (.getfield 41, 3) := by decide +kernel
theorem dX11_init_128 : decode cX11_init 128 = .ok (.arraylength, 1) := by decide +kernel
theorem dX11_init_129 : decode cX11_init 129 = .ok (.newarray .boolean, 2) := by decide +kernel
theorem dX11_init_131 : decode cX11_init 131 = .ok (.putfield 45, 3) := by decide +kernel
theorem dX11_init_134 : decode cX11_init 134 = .ok (.aload_n 0, 1) := by decide +kernel
theorem dX11_init_135 : decode cX11_init 135 = .ok (.new 49, 3) := by decide +kernel
theorem dX11_init_138 : decode cX11_init 138 = .ok (.dup, 1) := by decide +kernel
theorem dX11_init_139 : decode cX11_init 139 = .ok (.invokespecial 51, 3) := by decide +kernel
theorem dX11_init_142 : decode cX11_init 142 = .ok (.putfield 52, 3) := by decide +kernel
theorem dX11_init_145 : decode cX11_init 145 = .ok (.aload_n 0, 1) := by decide +kernel
theorem dX11_init_146 : decode cX11_init 146 = .ok (.new 56, 3) := by decide +kernel
theorem dX11_init_149 : decode cX11_init 149 = .ok (.dup, 1) := by decide +kernel
theorem dX11_init_150 : decode cX11_init 150 = .ok (.invokespecial 58, 3) := by decide +kernel
theorem dX11_init_153 : decode cX11_init 153 = .ok (.putfield 59, 3) := by decide +kernel
theorem dX11_init_156 : decode cX11_init 156 = .ok (.aload_n 0, 1) := by decide +kernel
theorem dX11_init_157 : decode cX11_init 157 = .ok (.lconst 0, 1) := by decide +kernel
theorem dX11_init_158 : decode cX11_init 158 = .ok (.putfield 63, 3) := by decide +kernel
theorem dX11_init_161 : decode cX11_init 161 = .ok (.aload_n 0, 1) := by decide +kernel
theorem dX11_init_162 : decode cX11_init 162 = .ok (.lconst 1, 1) := by decide +kernel
theorem dX11_init_163 : decode cX11_init 163 = .ok (.putfield 67, 3) := by decide +kernel
theorem dX11_init_166 : decode cX11_init 166 = .ok (.return_, 1) := by decide +kernel
theorem dX11_house_0 : decode cX11_house 0 = .ok (.iload_n 1, 1) := by decide +kernel
theorem dX11_house_1 : decode cX11_house 1 = .ok (.bipush 99, 2) := by decide +kernel
theorem dX11_house_3 : decode cX11_house 3 = .ok (.invokestatic 70, 3) := by decide +kernel
theorem dX11_house_6 : decode cX11_house 6 = .ok (.ifCond .ne 10, 3) := by decide +kernel
theorem dX11_house_9 : decode cX11_house 9 = .ok (.aload_n 0, 1) := by decide +kernel
theorem dX11_house_10 : decode cX11_house 10 = .ok (.bipush (-2), 2) := by decide +kernel
theorem dX11_house_12 : decode cX11_house 12 = .ok (.invokevirtual 74, 3) := by decide +kernel
theorem dX11_house_15 : decode cX11_house 15 = .ok (.ireturn, 1) := by decide +kernel
theorem dX11_house_16 : decode cX11_house 16 = .ok (.aload_n 0, 1) := by decide +kernel
theorem dX11_house_17 : decode cX11_house 17 = .ok (.getfield 34, 3) := by decide +kernel
theorem dX11_house_20 : decode cX11_house 20 = .ok (.getfield 78, 3) := by decide +kernel
theorem dX11_house_23 : decode cX11_house 23 = .ok (.istore_n 2, 1) := by decide +kernel
theorem dX11_house_24 : decode cX11_house 24 = .ok (.aload_n 0, 1) := by decide +kernel
theorem dX11_house_25 : decode cX11_house 25 = .ok (.getfield 34, 3) := by decide +kernel
theorem dX11_house_28 : decode cX11_house 28 = .ok (.iload_n 1, 1) := by decide +kernel
theorem dX11_house_29 : decode cX11_house 29 = .ok (.invokevirtual 82, 3) := by decide +kernel
theorem dX11_house_32 : decode cX11_house 32 = .ok (.iload_n 2, 1) := by decide +kernel
theorem dX11_house_33 : decode cX11_house 33 = .ok (.ireturn, 1) := by decide +kernel
theorem dX11_deputy_0 : decode cX11_deputy 0 = .ok (.iload_n 1, 1) := by decide +kernel
theorem dX11_deputy_1 : decode cX11_deputy 1 = .ok (.iconst 5, 1) := by decide +kernel
theorem dX11_deputy_2 : decode cX11_deputy 2 = .ok (.invokestatic 70, 3) := by decide +kernel
theorem dX11_deputy_5 : decode cX11_deputy 5 = .ok (.ifCond .eq 27, 3) := by decide +kernel
theorem dX11_deputy_8 : decode cX11_deputy 8 = .ok (.iload_n 2, 1) := by decide +kernel
theorem dX11_deputy_9 : decode cX11_deputy 9 = .ok (.invokestatic 86, 3) := by decide +kernel
theorem dX11_deputy_12 : decode cX11_deputy 12 = .ok (.ifCond .eq 20, 3) := by decide +kernel
theorem dX11_deputy_15 : decode cX11_deputy 15 = .ok (.iload_n 3, 1) := by decide +kernel
theorem dX11_deputy_16 : decode cX11_deputy 16 = .ok (.invokestatic 86, 3) := by decide +kernel
theorem dX11_deputy_19 : decode cX11_deputy 19 = .ok (.ifCond .eq 13, 3) := by decide +kernel
theorem dX11_deputy_22 : decode cX11_deputy 22 = .ok (.iload 4, 2) := by decide +kernel
theorem dX11_deputy_24 : decode cX11_deputy 24 = .ok (.bipush 40, 2) := by decide +kernel
theorem dX11_deputy_26 : decode cX11_deputy 26 = .ok (.invokestatic 70, 3) := by decide +kernel
theorem dX11_deputy_29 : decode cX11_deputy 29 = .ok (.ifCond .ne 10, 3) := by decide +kernel
theorem dX11_deputy_32 : decode cX11_deputy 32 = .ok (.aload_n 0, 1) := by decide +kernel
theorem dX11_deputy_33 : decode cX11_deputy 33 = .ok (.bipush (-2), 2) := by decide +kernel
theorem dX11_deputy_35 : decode cX11_deputy 35 = .ok (.invokevirtual 74, 3) := by decide +kernel
theorem dX11_deputy_38 : decode cX11_deputy 38 = .ok (.ireturn, 1) := by decide +kernel
theorem dX11_deputy_39 : decode cX11_deputy 39 = .ok (.aload_n 0, 1) := by decide +kernel
theorem dX11_deputy_40 : decode cX11_deputy 40 = .ok (.getfield 34, 3) := by decide +kernel
theorem dX11_deputy_43 : decode cX11_deputy 43 = .ok (.getfield 78, 3) := by decide +kernel
theorem dX11_deputy_46 : decode cX11_deputy 46 = .ok (.bipush 6, 2) := by decide +kernel
theorem dX11_deputy_48 : decode cX11_deputy 48 = .ok (.if_icmp .lt 10, 3) := by decide +kernel
theorem dX11_deputy_51 : decode cX11_deputy 51 = .ok (.aload_n 0, 1) := by decide +kernel
theorem dX11_deputy_52 : decode cX11_deputy 52 = .ok (.bipush (-4), 2) := by decide +kernel
theorem dX11_deputy_54 : decode cX11_deputy 54 = .ok (.invokevirtual 74, 3) := by decide +kernel
theorem dX11_deputy_57 : decode cX11_deputy 57 = .ok (.ireturn, 1) := by decide +kernel
theorem dX11_deputy_58 : decode cX11_deputy 58 = .ok (.aload_n 0, 1) := by decide +kernel
theorem dX11_deputy_59 : decode cX11_deputy 59 = .ok (.getfield 34, 3) := by decide +kernel
theorem dX11_deputy_62 : decode cX11_deputy 62 = .ok (.iload_n 1, 1) := by decide +kernel
theorem dX11_deputy_63 : decode cX11_deputy 63 = .ok (.iload_n 2, 1) := by decide +kernel
theorem dX11_deputy_64 : decode cX11_deputy 64 = .ok (.iload_n 3, 1) := by decide +kernel
theorem dX11_deputy_65 : decode cX11_deputy 65 = .ok (.iload 4, 2) := by decide +kernel
theorem dX11_deputy_67 : decode cX11_deputy 67 = .ok (.invokevirtual 90, 3) := by decide +kernel
theorem dX11_deputy_70 : decode cX11_deputy 70 = .ok (.aload_n 0, 1) := by decide +kernel
theorem dX11_deputy_71 : decode cX11_deputy 71 = .ok (.getfield 34, 3) := by decide +kernel
theorem dX11_deputy_74 : decode cX11_deputy 74 = .ok (.getfield 78, 3) := by decide +kernel
theorem dX11_deputy_77 : decode cX11_deputy 77 = .ok (.iconst 1, 1) := by decide +kernel
theorem dX11_deputy_78 : decode cX11_deputy 78 = .ok (.isub, 1) := by decide +kernel
theorem dX11_deputy_79 : decode cX11_deputy 79 = .ok (.ireturn, 1) := by decide +kernel
theorem dX11_type_0 : decode cX11_type 0 = .ok (.iload_n 1, 1) := by decide +kernel
theorem dX11_type_1 : decode cX11_type 1 = .ok (.bipush 127, 2) := by decide +kernel
theorem dX11_type_3 : decode cX11_type 3 = .ok (.invokestatic 70, 3) := by decide +kernel
theorem dX11_type_6 : decode cX11_type 6 = .ok (.ifCond .ne 10, 3) := by decide +kernel
theorem dX11_type_9 : decode cX11_type 9 = .ok (.aload_n 0, 1) := by decide +kernel
theorem dX11_type_10 : decode cX11_type 10 = .ok (.bipush (-2), 2) := by decide +kernel
theorem dX11_type_12 : decode cX11_type 12 = .ok (.invokevirtual 74, 3) := by decide +kernel
theorem dX11_type_15 : decode cX11_type 15 = .ok (.ireturn, 1) := by decide +kernel
theorem dX11_type_16 : decode cX11_type 16 = .ok (.aload_n 0, 1) := by decide +kernel
theorem dX11_type_17 : decode cX11_type 17 = .ok (.getfield 59, 3) := by decide +kernel
theorem dX11_type_20 : decode cX11_type 20 = .ok (.getfield 94, 3) := by decide +kernel
theorem dX11_type_23 : decode cX11_type 23 = .ok (.sipush 150, 3) := by decide +kernel
theorem dX11_type_26 : decode cX11_type 26 = .ok (.if_icmp .lt 10, 3) := by decide +kernel
theorem dX11_type_29 : decode cX11_type 29 = .ok (.aload_n 0, 1) := by decide +kernel
theorem dX11_type_30 : decode cX11_type 30 = .ok (.bipush (-4), 2) := by decide +kernel
theorem dX11_type_32 : decode cX11_type 32 = .ok (.invokevirtual 74, 3) := by decide +kernel
theorem dX11_type_35 : decode cX11_type 35 = .ok (.ireturn, 1) := by decide +kernel
theorem dX11_type_36 : decode cX11_type 36 = .ok (.aload_n 0, 1) := by decide +kernel
theorem dX11_type_37 : decode cX11_type 37 = .ok (.getfield 59, 3) := by decide +kernel
theorem dX11_type_40 : decode cX11_type 40 = .ok (.iload_n 1, 1) := by decide +kernel
theorem dX11_type_41 : decode cX11_type 41 = .ok (.invokevirtual 97, 3) := by decide +kernel
theorem dX11_type_44 : decode cX11_type 44 = .ok (.aload_n 0, 1) := by decide +kernel
theorem dX11_type_45 : decode cX11_type 45 = .ok (.getfield 59, 3) := by decide +kernel
theorem dX11_type_48 : decode cX11_type 48 = .ok (.getfield 94, 3) := by decide +kernel
theorem dX11_type_51 : decode cX11_type 51 = .ok (.ireturn, 1) := by decide +kernel
theorem dX11_clear_0 : decode cX11_clear 0 = .ok (.aload_n 0, 1) := by decide +kernel
theorem dX11_clear_1 : decode cX11_clear 1 = .ok (.getfield 59, 3) := by decide +kernel
theorem dX11_clear_4 : decode cX11_clear 4 = .ok (.getfield 94, 3) := by decide +kernel
theorem dX11_clear_7 : decode cX11_clear 7 = .ok (.istore_n 1, 1) := by decide +kernel
theorem dX11_clear_8 : decode cX11_clear 8 = .ok (.aload_n 0, 1) := by decide +kernel
theorem dX11_clear_9 : decode cX11_clear 9 = .ok (.getfield 59, 3) := by decide +kernel
theorem dX11_clear_12 : decode cX11_clear 12 = .ok (.iconst 0, 1) := by decide +kernel
theorem dX11_clear_13 : decode cX11_clear 13 = .ok (.putfield 94, 3) := by decide +kernel
theorem dX11_clear_16 : decode cX11_clear 16 = .ok (.iload_n 1, 1) := by decide +kernel
theorem dX11_clear_17 : decode cX11_clear 17 = .ok (.ireturn, 1) := by decide +kernel
theorem dX11_read_0 : decode cX11_read 0 = .ok (.aload_n 0, 1) := by decide +kernel
theorem dX11_read_1 : decode cX11_read 1 = .ok (.getfield 38, 3) := by decide +kernel
theorem dX11_read_4 : decode cX11_read 4 = .ok (.aload_n 0, 1) := by decide +kernel
theorem dX11_read_5 : decode cX11_read 5 = .ok (.getfield 59, 3) := by decide +kernel
theorem dX11_read_8 : decode cX11_read 8 = .ok (.invokevirtual 100, 3) := by decide +kernel
theorem dX11_read_11 : decode cX11_read 11 = .ok (.istore_n 1, 1) := by decide +kernel
theorem dX11_read_12 : decode cX11_read 12 = .ok (.iload_n 1, 1) := by decide +kernel
theorem dX11_read_13 : decode cX11_read 13 = .ok (.ifCond .le 14, 3) := by decide +kernel
theorem dX11_read_16 : decode cX11_read 16 = .ok (.aload_n 0, 1) := by decide +kernel
theorem dX11_read_17 : decode cX11_read 17 = .ok (.getfield 34, 3) := by decide +kernel
theorem dX11_read_20 : decode cX11_read 20 = .ok (.aload_n 0, 1) := by decide +kernel
theorem dX11_read_21 : decode cX11_read 21 = .ok (.getfield 38, 3) := by decide +kernel
theorem dX11_read_24 : decode cX11_read 24 = .ok (.invokevirtual 104, 3) := by decide +kernel
theorem dX11_read_27 : decode cX11_read 27 = .ok (.iload_n 1, 1) := by decide +kernel
theorem dX11_read_28 : decode cX11_read 28 = .ok (.ireturn, 1) := by decide +kernel
theorem dX11_moves_0 : decode cX11_moves 0 = .ok (.iload_n 1, 1) := by decide +kernel
theorem dX11_moves_1 : decode cX11_moves 1 = .ok (.invokestatic 86, 3) := by decide +kernel
theorem dX11_moves_4 : decode cX11_moves 4 = .ok (.ifCond .eq 7, 3) := by decide +kernel
theorem dX11_moves_7 : decode cX11_moves 7 = .ok (.iload_n 1, 1) := by decide +kernel
theorem dX11_moves_8 : decode cX11_moves 8 = .ok (.ifCond .ne 10, 3) := by decide +kernel
theorem dX11_moves_11 : decode cX11_moves 11 = .ok (.aload_n 0, 1) := by decide +kernel
theorem dX11_moves_12 : decode cX11_moves 12 = .ok (.bipush (-2), 2) := by decide +kernel
theorem dX11_moves_14 : decode cX11_moves 14 = .ok (.invokevirtual 74, 3) := by decide +kernel
theorem dX11_moves_17 : decode cX11_moves 17 = .ok (.ireturn, 1) := by decide +kernel
theorem dX11_moves_18 : decode cX11_moves 18 = .ok (.iload_n 1, 1) := by decide +kernel
theorem dX11_moves_19 : decode cX11_moves 19 = .ok (.aload_n 0, 1) := by decide +kernel
theorem dX11_moves_20 : decode cX11_moves 20 = .ok (.getfield 34, 3) := by decide +kernel
theorem dX11_moves_23 : decode cX11_moves 23 = .ok (.getfield 108, 3) := by decide +kernel
theorem dX11_moves_26 : decode cX11_moves 26 = .ok (.invokevirtual 111, 3) := by decide +kernel
theorem dX11_moves_29 : decode cX11_moves 29 = .ok (.iconst (-1), 1) := by decide +kernel
theorem dX11_moves_30 : decode cX11_moves 30 = .ok (.ixor, 1) := by decide +kernel
theorem dX11_moves_31 : decode cX11_moves 31 = .ok (.iand, 1) := by decide +kernel
theorem dX11_moves_32 : decode cX11_moves 32 = .ok (.ifCond .eq 10, 3) := by decide +kernel
theorem dX11_moves_35 : decode cX11_moves 35 = .ok (.aload_n 0, 1) := by decide +kernel
theorem dX11_moves_36 : decode cX11_moves 36 = .ok (.bipush (-3), 2) := by decide +kernel
theorem dX11_moves_38 : decode cX11_moves 38 = .ok (.invokevirtual 74, 3) := by decide +kernel
theorem dX11_moves_41 : decode cX11_moves 41 = .ok (.ireturn, 1) := by decide +kernel
theorem dX11_moves_42 : decode cX11_moves 42 = .ok (.aload_n 0, 1) := by decide +kernel
theorem dX11_moves_43 : decode cX11_moves 43 = .ok (.getfield 34, 3) := by decide +kernel
theorem dX11_moves_46 : decode cX11_moves 46 = .ok (.invokevirtual 115, 3) := by decide +kernel
theorem dX11_moves_49 : decode cX11_moves 49 = .ok (.aload_n 0, 1) := by decide +kernel
theorem dX11_moves_50 : decode cX11_moves 50 = .ok (.aload_n 0, 1) := by decide +kernel
theorem dX11_moves_51 : decode cX11_moves 51 = .ok (.getfield 34, 3) := by decide +kernel
theorem dX11_moves_54 : decode cX11_moves 54 = .ok (.getfield 108, 3) := by decide +kernel
theorem dX11_moves_57 : decode cX11_moves 57 = .ok (.iload_n 1, 1) := by decide +kernel
theorem dX11_moves_58 : decode cX11_moves 58 = .ok (.invokevirtual 118, 3) := by decide +kernel
theorem dX11_moves_61 : decode cX11_moves 61 = .ok (.ireturn, 1) := by decide +kernel
theorem dX11_end_0 : decode cX11_end 0 = .ok (.aload_n 0, 1) := by decide +kernel
theorem dX11_end_1 : decode cX11_end 1 = .ok (.getfield 34, 3) := by decide +kernel
theorem dX11_end_4 : decode cX11_end 4 = .ok (.invokevirtual 115, 3) := by decide +kernel
theorem dX11_end_7 : decode cX11_end 7 = .ok (.aload_n 0, 1) := by decide +kernel
theorem dX11_end_8 : decode cX11_end 8 = .ok (.getfield 34, 3) := by decide +kernel
theorem dX11_end_11 : decode cX11_end 11 = .ok (.getfield 108, 3) := by decide +kernel
theorem dX11_end_14 : decode cX11_end 14 = .ok (.invokevirtual 122, 3) := by decide +kernel
theorem dX11_end_17 : decode cX11_end 17 = .ok (.aload_n 0, 1) := by decide +kernel
theorem dX11_end_18 : decode cX11_end 18 = .ok (.getfield 34, 3) := by decide +kernel
theorem dX11_end_21 : decode cX11_end 21 = .ok (.getfield 108, 3) := by decide +kernel
theorem dX11_end_24 : decode cX11_end 24 = .ok (.getfield 125, 3) := by decide +kernel
theorem dX11_end_27 : decode cX11_end 27 = .ok (.ireturn, 1) := by decide +kernel
theorem dX11_buy_0 : decode cX11_buy 0 = .ok (.aload_n 0, 1) := by decide +kernel
theorem dX11_buy_1 : decode cX11_buy 1 = .ok (.getfield 34, 3) := by decide +kernel
theorem dX11_buy_4 : decode cX11_buy 4 = .ok (.iload_n 1, 1) := by decide +kernel
theorem dX11_buy_5 : decode cX11_buy 5 = .ok (.invokevirtual 128, 3) := by decide +kernel
theorem dX11_buy_8 : decode cX11_buy 8 = .ok (.astore_n 2, 1) := by decide +kernel
theorem dX11_buy_9 : decode cX11_buy 9 = .ok (.aload_n 2, 1) := by decide +kernel
theorem dX11_buy_10 : decode cX11_buy 10 = .ok (.ifnonnull 10, 3) := by decide +kernel
theorem dX11_buy_13 : decode cX11_buy 13 = .ok (.aload_n 0, 1) := by decide +kernel
theorem dX11_buy_14 : decode cX11_buy 14 = .ok (.bipush (-2), 2) := by decide +kernel
theorem dX11_buy_16 : decode cX11_buy 16 = .ok (.invokevirtual 74, 3) := by decide +kernel
theorem dX11_buy_19 : decode cX11_buy 19 = .ok (.ireturn, 1) := by decide +kernel
theorem dX11_buy_20 : decode cX11_buy 20 = .ok (.aload_n 0, 1) := by decide +kernel
theorem dX11_buy_21 : decode cX11_buy 21 = .ok (.getfield 34, 3) := by decide +kernel
theorem dX11_buy_24 : decode cX11_buy 24 = .ok (.getfield 108, 3) := by decide +kernel
theorem dX11_buy_27 : decode cX11_buy 27 = .ok (.getfield 132, 3) := by decide +kernel
theorem dX11_buy_30 : decode cX11_buy 30 = .ok (.iload_n 1, 1) := by decide +kernel
theorem dX11_buy_31 : decode cX11_buy 31 = .ok (.invokestatic 135, 3) := by decide +kernel
theorem dX11_buy_34 : decode cX11_buy 34 = .ok (.iand, 1) := by decide +kernel
theorem dX11_buy_35 : decode cX11_buy 35 = .ok (.ifCond .eq 10, 3) := by decide +kernel
theorem dX11_buy_38 : decode cX11_buy 38 = .ok (.aload_n 0, 1) := by decide +kernel
theorem dX11_buy_39 : decode cX11_buy 39 = .ok (.bipush (-3), 2) := by decide +kernel
theorem dX11_buy_41 : decode cX11_buy 41 = .ok (.invokevirtual 74, 3) := by decide +kernel
theorem dX11_buy_44 : decode cX11_buy 44 = .ok (.ireturn, 1) := by decide +kernel
theorem dX11_buy_45 : decode cX11_buy 45 = .ok (.aload_n 0, 1) := by decide +kernel
theorem dX11_buy_46 : decode cX11_buy 46 = .ok (.getfield 34, 3) := by decide +kernel
theorem dX11_buy_49 : decode cX11_buy 49 = .ok (.invokevirtual 115, 3) := by decide +kernel
theorem dX11_buy_52 : decode cX11_buy 52 = .ok (.aload_n 0, 1) := by decide +kernel
theorem dX11_buy_53 : decode cX11_buy 53 = .ok (.aload_n 2, 1) := by decide +kernel
theorem dX11_buy_54 : decode cX11_buy 54 = .ok (.invokevirtual 138, 3) := by decide +kernel
theorem dX11_buy_57 : decode cX11_buy 57 = .ok (.istore_n 3, 1) := by decide +kernel
theorem dX11_buy_58 : decode cX11_buy 58 = .ok (.aload_n 0, 1) := by decide +kernel
theorem dX11_buy_59 : decode cX11_buy 59 = .ok (.getfield 34, 3) := by decide +kernel
theorem dX11_buy_62 : decode cX11_buy 62 = .ok (.getfield 108, 3) := by decide +kernel
theorem dX11_buy_65 : decode cX11_buy 65 = .ok (.dup, 1) := by decide +kernel
theorem dX11_buy_66 : decode cX11_buy 66 = .ok (.getfield 132, 3) := by decide +kernel
theorem dX11_buy_69 : decode cX11_buy 69 = .ok (.iload_n 1, 1) := by decide +kernel
theorem dX11_buy_70 : decode cX11_buy 70 = .ok (.invokestatic 135, 3) := by decide +kernel
theorem dX11_buy_73 : decode cX11_buy 73 = .ok (.ior, 1) := by decide +kernel
theorem dX11_buy_74 : decode cX11_buy 74 = .ok (.putfield 132, 3) := by decide +kernel
theorem dX11_buy_77 : decode cX11_buy 77 = .ok (.aload_n 0, 1) := by decide +kernel
theorem dX11_buy_78 : decode cX11_buy 78 = .ok (.getfield 34, 3) := by decide +kernel
theorem dX11_buy_81 : decode cX11_buy 81 = .ok (.getfield 108, 3) := by decide +kernel
theorem dX11_buy_84 : decode cX11_buy 84 = .ok (.dup, 1) := by decide +kernel
theorem dX11_buy_85 : decode cX11_buy 85 = .ok (.getfield 142, 3) := by decide +kernel
theorem dX11_buy_88 : decode cX11_buy 88 = .ok (.iload_n 3, 1) := by decide +kernel
theorem dX11_buy_89 : decode cX11_buy 89 = .ok (.iadd, 1) := by decide +kernel
theorem dX11_buy_90 : decode cX11_buy 90 = .ok (.putfield 142, 3) := by decide +kernel
theorem dX11_buy_93 : decode cX11_buy 93 = .ok (.iload_n 3, 1) := by decide +kernel
theorem dX11_buy_94 : decode cX11_buy 94 = .ok (.ireturn, 1) := by decide +kernel
theorem dX11_lock_0 : decode cX11_lock 0 = .ok (.aload_n 0, 1) := by decide +kernel
theorem dX11_lock_1 : decode cX11_lock 1 = .ok (.getfield 34, 3) := by decide +kernel
theorem dX11_lock_4 : decode cX11_lock 4 = .ok (.iload_n 1, 1) := by decide +kernel
theorem dX11_lock_5 : decode cX11_lock 5 = .ok (.invokevirtual 128, 3) := by decide +kernel
theorem dX11_lock_8 : decode cX11_lock 8 = .ok (.ifnonnull 10, 3) := by decide +kernel
theorem dX11_lock_11 : decode cX11_lock 11 = .ok (.aload_n 0, 1) := by decide +kernel
theorem dX11_lock_12 : decode cX11_lock 12 = .ok (.bipush (-2), 2) := by decide +kernel
theorem dX11_lock_14 : decode cX11_lock 14 = .ok (.invokevirtual 74, 3) := by decide +kernel
theorem dX11_lock_17 : decode cX11_lock 17 = .ok (.ireturn, 1) := by decide +kernel
theorem dX11_lock_18 : decode cX11_lock 18 = .ok (.aload_n 0, 1) := by decide +kernel
theorem dX11_lock_19 : decode cX11_lock 19 = .ok (.getfield 34, 3) := by decide +kernel
theorem dX11_lock_22 : decode cX11_lock 22 = .ok (.getfield 108, 3) := by decide +kernel
theorem dX11_lock_25 : decode cX11_lock 25 = .ok (.getfield 145, 3) := by decide +kernel
theorem dX11_lock_28 : decode cX11_lock 28 = .ok (.ifCond .eq 10, 3) := by decide +kernel
theorem dX11_lock_31 : decode cX11_lock 31 = .ok (.aload_n 0, 1) := by decide +kernel
theorem dX11_lock_32 : decode cX11_lock 32 = .ok (.bipush (-3), 2) := by decide +kernel
theorem dX11_lock_34 : decode cX11_lock 34 = .ok (.invokevirtual 74, 3) := by decide +kernel
theorem dX11_lock_37 : decode cX11_lock 37 = .ok (.ireturn, 1) := by decide +kernel
theorem dX11_lock_38 : decode cX11_lock 38 = .ok (.aload_n 0, 1) := by decide +kernel
theorem dX11_lock_39 : decode cX11_lock 39 = .ok (.getfield 34, 3) := by decide +kernel
theorem dX11_lock_42 : decode cX11_lock 42 = .ok (.invokevirtual 115, 3) := by decide +kernel
theorem dX11_lock_45 : decode cX11_lock 45 = .ok (.aload_n 0, 1) := by decide +kernel
theorem dX11_lock_46 : decode cX11_lock 46 = .ok (.getfield 34, 3) := by decide +kernel
theorem dX11_lock_49 : decode cX11_lock 49 = .ok (.getfield 108, 3) := by decide +kernel
theorem dX11_lock_52 : decode cX11_lock 52 = .ok (.iload_n 1, 1) := by decide +kernel
theorem dX11_lock_53 : decode cX11_lock 53 = .ok (.invokestatic 135, 3) := by decide +kernel
theorem dX11_lock_56 : decode cX11_lock 56 = .ok (.putfield 145, 3) := by decide +kernel
theorem dX11_lock_59 : decode cX11_lock 59 = .ok (.iconst 1, 1) := by decide +kernel
theorem dX11_lock_60 : decode cX11_lock 60 = .ok (.ireturn, 1) := by decide +kernel
theorem dX11_undo_0 : decode cX11_undo 0 = .ok (.aload_n 0, 1) := by decide +kernel
theorem dX11_undo_1 : decode cX11_undo 1 = .ok (.getfield 34, 3) := by decide +kernel
theorem dX11_undo_4 : decode cX11_undo 4 = .ok (.getfield 148, 3) := by decide +kernel
theorem dX11_undo_7 : decode cX11_undo 7 = .ok (.ifCond .ne 10, 3) := by decide +kernel
theorem dX11_undo_10 : decode cX11_undo 10 = .ok (.aload_n 0, 1) := by decide +kernel
theorem dX11_undo_11 : decode cX11_undo 11 = .ok (.bipush (-3), 2) := by decide +kernel
theorem dX11_undo_13 : decode cX11_undo 13 = .ok (.invokevirtual 74, 3) := by decide +kernel
theorem dX11_undo_16 : decode cX11_undo 16 = .ok (.ireturn, 1) := by decide +kernel
theorem dX11_undo_17 : decode cX11_undo 17 = .ok (.aload_n 0, 1) := by decide +kernel
theorem dX11_undo_18 : decode cX11_undo 18 = .ok (.getfield 34, 3) := by decide +kernel
theorem dX11_undo_21 : decode cX11_undo 21 = .ok (.invokevirtual 151, 3) := by decide +kernel
theorem dX11_undo_24 : decode cX11_undo 24 = .ok (.aload_n 0, 1) := by decide +kernel
theorem dX11_undo_25 : decode cX11_undo 25 = .ok (.getfield 34, 3) := by decide +kernel
theorem dX11_undo_28 : decode cX11_undo 28 = .ok (.getfield 108, 3) := by decide +kernel
theorem dX11_undo_31 : decode cX11_undo 31 = .ok (.getfield 154, 3) := by decide +kernel
theorem dX11_undo_34 : decode cX11_undo 34 = .ok (.ireturn, 1) := by decide +kernel
theorem dX11_of_0 : decode cX11_of 0 = .ok (.aload_n 0, 1) := by decide +kernel
theorem dX11_of_1 : decode cX11_of 1 = .ok (.getfield 34, 3) := by decide +kernel
theorem dX11_of_4 : decode cX11_of 4 = .ok (.iload_n 1, 1) := by decide +kernel
theorem dX11_of_5 : decode cX11_of 5 = .ok (.invokevirtual 128, 3) := by decide +kernel
theorem dX11_of_8 : decode cX11_of 8 = .ok (.astore_n 3, 1) := by decide +kernel
theorem dX11_of_9 : decode cX11_of 9 = .ok (.aload_n 3, 1) := by decide +kernel
theorem dX11_of_10 : decode cX11_of 10 = .ok (.ifnonnull 10, 3) := by decide +kernel
theorem dX11_of_13 : decode cX11_of 13 = .ok (.aload_n 0, 1) := by decide +kernel
theorem dX11_of_14 : decode cX11_of 14 = .ok (.bipush (-2), 2) := by decide +kernel
theorem dX11_of_16 : decode cX11_of 16 = .ok (.invokevirtual 74, 3) := by decide +kernel
theorem dX11_of_19 : decode cX11_of 19 = .ok (.ireturn, 1) := by decide +kernel
theorem dX11_of_20 : decode cX11_of 20 = .ok (.iload_n 2, 1) := by decide +kernel
theorem dX11_of_21 : decode cX11_of 21 = .ok (.tableswitch 123 0 6 #[43, 48, 53, 58, 63, 69, 96], 43) := by decide +kernel
theorem dX11_of_64 : decode cX11_of 64 = .ok (.aload_n 3, 1) := by decide +kernel
theorem dX11_of_65 : decode cX11_of 65 = .ok (.getfield 157, 3) := by decide +kernel
theorem dX11_of_68 : decode cX11_of 68 = .ok (.ireturn, 1) := by decide +kernel
theorem dX11_of_69 : decode cX11_of 69 = .ok (.aload_n 3, 1) := by decide +kernel
theorem dX11_of_70 : decode cX11_of 70 = .ok (.getfield 162, 3) := by decide +kernel
theorem dX11_of_73 : decode cX11_of 73 = .ok (.ireturn, 1) := by decide +kernel
theorem dX11_of_74 : decode cX11_of 74 = .ok (.aload_n 3, 1) := by decide +kernel
theorem dX11_of_75 : decode cX11_of 75 = .ok (.getfield 165, 3) := by decide +kernel
theorem dX11_of_78 : decode cX11_of 78 = .ok (.ireturn, 1) := by decide +kernel
theorem dX11_of_79 : decode cX11_of 79 = .ok (.aload_n 3, 1) := by decide +kernel
theorem dX11_of_80 : decode cX11_of 80 = .ok (.getfield 168, 3) := by decide +kernel
theorem dX11_of_83 : decode cX11_of 83 = .ok (.ireturn, 1) := by decide +kernel
theorem dX11_of_84 : decode cX11_of 84 = .ok (.aload_n 0, 1) := by decide +kernel
theorem dX11_of_85 : decode cX11_of 85 = .ok (.aload_n 3, 1) := by decide +kernel
theorem dX11_of_86 : decode cX11_of 86 = .ok (.invokevirtual 138, 3) := by decide +kernel
theorem dX11_of_89 : decode cX11_of 89 = .ok (.ireturn, 1) := by decide +kernel
theorem dX11_of_90 : decode cX11_of 90 = .ok (.aload_n 0, 1) := by decide +kernel
theorem dX11_of_91 : decode cX11_of 91 = .ok (.getfield 34, 3) := by decide +kernel
theorem dX11_of_94 : decode cX11_of 94 = .ok (.getfield 108, 3) := by decide +kernel
theorem dX11_of_97 : decode cX11_of 97 = .ok (.getfield 132, 3) := by decide +kernel
theorem dX11_of_100 : decode cX11_of 100 = .ok (.iload_n 1, 1) := by decide +kernel
theorem dX11_of_101 : decode cX11_of 101 = .ok (.invokestatic 135, 3) := by decide +kernel
theorem dX11_of_104 : decode cX11_of 104 = .ok (.iand, 1) := by decide +kernel
theorem dX11_of_105 : decode cX11_of 105 = .ok (.ifCond .eq 7, 3) := by decide +kernel
theorem dX11_of_108 : decode cX11_of 108 = .ok (.iconst 1, 1) := by decide +kernel
theorem dX11_of_109 : decode cX11_of 109 = .ok (.goto 4, 3) := by decide +kernel
theorem dX11_of_112 : decode cX11_of 112 = .ok (.iconst 0, 1) := by decide +kernel
theorem dX11_of_113 : decode cX11_of 113 = .ok (.invokestatic 171, 3) := by decide +kernel
theorem dX11_of_116 : decode cX11_of 116 = .ok (.ireturn, 1) := by decide +kernel
theorem dX11_of_117 : decode cX11_of 117 = .ok (.aload_n 0, 1) := by decide +kernel
theorem dX11_of_118 : decode cX11_of 118 = .ok (.getfield 34, 3) := by decide +kernel
theorem dX11_of_121 : decode cX11_of 121 = .ok (.getfield 108, 3) := by decide +kernel
theorem dX11_of_124 : decode cX11_of 124 = .ok (.getfield 145, 3) := by decide +kernel
theorem dX11_of_127 : decode cX11_of 127 = .ok (.iload_n 1, 1) := by decide +kernel
theorem dX11_of_128 : decode cX11_of 128 = .ok (.invokestatic 135, 3) := by decide +kernel
theorem dX11_of_131 : decode cX11_of 131 = .ok (.iand, 1) := by decide +kernel
theorem dX11_of_132 : decode cX11_of 132 = .ok (.ifCond .eq 7, 3) := by decide +kernel
theorem dX11_of_135 : decode cX11_of 135 = .ok (.iconst 1, 1) := by decide +kernel
theorem dX11_of_136 : decode cX11_of 136 = .ok (.goto 4, 3) := by decide +kernel
theorem dX11_of_139 : decode cX11_of 139 = .ok (.iconst 0, 1) := by decide +kernel
theorem dX11_of_140 : decode cX11_of 140 = .ok (.invokestatic 171, 3) := by decide +kernel
theorem dX11_of_143 : decode cX11_of 143 = .ok (.ireturn, 1) := by decide +kernel
theorem dX11_of_144 : decode cX11_of 144 = .ok (.aload_n 0, 1) := by decide +kernel
theorem dX11_of_145 : decode cX11_of 145 = .ok (.bipush (-2), 2) := by decide +kernel
theorem dX11_of_147 : decode cX11_of 147 = .ok (.invokevirtual 74, 3) := by decide +kernel
theorem dX11_of_150 : decode cX11_of 150 = .ok (.ireturn, 1) := by decide +kernel
theorem dX11_joy_0 : decode cX11_joy 0 = .ok (.aload_n 0, 1) := by decide +kernel
theorem dX11_joy_1 : decode cX11_joy 1 = .ok (.getfield 34, 3) := by decide +kernel
theorem dX11_joy_4 : decode cX11_joy 4 = .ok (.iload_n 1, 1) := by decide +kernel
theorem dX11_joy_5 : decode cX11_joy 5 = .ok (.invokevirtual 128, 3) := by decide +kernel
theorem dX11_joy_8 : decode cX11_joy 8 = .ok (.astore_n 3, 1) := by decide +kernel
theorem dX11_joy_9 : decode cX11_joy 9 = .ok (.aload_n 3, 1) := by decide +kernel
theorem dX11_joy_10 : decode cX11_joy 10 = .ok (.ifnull 10, 3) := by decide +kernel
theorem dX11_joy_13 : decode cX11_joy 13 = .ok (.iload_n 2, 1) := by decide +kernel
theorem dX11_joy_14 : decode cX11_joy 14 = .ok (.invokestatic 86, 3) := by decide +kernel
theorem dX11_joy_17 : decode cX11_joy 17 = .ok (.ifCond .ne 14, 3) := by decide +kernel
theorem dX11_joy_20 : decode cX11_joy 20 = .ok (.aload_n 0, 1) := by decide +kernel
theorem dX11_joy_21 : decode cX11_joy 21 = .ok (.bipush (-2), 2) := by decide +kernel
theorem dX11_joy_23 : decode cX11_joy 23 = .ok (.invokevirtual 74, 3) := by decide +kernel
theorem dX11_joy_26 : decode cX11_joy 26 = .ok (.pop, 1) := by decide +kernel
theorem dX11_joy_27 : decode cX11_joy 27 = .ok (.sipush (-1000), 3) := by decide +kernel
theorem dX11_joy_30 : decode cX11_joy 30 = .ok (.ireturn, 1) := by decide +kernel
theorem dX11_joy_31 : decode cX11_joy 31 = .ok (.aload_n 0, 1) := by decide +kernel
theorem dX11_joy_32 : decode cX11_joy 32 = .ok (.aload_n 3, 1) := by decide +kernel
theorem dX11_joy_33 : decode cX11_joy 33 = .ok (.iload_n 2, 1) := by decide +kernel
theorem dX11_joy_34 : decode cX11_joy 34 = .ok (.invokevirtual 175, 3) := by decide +kernel
theorem dX11_joy_37 : decode cX11_joy 37 = .ok (.ireturn, 1) := by decide +kernel
theorem dX11_acts_0 : decode cX11_acts 0 = .ok (.iload_n 1, 1) := by decide +kernel
theorem dX11_acts_1 : decode cX11_acts 1 = .ok (.lookupswitch 49 #[(0, 27), (1, 38)], 27) := by decide +kernel
theorem dX11_acts_28 : decode cX11_acts 28 = .ok (.aload_n 0, 1) := by decide +kernel
theorem dX11_acts_29 : decode cX11_acts 29 = .ok (.getfield 34, 3) := by decide +kernel
theorem dX11_acts_32 : decode cX11_acts 32 = .ok (.getfield 108, 3) := by decide +kernel
theorem dX11_acts_35 : decode cX11_acts 35 = .ok (.getfield 179, 3) := by decide +kernel
theorem dX11_acts_38 : decode cX11_acts 38 = .ok (.ireturn, 1) := by decide +kernel
theorem dX11_acts_39 : decode cX11_acts 39 = .ok (.aload_n 0, 1) := by decide +kernel
theorem dX11_acts_40 : decode cX11_acts 40 = .ok (.getfield 34, 3) := by decide +kernel
theorem dX11_acts_43 : decode cX11_acts 43 = .ok (.getfield 108, 3) := by decide +kernel
theorem dX11_acts_46 : decode cX11_acts 46 = .ok (.getfield 125, 3) := by decide +kernel
theorem dX11_acts_49 : decode cX11_acts 49 = .ok (.ireturn, 1) := by decide +kernel
theorem dX11_acts_50 : decode cX11_acts 50 = .ok (.aload_n 0, 1) := by decide +kernel
theorem dX11_acts_51 : decode cX11_acts 51 = .ok (.bipush (-2), 2) := by decide +kernel
theorem dX11_acts_53 : decode cX11_acts 53 = .ok (.invokevirtual 74, 3) := by decide +kernel
theorem dX11_acts_56 : decode cX11_acts 56 = .ok (.ireturn, 1) := by decide +kernel
theorem dX11_stops_0 : decode cX11_stops 0 = .ok (.iload_n 1, 1) := by decide +kernel
theorem dX11_stops_1 : decode cX11_stops 1 = .ok (.invokestatic 86, 3) := by decide +kernel
theorem dX11_stops_4 : decode cX11_stops 4 = .ok (.ifCond .eq 18, 3) := by decide +kernel
theorem dX11_stops_7 : decode cX11_stops 7 = .ok (.aload_n 0, 1) := by decide +kernel
theorem dX11_stops_8 : decode cX11_stops 8 = .ok (.aload_n 0, 1) := by decide +kernel
theorem dX11_stops_9 : decode cX11_stops 9 = .ok (.getfield 34, 3) := by decide +kernel
theorem dX11_stops_12 : decode cX11_stops 12 = .ok (.getfield 108, 3) := by decide +kernel
theorem dX11_stops_15 : decode cX11_stops 15 = .ok (.iload_n 1, 1) := by decide +kernel
theorem dX11_stops_16 : decode cX11_stops 16 = .ok (.invokevirtual 182, 3) := by decide +kernel
theorem dX11_stops_19 : decode cX11_stops 19 = .ok (.goto 9, 3) := by decide +kernel
theorem dX11_stops_22 : decode cX11_stops 22 = .ok (.aload_n 0, 1) := by decide +kernel
theorem dX11_stops_23 : decode cX11_stops 23 = .ok (.bipush (-2), 2) := by decide +kernel
theorem dX11_stops_25 : decode cX11_stops 25 = .ok (.invokevirtual 74, 3) := by decide +kernel
theorem dX11_stops_28 : decode cX11_stops 28 = .ok (.ireturn, 1) := by decide +kernel
theorem dX11_most_0 : decode cX11_most 0 = .ok (.aload_n 0, 1) := by decide +kernel
theorem dX11_most_1 : decode cX11_most 1 = .ok (.iconst (-1), 1) := by decide +kernel
theorem dX11_most_2 : decode cX11_most 2 = .ok (.iconst 0, 1) := by decide +kernel
theorem dX11_most_3 : decode cX11_most 3 = .ok (.invokevirtual 185, 3) := by decide +kernel
theorem dX11_most_6 : decode cX11_most 6 = .ok (.ireturn, 1) := by decide +kernel
theorem dX11_money_0 : decode cX11_money 0 = .ok (.iload_n 1, 1) := by decide +kernel
theorem dX11_money_1 : decode cX11_money 1 = .ok (.sipush 200, 3) := by decide +kernel
theorem dX11_money_4 : decode cX11_money 4 = .ok (.invokestatic 70, 3) := by decide +kernel
theorem dX11_money_7 : decode cX11_money 7 = .ok (.ifCond .eq 11, 3) := by decide +kernel
theorem dX11_money_10 : decode cX11_money 10 = .ok (.iload_n 2, 1) := by decide +kernel
theorem dX11_money_11 : decode cX11_money 11 = .ok (.iconst 2, 1) := by decide +kernel
theorem dX11_money_12 : decode cX11_money 12 = .ok (.invokestatic 70, 3) := by decide +kernel
theorem dX11_money_15 : decode cX11_money 15 = .ok (.ifCond .ne 10, 3) := by decide +kernel
theorem dX11_money_18 : decode cX11_money 18 = .ok (.aload_n 0, 1) := by decide +kernel
theorem dX11_money_19 : decode cX11_money 19 = .ok (.bipush (-2), 2) := by decide +kernel
theorem dX11_money_21 : decode cX11_money 21 = .ok (.invokevirtual 74, 3) := by decide +kernel
theorem dX11_money_24 : decode cX11_money 24 = .ok (.ireturn, 1) := by decide +kernel
theorem dX11_money_25 : decode cX11_money 25 = .ok (.aload_n 0, 1) := by decide +kernel
theorem dX11_money_26 : decode cX11_money 26 = .ok (.iload_n 1, 1) := by decide +kernel
theorem dX11_money_27 : decode cX11_money 27 = .ok (.iconst 0, 1) := by decide +kernel
theorem dX11_money_28 : decode cX11_money 28 = .ok (.invokevirtual 185, 3) := by decide +kernel
theorem dX11_money_31 : decode cX11_money 31 = .ok (.istore_n 3, 1) := by decide +kernel
theorem dX11_money_32 : decode cX11_money 32 = .ok (.iload_n 2, 1) := by decide +kernel
theorem dX11_money_33 : decode cX11_money 33 = .ok (.ifCond .ne 5, 3) := by decide +kernel
theorem dX11_money_36 : decode cX11_money 36 = .ok (.iload_n 3, 1) := by decide +kernel
theorem dX11_money_37 : decode cX11_money 37 = .ok (.ireturn, 1) := by decide +kernel
theorem dX11_money_38 : decode cX11_money 38 = .ok (.aload_n 0, 1) := by decide +kernel
theorem dX11_money_39 : decode cX11_money 39 = .ok (.aload_n 0, 1) := by decide +kernel
theorem dX11_money_40 : decode cX11_money 40 = .ok (.getfield 34, 3) := by decide +kernel
theorem dX11_money_43 : decode cX11_money 43 = .ok (.getfield 108, 3) := by decide +kernel
theorem dX11_money_46 : decode cX11_money 46 = .ok (.iload_n 3, 1) := by decide +kernel
theorem dX11_money_47 : decode cX11_money 47 = .ok (.invokevirtual 182, 3) := by decide +kernel
theorem dX11_money_50 : decode cX11_money 50 = .ok (.istore 4, 2) := by decide +kernel
theorem dX11_money_52 : decode cX11_money 52 = .ok (.iload_n 2, 1) := by decide +kernel
theorem dX11_money_53 : decode cX11_money 53 = .ok (.iconst 1, 1) := by decide +kernel
theorem dX11_money_54 : decode cX11_money 54 = .ok (.if_icmp .ne 12, 3) := by decide +kernel
theorem dX11_money_57 : decode cX11_money 57 = .ok (.aload_n 0, 1) := by decide +kernel
theorem dX11_money_58 : decode cX11_money 58 = .ok (.iload 4, 2) := by decide +kernel
theorem dX11_money_60 : decode cX11_money 60 = .ok (.invokevirtual 189, 3) := by decide +kernel
theorem dX11_money_63 : decode cX11_money 63 = .ok (.goto 5, 3) := by decide +kernel
theorem dX11_money_66 : decode cX11_money 66 = .ok (.iload 4, 2) := by decide +kernel
theorem dX11_money_68 : decode cX11_money 68 = .ok (.ireturn, 1) := by decide +kernel
theorem dX11_tied_0 : decode cX11_tied 0 = .ok (.iload_n 1, 1) := by decide +kernel
theorem dX11_tied_1 : decode cX11_tied 1 = .ok (.invokestatic 86, 3) := by decide +kernel
theorem dX11_tied_4 : decode cX11_tied 4 = .ok (.ifCond .eq 11, 3) := by decide +kernel
theorem dX11_tied_7 : decode cX11_tied 7 = .ok (.iload_n 1, 1) := by decide +kernel
theorem dX11_tied_8 : decode cX11_tied 8 = .ok (.invokestatic 192, 3) := by decide +kernel
theorem dX11_tied_11 : decode cX11_tied 11 = .ok (.iconst 2, 1) := by decide +kernel
theorem dX11_tied_12 : decode cX11_tied 12 = .ok (.if_icmp .ge 10, 3) := by decide +kernel
theorem dX11_tied_15 : decode cX11_tied 15 = .ok (.aload_n 0, 1) := by decide +kernel
theorem dX11_tied_16 : decode cX11_tied 16 = .ok (.bipush (-2), 2) := by decide +kernel
theorem dX11_tied_18 : decode cX11_tied 18 = .ok (.invokevirtual 74, 3) := by decide +kernel
theorem dX11_tied_21 : decode cX11_tied 21 = .ok (.ireturn, 1) := by decide +kernel
theorem dX11_tied_22 : decode cX11_tied 22 = .ok (.iload_n 1, 1) := by decide +kernel
theorem dX11_tied_23 : decode cX11_tied 23 = .ok (.iload_n 1, 1) := by decide +kernel
theorem dX11_tied_24 : decode cX11_tied 24 = .ok (.ineg, 1) := by decide +kernel
theorem dX11_tied_25 : decode cX11_tied 25 = .ok (.iand, 1) := by decide +kernel
theorem dX11_tied_26 : decode cX11_tied 26 = .ok (.istore_n 2, 1) := by decide +kernel
theorem dX11_tied_27 : decode cX11_tied 27 = .ok (.iload_n 2, 1) := by decide +kernel
theorem dX11_tied_28 : decode cX11_tied 28 = .ok (.istore_n 3, 1) := by decide +kernel
theorem dX11_tied_29 : decode cX11_tied 29 = .ok (.iload_n 3, 1) := by decide +kernel
theorem dX11_tied_30 : decode cX11_tied 30 = .ok (.iload_n 1, 1) := by decide +kernel
theorem dX11_tied_31 : decode cX11_tied 31 = .ok (.if_icmp .ge 71, 3) := by decide +kernel
theorem dX11_tied_34 : decode cX11_tied 34 = .ok (.iload_n 3, 1) := by decide +kernel
theorem dX11_tied_35 : decode cX11_tied 35 = .ok (.iload_n 1, 1) := by decide +kernel
theorem dX11_tied_36 : decode cX11_tied 36 = .ok (.iconst (-1), 1) := by decide +kernel
theorem dX11_tied_37 : decode cX11_tied 37 = .ok (.ixor, 1) := by decide +kernel
theorem dX11_tied_38 : decode cX11_tied 38 = .ok (.iand, 1) := by decide +kernel
theorem dX11_tied_39 : decode cX11_tied 39 = .ok (.ifCond .ne 13, 3) := by decide +kernel
theorem dX11_tied_42 : decode cX11_tied 42 = .ok (.iload_n 3, 1) := by decide +kernel
theorem dX11_tied_43 : decode cX11_tied 43 = .ok (.iload_n 2, 1) := by decide +kernel
theorem dX11_tied_44 : decode cX11_tied 44 = .ok (.iand, 1) := by decide +kernel
theorem dX11_tied_45 : decode cX11_tied 45 = .ok (.ifCond .eq 7, 3) := by decide +kernel
theorem dX11_tied_48 : decode cX11_tied 48 = .ok (.iconst 1, 1) := by decide +kernel
theorem dX11_tied_49 : decode cX11_tied 49 = .ok (.goto 4, 3) := by decide +kernel
theorem dX11_tied_52 : decode cX11_tied 52 = .ok (.iconst 0, 1) := by decide +kernel
theorem dX11_tied_53 : decode cX11_tied 53 = .ok (.istore 4, 2) := by decide +kernel
theorem dX11_tied_55 : decode cX11_tied 55 = .ok (.iload 4, 2) := by decide +kernel
theorem dX11_tied_57 : decode cX11_tied 57 = .ok (.ifCond .eq 39, 3) := by decide +kernel
theorem dX11_tied_60 : decode cX11_tied 60 = .ok (.aload_n 0, 1) := by decide +kernel
theorem dX11_tied_61 : decode cX11_tied 61 = .ok (.aload_n 0, 1) := by decide +kernel
theorem dX11_tied_62 : decode cX11_tied 62 = .ok (.getfield 34, 3) := by decide +kernel
theorem dX11_tied_65 : decode cX11_tied 65 = .ok (.getfield 108, 3) := by decide +kernel
theorem dX11_tied_68 : decode cX11_tied 68 = .ok (.iload_n 3, 1) := by decide +kernel
theorem dX11_tied_69 : decode cX11_tied 69 = .ok (.invokevirtual 182, 3) := by decide +kernel
theorem dX11_tied_72 : decode cX11_tied 72 = .ok (.ifCond .ne 24, 3) := by decide +kernel
theorem dX11_tied_75 : decode cX11_tied 75 = .ok (.aload_n 0, 1) := by decide +kernel
theorem dX11_tied_76 : decode cX11_tied 76 = .ok (.aload_n 0, 1) := by decide +kernel
theorem dX11_tied_77 : decode cX11_tied 77 = .ok (.getfield 34, 3) := by decide +kernel
theorem dX11_tied_80 : decode cX11_tied 80 = .ok (.getfield 108, 3) := by decide +kernel
theorem dX11_tied_83 : decode cX11_tied 83 = .ok (.iload_n 1, 1) := by decide +kernel
theorem dX11_tied_84 : decode cX11_tied 84 = .ok (.iload_n 3, 1) := by decide +kernel
theorem dX11_tied_85 : decode cX11_tied 85 = .ok (.iconst (-1), 1) := by decide +kernel
theorem dX11_tied_86 : decode cX11_tied 86 = .ok (.ixor, 1) := by decide +kernel
theorem dX11_tied_87 : decode cX11_tied 87 = .ok (.iand, 1) := by decide +kernel
theorem dX11_tied_88 : decode cX11_tied 88 = .ok (.invokevirtual 182, 3) := by decide +kernel
theorem dX11_tied_91 : decode cX11_tied 91 = .ok (.ifCond .ne 5, 3) := by decide +kernel
theorem dX11_tied_94 : decode cX11_tied 94 = .ok (.iload_n 3, 1) := by decide +kernel
theorem dX11_tied_95 : decode cX11_tied 95 = .ok (.ireturn, 1) := by decide +kernel
theorem dX11_tied_96 : decode cX11_tied 96 = .ok (.iinc 3 1, 3) := by decide +kernel
theorem dX11_tied_99 : decode cX11_tied 99 = .ok (.goto (-70), 3) := by decide +kernel
theorem dX11_tied_102 : decode cX11_tied 102 = .ok (.iconst (-1), 1) := by decide +kernel
theorem dX11_tied_103 : decode cX11_tied 103 = .ok (.ireturn, 1) := by decide +kernel
theorem dX11_alone_0 : decode cX11_alone 0 = .ok (.iconst 0, 1) := by decide +kernel
theorem dX11_alone_1 : decode cX11_alone 1 = .ok (.istore_n 1, 1) := by decide +kernel
theorem dX11_alone_2 : decode cX11_alone 2 = .ok (.iconst 0, 1) := by decide +kernel
theorem dX11_alone_3 : decode cX11_alone 3 = .ok (.istore_n 2, 1) := by decide +kernel
theorem dX11_alone_4 : decode cX11_alone 4 = .ok (.iload_n 2, 1) := by decide +kernel
theorem dX11_alone_5 : decode cX11_alone 5 = .ok (.bipush 8, 2) := by decide +kernel
theorem dX11_alone_7 : decode cX11_alone 7 = .ok (.if_icmp .ge 34, 3) := by decide +kernel
theorem dX11_alone_10 : decode cX11_alone 10 = .ok (.aload_n 0, 1) := by decide +kernel
theorem dX11_alone_11 : decode cX11_alone 11 = .ok (.aload_n 0, 1) := by decide +kernel
theorem dX11_alone_12 : decode cX11_alone 12 = .ok (.getfield 34, 3) := by decide +kernel
theorem dX11_alone_15 : decode cX11_alone 15 = .ok (.getfield 108, 3) := by decide +kernel
theorem dX11_alone_18 : decode cX11_alone 18 = .ok (.iload_n 2, 1) := by decide +kernel
theorem dX11_alone_19 : decode cX11_alone 19 = .ok (.invokestatic 135, 3) := by decide +kernel
theorem dX11_alone_22 : decode cX11_alone 22 = .ok (.invokevirtual 182, 3) := by decide +kernel
theorem dX11_alone_25 : decode cX11_alone 25 = .ok (.ifCond .ne 10, 3) := by decide +kernel
theorem dX11_alone_28 : decode cX11_alone 28 = .ok (.iload_n 1, 1) := by decide +kernel
theorem dX11_alone_29 : decode cX11_alone 29 = .ok (.iload_n 2, 1) := by decide +kernel
theorem dX11_alone_30 : decode cX11_alone 30 = .ok (.invokestatic 135, 3) := by decide +kernel
theorem dX11_alone_33 : decode cX11_alone 33 = .ok (.ior, 1) := by decide +kernel
theorem dX11_alone_34 : decode cX11_alone 34 = .ok (.istore_n 1, 1) := by decide +kernel
theorem dX11_alone_35 : decode cX11_alone 35 = .ok (.iinc 2 1, 3) := by decide +kernel
theorem dX11_alone_38 : decode cX11_alone 38 = .ok (.goto (-34), 3) := by decide +kernel
theorem dX11_alone_41 : decode cX11_alone 41 = .ok (.iload_n 1, 1) := by decide +kernel
theorem dX11_alone_42 : decode cX11_alone 42 = .ok (.ireturn, 1) := by decide +kernel
theorem dX11_league_0 : decode cX11_league 0 = .ok (.iconst 0, 1) := by decide +kernel
theorem dX11_league_1 : decode cX11_league 1 = .ok (.istore_n 1, 1) := by decide +kernel
theorem dX11_league_2 : decode cX11_league 2 = .ok (.iconst 0, 1) := by decide +kernel
theorem dX11_league_3 : decode cX11_league 3 = .ok (.istore_n 2, 1) := by decide +kernel
theorem dX11_league_4 : decode cX11_league 4 = .ok (.iload_n 2, 1) := by decide +kernel
theorem dX11_league_5 : decode cX11_league 5 = .ok (.bipush 8, 2) := by decide +kernel
theorem dX11_league_7 : decode cX11_league 7 = .ok (.if_icmp .ge 36, 3) := by decide +kernel
theorem dX11_league_10 : decode cX11_league 10 = .ok (.iconst 2, 1) := by decide +kernel
theorem dX11_league_11 : decode cX11_league 11 = .ok (.aload_n 0, 1) := by decide +kernel
theorem dX11_league_12 : decode cX11_league 12 = .ok (.iload_n 2, 1) := by decide +kernel
theorem dX11_league_13 : decode cX11_league 13 = .ok (.invokestatic 135, 3) := by decide +kernel
theorem dX11_league_16 : decode cX11_league 16 = .ok (.invokevirtual 197, 3) := by decide +kernel
theorem dX11_league_19 : decode cX11_league 19 = .ok (.imul, 1) := by decide +kernel
theorem dX11_league_20 : decode cX11_league 20 = .ok (.aload_n 0, 1) := by decide +kernel
theorem dX11_league_21 : decode cX11_league 21 = .ok (.getfield 34, 3) := by decide +kernel
theorem dX11_league_24 : decode cX11_league 24 = .ok (.getfield 78, 3) := by decide +kernel
theorem dX11_league_27 : decode cX11_league 27 = .ok (.if_icmp .le 10, 3) := by decide +kernel
theorem dX11_league_30 : decode cX11_league 30 = .ok (.iload_n 1, 1) := by decide +kernel
theorem dX11_league_31 : decode cX11_league 31 = .ok (.iload_n 2, 1) := by decide +kernel
theorem dX11_league_32 : decode cX11_league 32 = .ok (.invokestatic 135, 3) := by decide +kernel
theorem dX11_league_35 : decode cX11_league 35 = .ok (.ior, 1) := by decide +kernel
theorem dX11_league_36 : decode cX11_league 36 = .ok (.istore_n 1, 1) := by decide +kernel
theorem dX11_league_37 : decode cX11_league 37 = .ok (.iinc 2 1, 3) := by decide +kernel
theorem dX11_league_40 : decode cX11_league 40 = .ok (.goto (-36), 3) := by decide +kernel
theorem dX11_league_43 : decode cX11_league 43 = .ok (.iload_n 1, 1) := by decide +kernel
theorem dX11_league_44 : decode cX11_league 44 = .ok (.ireturn, 1) := by decide +kernel
theorem dX11_courts_0 : decode cX11_courts 0 = .ok (.iload_n 1, 1) := by decide +kernel
theorem dX11_courts_1 : decode cX11_courts 1 = .ok (.invokestatic 86, 3) := by decide +kernel
theorem dX11_courts_4 : decode cX11_courts 4 = .ok (.ifCond .ne 10, 3) := by decide +kernel
theorem dX11_courts_7 : decode cX11_courts 7 = .ok (.aload_n 0, 1) := by decide +kernel
theorem dX11_courts_8 : decode cX11_courts 8 = .ok (.bipush (-2), 2) := by decide +kernel
theorem dX11_courts_10 : decode cX11_courts 10 = .ok (.invokevirtual 74, 3) := by decide +kernel
theorem dX11_courts_13 : decode cX11_courts 13 = .ok (.ireturn, 1) := by decide +kernel
theorem dX11_courts_14 : decode cX11_courts 14 = .ok (.aload_n 0, 1) := by decide +kernel
theorem dX11_courts_15 : decode cX11_courts 15 = .ok (.aload_n 0, 1) := by decide +kernel
theorem dX11_courts_16 : decode cX11_courts 16 = .ok (.getfield 34, 3) := by decide +kernel
theorem dX11_courts_19 : decode cX11_courts 19 = .ok (.getfield 108, 3) := by decide +kernel
theorem dX11_courts_22 : decode cX11_courts 22 = .ok (.iload_n 1, 1) := by decide +kernel
theorem dX11_courts_23 : decode cX11_courts 23 = .ok (.invokevirtual 182, 3) := by decide +kernel
theorem dX11_courts_26 : decode cX11_courts 26 = .ok (.istore_n 2, 1) := by decide +kernel
theorem dX11_courts_27 : decode cX11_courts 27 = .ok (.iconst 0, 1) := by decide +kernel
theorem dX11_courts_28 : decode cX11_courts 28 = .ok (.istore_n 3, 1) := by decide +kernel
theorem dX11_courts_29 : decode cX11_courts 29 = .ok (.iconst (-1), 1) := by decide +kernel
theorem dX11_courts_30 : decode cX11_courts 30 = .ok (.istore 4, 2) := by decide +kernel
theorem dX11_courts_32 : decode cX11_courts 32 = .ok (.iload 4, 2) := by decide +kernel
theorem dX11_courts_34 : decode cX11_courts 34 = .ok (.aload_n 0, 1) := by decide +kernel
theorem dX11_courts_35 : decode cX11_courts 35 = .ok (.getfield 34, 3) := by decide +kernel
theorem dX11_courts_38 : decode cX11_courts 38 = .ok (.getfield 78, 3) := by decide +kernel
theorem dX11_courts_41 : decode cX11_courts 41 = .ok (.if_icmp .ge 46, 3) := by decide +kernel
theorem dX11_courts_44 : decode cX11_courts 44 = .ok (.iconst (-1), 1) := by decide +kernel
theorem dX11_courts_45 : decode cX11_courts 45 = .ok (.istore 5, 2) := by decide +kernel
theorem dX11_courts_47 : decode cX11_courts 47 = .ok (.iload 5, 2) := by decide +kernel
theorem dX11_courts_49 : decode cX11_courts 49 = .ok (.aload_n 0, 1) := by decide +kernel
theorem dX11_courts_50 : decode cX11_courts 50 = .ok (.getfield 34, 3) := by decide +kernel
theorem dX11_courts_53 : decode cX11_courts 53 = .ok (.getfield 78, 3) := by decide +kernel
theorem dX11_courts_56 : decode cX11_courts 56 = .ok (.if_icmp .ge 25, 3) := by decide +kernel
theorem dX11_courts_59 : decode cX11_courts 59 = .ok (.iload_n 3, 1) := by decide +kernel
theorem dX11_courts_60 : decode cX11_courts 60 = .ok (.aload_n 0, 1) := by decide +kernel
theorem dX11_courts_61 : decode cX11_courts 61 = .ok (.iload_n 1, 1) := by decide +kernel
theorem dX11_courts_62 : decode cX11_courts 62 = .ok (.iload_n 2, 1) := by decide +kernel
theorem dX11_courts_63 : decode cX11_courts 63 = .ok (.iload 4, 2) := by decide +kernel
theorem dX11_courts_65 : decode cX11_courts 65 = .ok (.iload 5, 2) := by decide +kernel
theorem dX11_courts_67 : decode cX11_courts 67 = .ok (.invokevirtual 200, 3) := by decide +kernel
theorem dX11_courts_70 : decode cX11_courts 70 = .ok (.invokestatic 171, 3) := by decide +kernel
theorem dX11_courts_73 : decode cX11_courts 73 = .ok (.iadd, 1) := by decide +kernel
theorem dX11_courts_74 : decode cX11_courts 74 = .ok (.istore_n 3, 1) := by decide +kernel
theorem dX11_courts_75 : decode cX11_courts 75 = .ok (.iinc 5 1, 3) := by decide +kernel
theorem dX11_courts_78 : decode cX11_courts 78 = .ok (.goto (-31), 3) := by decide +kernel
theorem dX11_courts_81 : decode cX11_courts 81 = .ok (.iinc 4 1, 3) := by decide +kernel
theorem dX11_courts_84 : decode cX11_courts 84 = .ok (.goto (-52), 3) := by decide +kernel
theorem dX11_courts_87 : decode cX11_courts 87 = .ok (.iload_n 3, 1) := by decide +kernel
theorem dX11_courts_88 : decode cX11_courts 88 = .ok (.ireturn, 1) := by decide +kernel
theorem dX11_gone_0 : decode cX11_gone 0 = .ok (.iload_n 1, 1) := by decide +kernel
theorem dX11_gone_1 : decode cX11_gone 1 = .ok (.iconst 1, 1) := by decide +kernel
theorem dX11_gone_2 : decode cX11_gone 2 = .ok (.invokestatic 70, 3) := by decide +kernel
theorem dX11_gone_5 : decode cX11_gone 5 = .ok (.ifCond .ne 10, 3) := by decide +kernel
theorem dX11_gone_8 : decode cX11_gone 8 = .ok (.aload_n 0, 1) := by decide +kernel
theorem dX11_gone_9 : decode cX11_gone 9 = .ok (.bipush (-2), 2) := by decide +kernel
theorem dX11_gone_11 : decode cX11_gone 11 = .ok (.invokevirtual 74, 3) := by decide +kernel
theorem dX11_gone_14 : decode cX11_gone 14 = .ok (.ireturn, 1) := by decide +kernel
theorem dX11_gone_15 : decode cX11_gone 15 = .ok (.iconst (-1), 1) := by decide +kernel
theorem dX11_gone_16 : decode cX11_gone 16 = .ok (.istore_n 2, 1) := by decide +kernel
theorem dX11_gone_17 : decode cX11_gone 17 = .ok (.iconst (-1), 1) := by decide +kernel
theorem dX11_gone_18 : decode cX11_gone 18 = .ok (.istore_n 3, 1) := by decide +kernel
theorem dX11_gone_19 : decode cX11_gone 19 = .ok (.iconst 0, 1) := by decide +kernel
theorem dX11_gone_20 : decode cX11_gone 20 = .ok (.istore 4, 2) := by decide +kernel
theorem dX11_gone_22 : decode cX11_gone 22 = .ok (.iload 4, 2) := by decide +kernel
theorem dX11_gone_24 : decode cX11_gone 24 = .ok (.aload_n 0, 1) := by decide +kernel
theorem dX11_gone_25 : decode cX11_gone 25 = .ok (.getfield 34, 3) := by decide +kernel
theorem dX11_gone_28 : decode cX11_gone 28 = .ok (.getfield 78, 3) := by decide +kernel
theorem dX11_gone_31 : decode cX11_gone 31 = .ok (.if_icmp .ge 36, 3) := by decide +kernel
theorem dX11_gone_34 : decode cX11_gone 34 = .ok (.aload_n 0, 1) := by decide +kernel
theorem dX11_gone_35 : decode cX11_gone 35 = .ok (.iconst (-1), 1) := by decide +kernel
theorem dX11_gone_36 : decode cX11_gone 36 = .ok (.iload 4, 2) := by decide +kernel
theorem dX11_gone_38 : decode cX11_gone 38 = .ok (.invokestatic 135, 3) := by decide +kernel
theorem dX11_gone_41 : decode cX11_gone 41 = .ok (.invokevirtual 185, 3) := by decide +kernel
theorem dX11_gone_44 : decode cX11_gone 44 = .ok (.invokestatic 192, 3) := by decide +kernel
theorem dX11_gone_47 : decode cX11_gone 47 = .ok (.istore 5, 2) := by decide +kernel
theorem dX11_gone_49 : decode cX11_gone 49 = .ok (.iload 5, 2) := by decide +kernel
theorem dX11_gone_51 : decode cX11_gone 51 = .ok (.iload_n 3, 1) := by decide +kernel
theorem dX11_gone_52 : decode cX11_gone 52 = .ok (.if_icmp .le 9, 3) := by decide +kernel
theorem dX11_gone_55 : decode cX11_gone 55 = .ok (.iload 4, 2) := by decide +kernel
theorem dX11_gone_57 : decode cX11_gone 57 = .ok (.istore_n 2, 1) := by decide +kernel
theorem dX11_gone_58 : decode cX11_gone 58 = .ok (.iload 5, 2) := by decide +kernel
theorem dX11_gone_60 : decode cX11_gone 60 = .ok (.istore_n 3, 1) := by decide +kernel
theorem dX11_gone_61 : decode cX11_gone 61 = .ok (.iinc 4 1, 3) := by decide +kernel
theorem dX11_gone_64 : decode cX11_gone 64 = .ok (.goto (-42), 3) := by decide +kernel
theorem dX11_gone_67 : decode cX11_gone 67 = .ok (.iload_n 1, 1) := by decide +kernel
theorem dX11_gone_68 : decode cX11_gone 68 = .ok (.ifCond .ne 7, 3) := by decide +kernel
theorem dX11_gone_71 : decode cX11_gone 71 = .ok (.iload_n 2, 1) := by decide +kernel
theorem dX11_gone_72 : decode cX11_gone 72 = .ok (.goto 4, 3) := by decide +kernel
theorem dX11_gone_75 : decode cX11_gone 75 = .ok (.iload_n 3, 1) := by decide +kernel
theorem dX11_gone_76 : decode cX11_gone 76 = .ok (.ireturn, 1) := by decide +kernel
theorem dX11_note_0 : decode cX11_note 0 = .ok (.aload_n 0, 1) := by decide +kernel
theorem dX11_note_1 : decode cX11_note 1 = .ok (.getfield 34, 3) := by decide +kernel
theorem dX11_note_4 : decode cX11_note 4 = .ok (.iload_n 1, 1) := by decide +kernel
theorem dX11_note_5 : decode cX11_note 5 = .ok (.invokevirtual 128, 3) := by decide +kernel
theorem dX11_note_8 : decode cX11_note 8 = .ok (.ifnull 28, 3) := by decide +kernel
theorem dX11_note_11 : decode cX11_note 11 = .ok (.iload_n 2, 1) := by decide +kernel
theorem dX11_note_12 : decode cX11_note 12 = .ok (.invokestatic 86, 3) := by decide +kernel
theorem dX11_note_15 : decode cX11_note 15 = .ok (.ifCond .eq 21, 3) := by decide +kernel
theorem dX11_note_18 : decode cX11_note 18 = .ok (.iload_n 3, 1) := by decide +kernel
theorem dX11_note_19 : decode cX11_note 19 = .ok (.bipush 99, 2) := by decide +kernel
theorem dX11_note_21 : decode cX11_note 21 = .ok (.invokestatic 70, 3) := by decide +kernel
theorem dX11_note_24 : decode cX11_note 24 = .ok (.ifCond .eq 12, 3) := by decide +kernel
theorem dX11_note_27 : decode cX11_note 27 = .ok (.iload 4, 2) := by decide +kernel
end
section
theorem dX11_note_29 : decode cX11_note 29 = .ok (.iconst 1, 1) := by decide +kernel
theorem dX11_note_30 : decode cX11_note 30 = .ok (.invokestatic 70, 3) := by decide +kernel
theorem dX11_note_33 : decode cX11_note 33 = .ok (.ifCond .ne 10, 3) := by decide +kernel
theorem dX11_note_36 : decode cX11_note 36 = .ok (.aload_n 0, 1) := by decide +kernel
theorem dX11_note_37 : decode cX11_note 37 = .ok (.bipush (-2), 2) := by decide +kernel
theorem dX11_note_39 : decode cX11_note 39 = .ok (.invokevirtual 74, 3) := by decide +kernel
theorem dX11_note_42 : decode cX11_note 42 = .ok (.ireturn, 1) := by decide +kernel
theorem dX11_note_43 : decode cX11_note 43 = .ok (.aload_n 0, 1) := by decide +kernel
theorem dX11_note_44 : decode cX11_note 44 = .ok (.getfield 34, 3) := by decide +kernel
theorem dX11_note_47 : decode cX11_note 47 = .ok (.getfield 204, 3) := by decide +kernel
theorem dX11_note_50 : decode cX11_note 50 = .ok (.bipush 6, 2) := by decide +kernel
theorem dX11_note_52 : decode cX11_note 52 = .ok (.if_icmp .lt 10, 3) := by decide +kernel
theorem dX11_note_55 : decode cX11_note 55 = .ok (.aload_n 0, 1) := by decide +kernel
theorem dX11_note_56 : decode cX11_note 56 = .ok (.bipush (-4), 2) := by decide +kernel
theorem dX11_note_58 : decode cX11_note 58 = .ok (.invokevirtual 74, 3) := by decide +kernel
theorem dX11_note_61 : decode cX11_note 61 = .ok (.ireturn, 1) := by decide +kernel
theorem dX11_note_62 : decode cX11_note 62 = .ok (.aload_n 0, 1) := by decide +kernel
theorem dX11_note_63 : decode cX11_note 63 = .ok (.getfield 34, 3) := by decide +kernel
theorem dX11_note_66 : decode cX11_note 66 = .ok (.iload_n 1, 1) := by decide +kernel
theorem dX11_note_67 : decode cX11_note 67 = .ok (.iload_n 2, 1) := by decide +kernel
theorem dX11_note_68 : decode cX11_note 68 = .ok (.iload_n 3, 1) := by decide +kernel
theorem dX11_note_69 : decode cX11_note 69 = .ok (.iload 4, 2) := by decide +kernel
theorem dX11_note_71 : decode cX11_note 71 = .ok (.invokevirtual 207, 3) := by decide +kernel
theorem dX11_note_74 : decode cX11_note 74 = .ok (.aload_n 0, 1) := by decide +kernel
theorem dX11_note_75 : decode cX11_note 75 = .ok (.getfield 34, 3) := by decide +kernel
theorem dX11_note_78 : decode cX11_note 78 = .ok (.getfield 204, 3) := by decide +kernel
theorem dX11_note_81 : decode cX11_note 81 = .ok (.ireturn, 1) := by decide +kernel
theorem dX11_forget_0 : decode cX11_forget 0 = .ok (.aload_n 0, 1) := by decide +kernel
theorem dX11_forget_1 : decode cX11_forget 1 = .ok (.getfield 34, 3) := by decide +kernel
theorem dX11_forget_4 : decode cX11_forget 4 = .ok (.getfield 204, 3) := by decide +kernel
theorem dX11_forget_7 : decode cX11_forget 7 = .ok (.istore_n 1, 1) := by decide +kernel
theorem dX11_forget_8 : decode cX11_forget 8 = .ok (.aload_n 0, 1) := by decide +kernel
theorem dX11_forget_9 : decode cX11_forget 9 = .ok (.getfield 34, 3) := by decide +kernel
theorem dX11_forget_12 : decode cX11_forget 12 = .ok (.iconst 0, 1) := by decide +kernel
theorem dX11_forget_13 : decode cX11_forget 13 = .ok (.putfield 204, 3) := by decide +kernel
theorem dX11_forget_16 : decode cX11_forget 16 = .ok (.iload_n 1, 1) := by decide +kernel
theorem dX11_forget_17 : decode cX11_forget 17 = .ok (.ireturn, 1) := by decide +kernel
theorem dX11_is_0 : decode cX11_is 0 = .ok (.aload_n 0, 1) := by decide +kernel
theorem dX11_is_1 : decode cX11_is 1 = .ok (.getfield 34, 3) := by decide +kernel
theorem dX11_is_4 : decode cX11_is 4 = .ok (.iload_n 1, 1) := by decide +kernel
theorem dX11_is_5 : decode cX11_is 5 = .ok (.invokevirtual 128, 3) := by decide +kernel
theorem dX11_is_8 : decode cX11_is 8 = .ok (.astore_n 2, 1) := by decide +kernel
theorem dX11_is_9 : decode cX11_is 9 = .ok (.aload_n 2, 1) := by decide +kernel
theorem dX11_is_10 : decode cX11_is 10 = .ok (.ifnonnull 12, 3) := by decide +kernel
theorem dX11_is_13 : decode cX11_is 13 = .ok (.aload_n 0, 1) := by decide +kernel
theorem dX11_is_14 : decode cX11_is 14 = .ok (.bipush (-2), 2) := by decide +kernel
theorem dX11_is_16 : decode cX11_is 16 = .ok (.invokevirtual 74, 3) := by decide +kernel
theorem dX11_is_19 : decode cX11_is 19 = .ok (.goto 9, 3) := by decide +kernel
theorem dX11_is_22 : decode cX11_is 22 = .ok (.aload_n 0, 1) := by decide +kernel
theorem dX11_is_23 : decode cX11_is 23 = .ok (.iload_n 1, 1) := by decide +kernel
theorem dX11_is_24 : decode cX11_is 24 = .ok (.aload_n 2, 1) := by decide +kernel
theorem dX11_is_25 : decode cX11_is 25 = .ok (.invokevirtual 210, 3) := by decide +kernel
theorem dX11_is_28 : decode cX11_is 28 = .ok (.ireturn, 1) := by decide +kernel
theorem dX11_holds_0 : decode cX11_holds 0 = .ok (.aload_n 0, 1) := by decide +kernel
theorem dX11_holds_1 : decode cX11_holds 1 = .ok (.getfield 34, 3) := by decide +kernel
theorem dX11_holds_4 : decode cX11_holds 4 = .ok (.iload_n 1, 1) := by decide +kernel
theorem dX11_holds_5 : decode cX11_holds 5 = .ok (.invokevirtual 128, 3) := by decide +kernel
theorem dX11_holds_8 : decode cX11_holds 8 = .ok (.astore_n 3, 1) := by decide +kernel
theorem dX11_holds_9 : decode cX11_holds 9 = .ok (.aload_n 3, 1) := by decide +kernel
theorem dX11_holds_10 : decode cX11_holds 10 = .ok (.ifnull 12, 3) := by decide +kernel
theorem dX11_holds_13 : decode cX11_holds 13 = .ok (.iload_n 2, 1) := by decide +kernel
theorem dX11_holds_14 : decode cX11_holds 14 = .ok (.bipush 7, 2) := by decide +kernel
theorem dX11_holds_16 : decode cX11_holds 16 = .ok (.invokestatic 70, 3) := by decide +kernel
theorem dX11_holds_19 : decode cX11_holds 19 = .ok (.ifCond .ne 10, 3) := by decide +kernel
theorem dX11_holds_22 : decode cX11_holds 22 = .ok (.aload_n 0, 1) := by decide +kernel
theorem dX11_holds_23 : decode cX11_holds 23 = .ok (.bipush (-2), 2) := by decide +kernel
theorem dX11_holds_25 : decode cX11_holds 25 = .ok (.invokevirtual 74, 3) := by decide +kernel
theorem dX11_holds_28 : decode cX11_holds 28 = .ok (.ireturn, 1) := by decide +kernel
theorem dX11_holds_29 : decode cX11_holds 29 = .ok (.iload_n 2, 1) := by decide +kernel
theorem dX11_holds_30 : decode cX11_holds 30 = .ok (.invokestatic 135, 3) := by decide +kernel
theorem dX11_holds_33 : decode cX11_holds 33 = .ok (.istore 4, 2) := by decide +kernel
theorem dX11_holds_35 : decode cX11_holds 35 = .ok (.aload_n 3, 1) := by decide +kernel
theorem dX11_holds_36 : decode cX11_holds 36 = .ok (.getfield 162, 3) := by decide +kernel
theorem dX11_holds_39 : decode cX11_holds 39 = .ok (.iload 4, 2) := by decide +kernel
theorem dX11_holds_41 : decode cX11_holds 41 = .ok (.iconst (-1), 1) := by decide +kernel
theorem dX11_holds_42 : decode cX11_holds 42 = .ok (.ixor, 1) := by decide +kernel
theorem dX11_holds_43 : decode cX11_holds 43 = .ok (.iand, 1) := by decide +kernel
theorem dX11_holds_44 : decode cX11_holds 44 = .ok (.istore 5, 2) := by decide +kernel
theorem dX11_holds_46 : decode cX11_holds 46 = .ok (.aload_n 3, 1) := by decide +kernel
theorem dX11_holds_47 : decode cX11_holds 47 = .ok (.getfield 165, 3) := by decide +kernel
theorem dX11_holds_50 : decode cX11_holds 50 = .ok (.iload 4, 2) := by decide +kernel
theorem dX11_holds_52 : decode cX11_holds 52 = .ok (.iconst (-1), 1) := by decide +kernel
theorem dX11_holds_53 : decode cX11_holds 53 = .ok (.ixor, 1) := by decide +kernel
theorem dX11_holds_54 : decode cX11_holds 54 = .ok (.iand, 1) := by decide +kernel
theorem dX11_holds_55 : decode cX11_holds 55 = .ok (.istore 6, 2) := by decide +kernel
theorem dX11_holds_57 : decode cX11_holds 57 = .ok (.aload_n 0, 1) := by decide +kernel
theorem dX11_holds_58 : decode cX11_holds 58 = .ok (.iload_n 1, 1) := by decide +kernel
theorem dX11_holds_59 : decode cX11_holds 59 = .ok (.aload_n 3, 1) := by decide +kernel
theorem dX11_holds_60 : decode cX11_holds 60 = .ok (.getfield 157, 3) := by decide +kernel
theorem dX11_holds_63 : decode cX11_holds 63 = .ok (.iload 5, 2) := by decide +kernel
theorem dX11_holds_65 : decode cX11_holds 65 = .ok (.iload 4, 2) := by decide +kernel
theorem dX11_holds_67 : decode cX11_holds 67 = .ok (.ior, 1) := by decide +kernel
theorem dX11_holds_68 : decode cX11_holds 68 = .ok (.iload 6, 2) := by decide +kernel
theorem dX11_holds_70 : decode cX11_holds 70 = .ok (.invokevirtual 214, 3) := by decide +kernel
theorem dX11_holds_73 : decode cX11_holds 73 = .ok (.invokestatic 171, 3) := by decide +kernel
theorem dX11_holds_76 : decode cX11_holds 76 = .ok (.istore 7, 2) := by decide +kernel
theorem dX11_holds_78 : decode cX11_holds 78 = .ok (.aload_n 0, 1) := by decide +kernel
theorem dX11_holds_79 : decode cX11_holds 79 = .ok (.iload_n 1, 1) := by decide +kernel
theorem dX11_holds_80 : decode cX11_holds 80 = .ok (.aload_n 3, 1) := by decide +kernel
theorem dX11_holds_81 : decode cX11_holds 81 = .ok (.getfield 157, 3) := by decide +kernel
theorem dX11_holds_84 : decode cX11_holds 84 = .ok (.iload 5, 2) := by decide +kernel
theorem dX11_holds_86 : decode cX11_holds 86 = .ok (.iload 6, 2) := by decide +kernel
theorem dX11_holds_88 : decode cX11_holds 88 = .ok (.iload 4, 2) := by decide +kernel
theorem dX11_holds_90 : decode cX11_holds 90 = .ok (.ior, 1) := by decide +kernel
theorem dX11_holds_91 : decode cX11_holds 91 = .ok (.invokevirtual 214, 3) := by decide +kernel
theorem dX11_holds_94 : decode cX11_holds 94 = .ok (.invokestatic 171, 3) := by decide +kernel
theorem dX11_holds_97 : decode cX11_holds 97 = .ok (.istore 8, 2) := by decide +kernel
theorem dX11_holds_99 : decode cX11_holds 99 = .ok (.aload_n 0, 1) := by decide +kernel
theorem dX11_holds_100 : decode cX11_holds 100 = .ok (.iload_n 1, 1) := by decide +kernel
theorem dX11_holds_101 : decode cX11_holds 101 = .ok (.aload_n 3, 1) := by decide +kernel
theorem dX11_holds_102 : decode cX11_holds 102 = .ok (.getfield 157, 3) := by decide +kernel
theorem dX11_holds_105 : decode cX11_holds 105 = .ok (.iload 5, 2) := by decide +kernel
theorem dX11_holds_107 : decode cX11_holds 107 = .ok (.iload 6, 2) := by decide +kernel
theorem dX11_holds_109 : decode cX11_holds 109 = .ok (.invokevirtual 214, 3) := by decide +kernel
theorem dX11_holds_112 : decode cX11_holds 112 = .ok (.invokestatic 171, 3) := by decide +kernel
theorem dX11_holds_115 : decode cX11_holds 115 = .ok (.istore 9, 2) := by decide +kernel
theorem dX11_holds_117 : decode cX11_holds 117 = .ok (.iload 7, 2) := by decide +kernel
theorem dX11_holds_119 : decode cX11_holds 119 = .ok (.iload 8, 2) := by decide +kernel
theorem dX11_holds_121 : decode cX11_holds 121 = .ok (.iconst 1, 1) := by decide +kernel
theorem dX11_holds_122 : decode cX11_holds 122 = .ok (.ishl, 1) := by decide +kernel
theorem dX11_holds_123 : decode cX11_holds 123 = .ok (.ior, 1) := by decide +kernel
theorem dX11_holds_124 : decode cX11_holds 124 = .ok (.iload 9, 2) := by decide +kernel
theorem dX11_holds_126 : decode cX11_holds 126 = .ok (.iconst 2, 1) := by decide +kernel
theorem dX11_holds_127 : decode cX11_holds 127 = .ok (.ishl, 1) := by decide +kernel
theorem dX11_holds_128 : decode cX11_holds 128 = .ok (.ior, 1) := by decide +kernel
theorem dX11_holds_129 : decode cX11_holds 129 = .ok (.ireturn, 1) := by decide +kernel
theorem dX11_tryNext_0 : decode cX11_tryNext 0 = .ok (.aload_n 0, 1) := by decide +kernel
theorem dX11_tryNext_1 : decode cX11_tryNext 1 = .ok (.getfield 34, 3) := by decide +kernel
theorem dX11_tryNext_4 : decode cX11_tryNext 4 = .ok (.iload_n 1, 1) := by decide +kernel
theorem dX11_tryNext_5 : decode cX11_tryNext 5 = .ok (.invokevirtual 128, 3) := by decide +kernel
theorem dX11_tryNext_8 : decode cX11_tryNext 8 = .ok (.astore_n 2, 1) := by decide +kernel
theorem dX11_tryNext_9 : decode cX11_tryNext 9 = .ok (.aload_n 2, 1) := by decide +kernel
theorem dX11_tryNext_10 : decode cX11_tryNext 10 = .ok (.ifnonnull 10, 3) := by decide +kernel
theorem dX11_tryNext_13 : decode cX11_tryNext 13 = .ok (.aload_n 0, 1) := by decide +kernel
theorem dX11_tryNext_14 : decode cX11_tryNext 14 = .ok (.bipush (-2), 2) := by decide +kernel
theorem dX11_tryNext_16 : decode cX11_tryNext 16 = .ok (.invokevirtual 74, 3) := by decide +kernel
theorem dX11_tryNext_19 : decode cX11_tryNext 19 = .ok (.ireturn, 1) := by decide +kernel
theorem dX11_tryNext_20 : decode cX11_tryNext 20 = .ok (.aload_n 0, 1) := by decide +kernel
theorem dX11_tryNext_21 : decode cX11_tryNext 21 = .ok (.iload_n 1, 1) := by decide +kernel
theorem dX11_tryNext_22 : decode cX11_tryNext 22 = .ok (.aload_n 2, 1) := by decide +kernel
theorem dX11_tryNext_23 : decode cX11_tryNext 23 = .ok (.invokevirtual 210, 3) := by decide +kernel
theorem dX11_tryNext_26 : decode cX11_tryNext 26 = .ok (.istore_n 3, 1) := by decide +kernel
theorem dX11_tryNext_27 : decode cX11_tryNext 27 = .ok (.iload_n 3, 1) := by decide +kernel
theorem dX11_tryNext_28 : decode cX11_tryNext 28 = .ok (.ifCond .ne 5, 3) := by decide +kernel
theorem dX11_tryNext_31 : decode cX11_tryNext 31 = .ok (.iconst (-1), 1) := by decide +kernel
theorem dX11_tryNext_32 : decode cX11_tryNext 32 = .ok (.ireturn, 1) := by decide +kernel
theorem dX11_tryNext_33 : decode cX11_tryNext 33 = .ok (.iload_n 3, 1) := by decide +kernel
theorem dX11_tryNext_34 : decode cX11_tryNext 34 = .ok (.invokestatic 192, 3) := by decide +kernel
theorem dX11_tryNext_37 : decode cX11_tryNext 37 = .ok (.istore 4, 2) := by decide +kernel
theorem dX11_tryNext_39 : decode cX11_tryNext 39 = .ok (.iconst (-1), 1) := by decide +kernel
theorem dX11_tryNext_40 : decode cX11_tryNext 40 = .ok (.istore 5, 2) := by decide +kernel
theorem dX11_tryNext_42 : decode cX11_tryNext 42 = .ok (.iload 4, 2) := by decide +kernel
theorem dX11_tryNext_44 : decode cX11_tryNext 44 = .ok (.iconst 1, 1) := by decide +kernel
theorem dX11_tryNext_45 : decode cX11_tryNext 45 = .ok (.iadd, 1) := by decide +kernel
theorem dX11_tryNext_46 : decode cX11_tryNext 46 = .ok (.istore 6, 2) := by decide +kernel
theorem dX11_tryNext_48 : decode cX11_tryNext 48 = .ok (.iconst 1, 1) := by decide +kernel
theorem dX11_tryNext_49 : decode cX11_tryNext 49 = .ok (.istore 7, 2) := by decide +kernel
theorem dX11_tryNext_51 : decode cX11_tryNext 51 = .ok (.iload 7, 2) := by decide +kernel
theorem dX11_tryNext_53 : decode cX11_tryNext 53 = .ok (.sipush 255, 3) := by decide +kernel
theorem dX11_tryNext_56 : decode cX11_tryNext 56 = .ok (.if_icmp .gt 50, 3) := by decide +kernel
theorem dX11_tryNext_59 : decode cX11_tryNext 59 = .ok (.iload_n 3, 1) := by decide +kernel
theorem dX11_tryNext_60 : decode cX11_tryNext 60 = .ok (.aload_n 0, 1) := by decide +kernel
theorem dX11_tryNext_61 : decode cX11_tryNext 61 = .ok (.aload_n 2, 1) := by decide +kernel
theorem dX11_tryNext_62 : decode cX11_tryNext 62 = .ok (.iload 7, 2) := by decide +kernel
theorem dX11_tryNext_64 : decode cX11_tryNext 64 = .ok (.invokevirtual 217, 3) := by decide +kernel
theorem dX11_tryNext_67 : decode cX11_tryNext 67 = .ok (.iand, 1) := by decide +kernel
theorem dX11_tryNext_68 : decode cX11_tryNext 68 = .ok (.invokestatic 192, 3) := by decide +kernel
theorem dX11_tryNext_71 : decode cX11_tryNext 71 = .ok (.istore 8, 2) := by decide +kernel
theorem dX11_tryNext_73 : decode cX11_tryNext 73 = .ok (.iload 8, 2) := by decide +kernel
theorem dX11_tryNext_75 : decode cX11_tryNext 75 = .ok (.iload 4, 2) := by decide +kernel
theorem dX11_tryNext_77 : decode cX11_tryNext 77 = .ok (.iload 8, 2) := by decide +kernel
theorem dX11_tryNext_79 : decode cX11_tryNext 79 = .ok (.isub, 1) := by decide +kernel
theorem dX11_tryNext_80 : decode cX11_tryNext 80 = .ok (.invokestatic 220, 3) := by decide +kernel
theorem dX11_tryNext_83 : decode cX11_tryNext 83 = .ok (.istore 9, 2) := by decide +kernel
theorem dX11_tryNext_85 : decode cX11_tryNext 85 = .ok (.iload 9, 2) := by decide +kernel
theorem dX11_tryNext_87 : decode cX11_tryNext 87 = .ok (.iload 6, 2) := by decide +kernel
theorem dX11_tryNext_89 : decode cX11_tryNext 89 = .ok (.if_icmp .ge 11, 3) := by decide +kernel
theorem dX11_tryNext_92 : decode cX11_tryNext 92 = .ok (.iload 9, 2) := by decide +kernel
theorem dX11_tryNext_94 : decode cX11_tryNext 94 = .ok (.istore 6, 2) := by decide +kernel
theorem dX11_tryNext_96 : decode cX11_tryNext 96 = .ok (.iload 7, 2) := by decide +kernel
theorem dX11_tryNext_98 : decode cX11_tryNext 98 = .ok (.istore 5, 2) := by decide +kernel
theorem dX11_tryNext_100 : decode cX11_tryNext 100 = .ok (.iinc 7 1, 3) := by decide +kernel
theorem dX11_tryNext_103 : decode cX11_tryNext 103 = .ok (.goto (-52), 3) := by decide +kernel
theorem dX11_tryNext_106 : decode cX11_tryNext 106 = .ok (.iload 5, 2) := by decide +kernel
theorem dX11_tryNext_108 : decode cX11_tryNext 108 = .ok (.ireturn, 1) := by decide +kernel
theorem dX11_away_0 : decode cX11_away 0 = .ok (.iload_n 1, 1) := by decide +kernel
theorem dX11_away_1 : decode cX11_away 1 = .ok (.invokestatic 86, 3) := by decide +kernel
theorem dX11_away_4 : decode cX11_away 4 = .ok (.ifCond .eq 12, 3) := by decide +kernel
theorem dX11_away_7 : decode cX11_away 7 = .ok (.iload_n 2, 1) := by decide +kernel
theorem dX11_away_8 : decode cX11_away 8 = .ok (.bipush 10, 2) := by decide +kernel
theorem dX11_away_10 : decode cX11_away 10 = .ok (.invokestatic 70, 3) := by decide +kernel
theorem dX11_away_13 : decode cX11_away 13 = .ok (.ifCond .ne 10, 3) := by decide +kernel
theorem dX11_away_16 : decode cX11_away 16 = .ok (.aload_n 0, 1) := by decide +kernel
theorem dX11_away_17 : decode cX11_away 17 = .ok (.bipush (-2), 2) := by decide +kernel
theorem dX11_away_19 : decode cX11_away 19 = .ok (.invokevirtual 74, 3) := by decide +kernel
theorem dX11_away_22 : decode cX11_away 22 = .ok (.ireturn, 1) := by decide +kernel
theorem dX11_away_23 : decode cX11_away 23 = .ok (.iload_n 2, 1) := by decide +kernel
theorem dX11_away_24 : decode cX11_away 24 = .ok (.istore_n 3, 1) := by decide +kernel
theorem dX11_away_25 : decode cX11_away 25 = .ok (.bipush 10, 2) := by decide +kernel
theorem dX11_away_27 : decode cX11_away 27 = .ok (.istore 4, 2) := by decide +kernel
theorem dX11_away_29 : decode cX11_away 29 = .ok (.iload_n 3, 1) := by decide +kernel
theorem dX11_away_30 : decode cX11_away 30 = .ok (.iconst 2, 1) := by decide +kernel
theorem dX11_away_31 : decode cX11_away 31 = .ok (.irem, 1) := by decide +kernel
theorem dX11_away_32 : decode cX11_away 32 = .ok (.ifCond .ne 13, 3) := by decide +kernel
theorem dX11_away_35 : decode cX11_away 35 = .ok (.iload_n 3, 1) := by decide +kernel
theorem dX11_away_36 : decode cX11_away 36 = .ok (.iconst 2, 1) := by decide +kernel
theorem dX11_away_37 : decode cX11_away 37 = .ok (.idiv, 1) := by decide +kernel
theorem dX11_away_38 : decode cX11_away 38 = .ok (.istore_n 3, 1) := by decide +kernel
theorem dX11_away_39 : decode cX11_away 39 = .ok (.iload 4, 2) := by decide +kernel
theorem dX11_away_41 : decode cX11_away 41 = .ok (.iconst 2, 1) := by decide +kernel
theorem dX11_away_42 : decode cX11_away 42 = .ok (.idiv, 1) := by decide +kernel
theorem dX11_away_43 : decode cX11_away 43 = .ok (.istore 4, 2) := by decide +kernel
theorem dX11_away_45 : decode cX11_away 45 = .ok (.iload_n 3, 1) := by decide +kernel
theorem dX11_away_46 : decode cX11_away 46 = .ok (.iconst 5, 1) := by decide +kernel
theorem dX11_away_47 : decode cX11_away 47 = .ok (.irem, 1) := by decide +kernel
theorem dX11_away_48 : decode cX11_away 48 = .ok (.ifCond .ne 13, 3) := by decide +kernel
theorem dX11_away_51 : decode cX11_away 51 = .ok (.iload_n 3, 1) := by decide +kernel
theorem dX11_away_52 : decode cX11_away 52 = .ok (.iconst 5, 1) := by decide +kernel
theorem dX11_away_53 : decode cX11_away 53 = .ok (.idiv, 1) := by decide +kernel
theorem dX11_away_54 : decode cX11_away 54 = .ok (.istore_n 3, 1) := by decide +kernel
theorem dX11_away_55 : decode cX11_away 55 = .ok (.iload 4, 2) := by decide +kernel
theorem dX11_away_57 : decode cX11_away 57 = .ok (.iconst 5, 1) := by decide +kernel
theorem dX11_away_58 : decode cX11_away 58 = .ok (.idiv, 1) := by decide +kernel
theorem dX11_away_59 : decode cX11_away 59 = .ok (.istore 4, 2) := by decide +kernel
theorem dX11_away_61 : decode cX11_away 61 = .ok (.aload_n 0, 1) := by decide +kernel
theorem dX11_away_62 : decode cX11_away 62 = .ok (.aload_n 0, 1) := by decide +kernel
theorem dX11_away_63 : decode cX11_away 63 = .ok (.getfield 34, 3) := by decide +kernel
theorem dX11_away_66 : decode cX11_away 66 = .ok (.getfield 108, 3) := by decide +kernel
theorem dX11_away_69 : decode cX11_away 69 = .ok (.iload_n 1, 1) := by decide +kernel
theorem dX11_away_70 : decode cX11_away 70 = .ok (.invokevirtual 182, 3) := by decide +kernel
theorem dX11_away_73 : decode cX11_away 73 = .ok (.invokestatic 192, 3) := by decide +kernel
theorem dX11_away_76 : decode cX11_away 76 = .ok (.istore 5, 2) := by decide +kernel
theorem dX11_away_78 : decode cX11_away 78 = .ok (.aload_n 0, 1) := by decide +kernel
theorem dX11_away_79 : decode cX11_away 79 = .ok (.lconst 1, 1) := by decide +kernel
theorem dX11_away_80 : decode cX11_away 80 = .ok (.putfield 63, 3) := by decide +kernel
theorem dX11_away_83 : decode cX11_away 83 = .ok (.aload_n 0, 1) := by decide +kernel
theorem dX11_away_84 : decode cX11_away 84 = .ok (.lconst 1, 1) := by decide +kernel
theorem dX11_away_85 : decode cX11_away 85 = .ok (.putfield 67, 3) := by decide +kernel
theorem dX11_away_88 : decode cX11_away 88 = .ok (.iconst 0, 1) := by decide +kernel
theorem dX11_away_89 : decode cX11_away 89 = .ok (.istore 6, 2) := by decide +kernel
theorem dX11_away_91 : decode cX11_away 91 = .ok (.iload 6, 2) := by decide +kernel
theorem dX11_away_93 : decode cX11_away 93 = .ok (.iload 5, 2) := by decide +kernel
theorem dX11_away_95 : decode cX11_away 95 = .ok (.if_icmp .ge 32, 3) := by decide +kernel
theorem dX11_away_98 : decode cX11_away 98 = .ok (.aload_n 0, 1) := by decide +kernel
theorem dX11_away_99 : decode cX11_away 99 = .ok (.dup, 1) := by decide +kernel
theorem dX11_away_100 : decode cX11_away 100 = .ok (.getfield 63, 3) := by decide +kernel
theorem dX11_away_103 : decode cX11_away 103 = .ok (.iload_n 3, 1) := by decide +kernel
theorem dX11_away_104 : decode cX11_away 104 = .ok (.i2l, 1) := by decide +kernel
theorem dX11_away_105 : decode cX11_away 105 = .ok (.lmul, 1) := by decide +kernel
theorem dX11_away_106 : decode cX11_away 106 = .ok (.putfield 63, 3) := by decide +kernel
theorem dX11_away_109 : decode cX11_away 109 = .ok (.aload_n 0, 1) := by decide +kernel
theorem dX11_away_110 : decode cX11_away 110 = .ok (.dup, 1) := by decide +kernel
theorem dX11_away_111 : decode cX11_away 111 = .ok (.getfield 67, 3) := by decide +kernel
theorem dX11_away_114 : decode cX11_away 114 = .ok (.iload 4, 2) := by decide +kernel
theorem dX11_away_116 : decode cX11_away 116 = .ok (.i2l, 1) := by decide +kernel
theorem dX11_away_117 : decode cX11_away 117 = .ok (.lmul, 1) := by decide +kernel
theorem dX11_away_118 : decode cX11_away 118 = .ok (.putfield 67, 3) := by decide +kernel
theorem dX11_away_121 : decode cX11_away 121 = .ok (.iinc 6 1, 3) := by decide +kernel
theorem dX11_away_124 : decode cX11_away 124 = .ok (.goto (-33), 3) := by decide +kernel
theorem dX11_away_127 : decode cX11_away 127 = .ok (.iconst 1, 1) := by decide +kernel
theorem dX11_away_128 : decode cX11_away 128 = .ok (.ireturn, 1) := by decide +kernel
theorem dX11_diets_0 : decode cX11_diets 0 = .ok (.iload_n 1, 1) := by decide +kernel
theorem dX11_diets_1 : decode cX11_diets 1 = .ok (.ldc 225, 2) := by decide +kernel
theorem dX11_diets_3 : decode cX11_diets 3 = .ok (.invokestatic 70, 3) := by decide +kernel
theorem dX11_diets_6 : decode cX11_diets 6 = .ok (.ifCond .eq 12, 3) := by decide +kernel
theorem dX11_diets_9 : decode cX11_diets 9 = .ok (.iload_n 2, 1) := by decide +kernel
theorem dX11_diets_10 : decode cX11_diets 10 = .ok (.bipush 30, 2) := by decide +kernel
theorem dX11_diets_12 : decode cX11_diets 12 = .ok (.invokestatic 70, 3) := by decide +kernel
theorem dX11_diets_15 : decode cX11_diets 15 = .ok (.ifCond .ne 10, 3) := by decide +kernel
theorem dX11_diets_18 : decode cX11_diets 18 = .ok (.aload_n 0, 1) := by decide +kernel
theorem dX11_diets_19 : decode cX11_diets 19 = .ok (.bipush (-2), 2) := by decide +kernel
theorem dX11_diets_21 : decode cX11_diets 21 = .ok (.invokevirtual 74, 3) := by decide +kernel
theorem dX11_diets_24 : decode cX11_diets 24 = .ok (.ireturn, 1) := by decide +kernel
theorem dX11_diets_25 : decode cX11_diets 25 = .ok (.aload_n 0, 1) := by decide +kernel
theorem dX11_diets_26 : decode cX11_diets 26 = .ok (.getfield 52, 3) := by decide +kernel
theorem dX11_diets_29 : decode cX11_diets 29 = .ok (.aload_n 0, 1) := by decide +kernel
theorem dX11_diets_30 : decode cX11_diets 30 = .ok (.getfield 34, 3) := by decide +kernel
theorem dX11_diets_33 : decode cX11_diets 33 = .ok (.getfield 108, 3) := by decide +kernel
theorem dX11_diets_36 : decode cX11_diets 36 = .ok (.invokevirtual 226, 3) := by decide +kernel
theorem dX11_diets_39 : decode cX11_diets 39 = .ok (.iload_n 1, 1) := by decide +kernel
theorem dX11_diets_40 : decode cX11_diets 40 = .ok (.i2l, 1) := by decide +kernel
theorem dX11_diets_41 : decode cX11_diets 41 = .ok (.lstore_n 3, 1) := by decide +kernel
theorem dX11_diets_42 : decode cX11_diets 42 = .ok (.iconst 0, 1) := by decide +kernel
theorem dX11_diets_43 : decode cX11_diets 43 = .ok (.istore 5, 2) := by decide +kernel
theorem dX11_diets_45 : decode cX11_diets 45 = .ok (.iload 5, 2) := by decide +kernel
theorem dX11_diets_47 : decode cX11_diets 47 = .ok (.iload_n 2, 1) := by decide +kernel
theorem dX11_diets_48 : decode cX11_diets 48 = .ok (.if_icmp .ge 63, 3) := by decide +kernel
theorem dX11_diets_51 : decode cX11_diets 51 = .ok (.lload_n 3, 1) := by decide +kernel
theorem dX11_diets_52 : decode cX11_diets 52 = .ok (.ldc2_w 229, 3) := by decide +kernel
theorem dX11_diets_55 : decode cX11_diets 55 = .ok (.lmul, 1) := by decide +kernel
theorem dX11_diets_56 : decode cX11_diets 56 = .ok (.ldc2_w 231, 3) := by decide +kernel
theorem dX11_diets_59 : decode cX11_diets 59 = .ok (.ladd, 1) := by decide +kernel
theorem dX11_diets_60 : decode cX11_diets 60 = .ok (.ldc2_w 233, 3) := by decide +kernel
theorem dX11_diets_63 : decode cX11_diets 63 = .ok (.lrem, 1) := by decide +kernel
theorem dX11_diets_64 : decode cX11_diets 64 = .ok (.lstore_n 3, 1) := by decide +kernel
theorem dX11_diets_65 : decode cX11_diets 65 = .ok (.lload_n 3, 1) := by decide +kernel
theorem dX11_diets_66 : decode cX11_diets 66 = .ok (.ldc2_w 235, 3) := by decide +kernel
theorem dX11_diets_69 : decode cX11_diets 69 = .ok (.ldiv, 1) := by decide +kernel
theorem dX11_diets_70 : decode cX11_diets 70 = .ok (.ldc2_w 237, 3) := by decide +kernel
theorem dX11_diets_73 : decode cX11_diets 73 = .ok (.lrem, 1) := by decide +kernel
theorem dX11_diets_74 : decode cX11_diets 74 = .ok (.l2i, 1) := by decide +kernel
theorem dX11_diets_75 : decode cX11_diets 75 = .ok (.istore 6, 2) := by decide +kernel
theorem dX11_diets_77 : decode cX11_diets 77 = .ok (.aload_n 0, 1) := by decide +kernel
theorem dX11_diets_78 : decode cX11_diets 78 = .ok (.aload_n 0, 1) := by decide +kernel
theorem dX11_diets_79 : decode cX11_diets 79 = .ok (.getfield 52, 3) := by decide +kernel
theorem dX11_diets_82 : decode cX11_diets 82 = .ok (.iload 6, 2) := by decide +kernel
theorem dX11_diets_84 : decode cX11_diets 84 = .ok (.aload_n 0, 1) := by decide +kernel
theorem dX11_diets_85 : decode cX11_diets 85 = .ok (.getfield 52, 3) := by decide +kernel
theorem dX11_diets_88 : decode cX11_diets 88 = .ok (.invokevirtual 111, 3) := by decide +kernel
theorem dX11_diets_91 : decode cX11_diets 91 = .ok (.iand, 1) := by decide +kernel
theorem dX11_diets_92 : decode cX11_diets 92 = .ok (.invokevirtual 118, 3) := by decide +kernel
theorem dX11_diets_95 : decode cX11_diets 95 = .ok (.ifCond .ne 10, 3) := by decide +kernel
theorem dX11_diets_98 : decode cX11_diets 98 = .ok (.aload_n 0, 1) := by decide +kernel
theorem dX11_diets_99 : decode cX11_diets 99 = .ok (.getfield 52, 3) := by decide +kernel
theorem dX11_diets_102 : decode cX11_diets 102 = .ok (.invokevirtual 122, 3) := by decide +kernel
theorem dX11_diets_105 : decode cX11_diets 105 = .ok (.iinc 5 1, 3) := by decide +kernel
theorem dX11_diets_108 : decode cX11_diets 108 = .ok (.goto (-63), 3) := by decide +kernel
theorem dX11_diets_111 : decode cX11_diets 111 = .ok (.aload_n 0, 1) := by decide +kernel
theorem dX11_diets_112 : decode cX11_diets 112 = .ok (.getfield 52, 3) := by decide +kernel
theorem dX11_diets_115 : decode cX11_diets 115 = .ok (.getfield 125, 3) := by decide +kernel
theorem dX11_diets_118 : decode cX11_diets 118 = .ok (.invokestatic 192, 3) := by decide +kernel
theorem dX11_diets_121 : decode cX11_diets 121 = .ok (.ireturn, 1) := by decide +kernel
theorem dX11_part_0 : decode cX11_part 0 = .ok (.iload_n 1, 1) := by decide +kernel
theorem dX11_part_1 : decode cX11_part 1 = .ok (.iconst 1, 1) := by decide +kernel
theorem dX11_part_2 : decode cX11_part 2 = .ok (.invokestatic 70, 3) := by decide +kernel
theorem dX11_part_5 : decode cX11_part 5 = .ok (.ifCond .ne 11, 3) := by decide +kernel
theorem dX11_part_8 : decode cX11_part 8 = .ok (.aload_n 0, 1) := by decide +kernel
theorem dX11_part_9 : decode cX11_part 9 = .ok (.bipush (-2), 2) := by decide +kernel
theorem dX11_part_11 : decode cX11_part 11 = .ok (.invokevirtual 74, 3) := by decide +kernel
theorem dX11_part_14 : decode cX11_part 14 = .ok (.i2l, 1) := by decide +kernel
theorem dX11_part_15 : decode cX11_part 15 = .ok (.lreturn, 1) := by decide +kernel
theorem dX11_part_16 : decode cX11_part 16 = .ok (.iload_n 1, 1) := by decide +kernel
theorem dX11_part_17 : decode cX11_part 17 = .ok (.ifCond .ne 10, 3) := by decide +kernel
theorem dX11_part_20 : decode cX11_part 20 = .ok (.aload_n 0, 1) := by decide +kernel
theorem dX11_part_21 : decode cX11_part 21 = .ok (.getfield 63, 3) := by decide +kernel
theorem dX11_part_24 : decode cX11_part 24 = .ok (.goto 7, 3) := by decide +kernel
theorem dX11_part_27 : decode cX11_part 27 = .ok (.aload_n 0, 1) := by decide +kernel
theorem dX11_part_28 : decode cX11_part 28 = .ok (.getfield 67, 3) := by decide +kernel
theorem dX11_part_31 : decode cX11_part 31 = .ok (.lreturn, 1) := by decide +kernel
theorem dX11_image_0 : decode cX11_image 0 = .ok (.iload_n 1, 1) := by decide +kernel
theorem dX11_image_1 : decode cX11_image 1 = .ok (.aload_n 0, 1) := by decide +kernel
theorem dX11_image_2 : decode cX11_image 2 = .ok (.getfield 41, 3) := by decide +kernel
theorem dX11_image_5 : decode cX11_image 5 = .ok (.arraylength, 1) := by decide +kernel
theorem dX11_image_6 : decode cX11_image 6 = .ok (.iconst 1, 1) := by decide +kernel
theorem dX11_image_7 : decode cX11_image 7 = .ok (.isub, 1) := by decide +kernel
theorem dX11_image_8 : decode cX11_image 8 = .ok (.invokestatic 70, 3) := by decide +kernel
theorem dX11_image_11 : decode cX11_image 11 = .ok (.ifCond .ne 10, 3) := by decide +kernel
theorem dX11_image_14 : decode cX11_image 14 = .ok (.aload_n 0, 1) := by decide +kernel
theorem dX11_image_15 : decode cX11_image 15 = .ok (.bipush (-2), 2) := by decide +kernel
theorem dX11_image_17 : decode cX11_image 17 = .ok (.invokevirtual 74, 3) := by decide +kernel
theorem dX11_image_20 : decode cX11_image 20 = .ok (.ireturn, 1) := by decide +kernel
theorem dX11_image_21 : decode cX11_image 21 = .ok (.aload_n 0, 1) := by decide +kernel
theorem dX11_image_22 : decode cX11_image 22 = .ok (.getfield 41, 3) := by decide +kernel
theorem dX11_image_25 : decode cX11_image 25 = .ok (.iload_n 1, 1) := by decide +kernel
theorem dX11_image_26 : decode cX11_image 26 = .ok (.aaload, 1) := by decide +kernel
theorem dX11_image_27 : decode cX11_image 27 = .ok (.aload_n 0, 1) := by decide +kernel
theorem dX11_image_28 : decode cX11_image 28 = .ok (.getfield 34, 3) := by decide +kernel
theorem dX11_image_31 : decode cX11_image 31 = .ok (.invokevirtual 104, 3) := by decide +kernel
theorem dX11_image_34 : decode cX11_image 34 = .ok (.aload_n 0, 1) := by decide +kernel
theorem dX11_image_35 : decode cX11_image 35 = .ok (.getfield 45, 3) := by decide +kernel
theorem dX11_image_38 : decode cX11_image 38 = .ok (.iload_n 1, 1) := by decide +kernel
theorem dX11_image_39 : decode cX11_image 39 = .ok (.iconst 1, 1) := by decide +kernel
theorem dX11_image_40 : decode cX11_image 40 = .ok (.bastore, 1) := by decide +kernel
theorem dX11_image_41 : decode cX11_image 41 = .ok (.iconst 1, 1) := by decide +kernel
theorem dX11_image_42 : decode cX11_image 42 = .ok (.ireturn, 1) := by decide +kernel
theorem dX11_from_0 : decode cX11_from 0 = .ok (.iload_n 1, 1) := by decide +kernel
theorem dX11_from_1 : decode cX11_from 1 = .ok (.aload_n 0, 1) := by decide +kernel
theorem dX11_from_2 : decode cX11_from 2 = .ok (.getfield 41, 3) := by decide +kernel
theorem dX11_from_5 : decode cX11_from 5 = .ok (.arraylength, 1) := by decide +kernel
theorem dX11_from_6 : decode cX11_from 6 = .ok (.iconst 1, 1) := by decide +kernel
theorem dX11_from_7 : decode cX11_from 7 = .ok (.isub, 1) := by decide +kernel
theorem dX11_from_8 : decode cX11_from 8 = .ok (.invokestatic 70, 3) := by decide +kernel
theorem dX11_from_11 : decode cX11_from 11 = .ok (.ifCond .ne 10, 3) := by decide +kernel
theorem dX11_from_14 : decode cX11_from 14 = .ok (.aload_n 0, 1) := by decide +kernel
theorem dX11_from_15 : decode cX11_from 15 = .ok (.bipush (-2), 2) := by decide +kernel
theorem dX11_from_17 : decode cX11_from 17 = .ok (.invokevirtual 74, 3) := by decide +kernel
theorem dX11_from_20 : decode cX11_from 20 = .ok (.ireturn, 1) := by decide +kernel
theorem dX11_from_21 : decode cX11_from 21 = .ok (.aload_n 0, 1) := by decide +kernel
theorem dX11_from_22 : decode cX11_from 22 = .ok (.getfield 45, 3) := by decide +kernel
theorem dX11_from_25 : decode cX11_from 25 = .ok (.iload_n 1, 1) := by decide +kernel
theorem dX11_from_26 : decode cX11_from 26 = .ok (.baload, 1) := by decide +kernel
theorem dX11_from_27 : decode cX11_from 27 = .ok (.ifCond .ne 10, 3) := by decide +kernel
theorem dX11_from_30 : decode cX11_from 30 = .ok (.aload_n 0, 1) := by decide +kernel
theorem dX11_from_31 : decode cX11_from 31 = .ok (.bipush (-3), 2) := by decide +kernel
theorem dX11_from_33 : decode cX11_from 33 = .ok (.invokevirtual 74, 3) := by decide +kernel
theorem dX11_from_36 : decode cX11_from 36 = .ok (.ireturn, 1) := by decide +kernel
theorem dX11_from_37 : decode cX11_from 37 = .ok (.aload_n 0, 1) := by decide +kernel
theorem dX11_from_38 : decode cX11_from 38 = .ok (.getfield 34, 3) := by decide +kernel
theorem dX11_from_41 : decode cX11_from 41 = .ok (.aload_n 0, 1) := by decide +kernel
theorem dX11_from_42 : decode cX11_from 42 = .ok (.getfield 41, 3) := by decide +kernel
theorem dX11_from_45 : decode cX11_from 45 = .ok (.iload_n 1, 1) := by decide +kernel
theorem dX11_from_46 : decode cX11_from 46 = .ok (.aaload, 1) := by decide +kernel
theorem dX11_from_47 : decode cX11_from 47 = .ok (.invokevirtual 104, 3) := by decide +kernel
theorem dX11_from_50 : decode cX11_from 50 = .ok (.iconst 1, 1) := by decide +kernel
theorem dX11_from_51 : decode cX11_from 51 = .ok (.ireturn, 1) := by decide +kernel
theorem dX11_status_0 : decode cX11_status 0 = .ok (.iload_n 1, 1) := by decide +kernel
theorem dX11_status_1 : decode cX11_status 1 = .ok (.tableswitch 42 0 2 #[27, 32, 37], 27) := by decide +kernel
theorem dX11_status_28 : decode cX11_status 28 = .ok (.aload_n 0, 1) := by decide +kernel
theorem dX11_status_29 : decode cX11_status 29 = .ok (.getfield 239, 3) := by decide +kernel
theorem dX11_status_32 : decode cX11_status 32 = .ok (.ireturn, 1) := by decide +kernel
theorem dX11_status_33 : decode cX11_status 33 = .ok (.aload_n 0, 1) := by decide +kernel
theorem dX11_status_34 : decode cX11_status 34 = .ok (.getfield 242, 3) := by decide +kernel
theorem dX11_status_37 : decode cX11_status 37 = .ok (.ireturn, 1) := by decide +kernel
theorem dX11_status_38 : decode cX11_status 38 = .ok (.aload_n 0, 1) := by decide +kernel
theorem dX11_status_39 : decode cX11_status 39 = .ok (.getfield 245, 3) := by decide +kernel
theorem dX11_status_42 : decode cX11_status 42 = .ok (.ireturn, 1) := by decide +kernel
theorem dX11_status_43 : decode cX11_status 43 = .ok (.aload_n 0, 1) := by decide +kernel
theorem dX11_status_44 : decode cX11_status 44 = .ok (.bipush (-2), 2) := by decide +kernel
theorem dX11_status_46 : decode cX11_status 46 = .ok (.invokevirtual 74, 3) := by decide +kernel
theorem dX11_status_49 : decode cX11_status 49 = .ok (.pop, 1) := by decide +kernel
theorem dX11_status_50 : decode cX11_status 50 = .ok (.iconst (-1), 1) := by decide +kernel
theorem dX11_status_51 : decode cX11_status 51 = .ok (.ireturn, 1) := by decide +kernel
theorem dX11_count_0 : decode cX11_count 0 = .ok (.iload_n 1, 1) := by decide +kernel
theorem dX11_count_1 : decode cX11_count 1 = .ok (.bipush 7, 2) := by decide +kernel
theorem dX11_count_3 : decode cX11_count 3 = .ok (.invokestatic 70, 3) := by decide +kernel
theorem dX11_count_6 : decode cX11_count 6 = .ok (.ifCond .eq 11, 3) := by decide +kernel
theorem dX11_count_9 : decode cX11_count 9 = .ok (.aload_n 0, 1) := by decide +kernel
theorem dX11_count_10 : decode cX11_count 10 = .ok (.iload_n 1, 1) := by decide +kernel
theorem dX11_count_11 : decode cX11_count 11 = .ok (.invokevirtual 248, 3) := by decide +kernel
theorem dX11_count_14 : decode cX11_count 14 = .ok (.goto 9, 3) := by decide +kernel
theorem dX11_count_17 : decode cX11_count 17 = .ok (.aload_n 0, 1) := by decide +kernel
theorem dX11_count_18 : decode cX11_count 18 = .ok (.bipush (-2), 2) := by decide +kernel
theorem dX11_count_20 : decode cX11_count 20 = .ok (.invokevirtual 74, 3) := by decide +kernel
theorem dX11_count_23 : decode cX11_count 23 = .ok (.ireturn, 1) := by decide +kernel
theorem dX11_digest_0 : decode cX11_digest 0 = .ok (.ldc2_w 251, 3) := by decide +kernel
theorem dX11_digest_3 : decode cX11_digest 3 = .ok (.lstore_n 1, 1) := by decide +kernel
theorem dX11_digest_4 : decode cX11_digest 4 = .ok (.iconst 0, 1) := by decide +kernel
theorem dX11_digest_5 : decode cX11_digest 5 = .ok (.istore_n 3, 1) := by decide +kernel
theorem dX11_digest_6 : decode cX11_digest 6 = .ok (.iload_n 3, 1) := by decide +kernel
theorem dX11_digest_7 : decode cX11_digest 7 = .ok (.bipush 8, 2) := by decide +kernel
theorem dX11_digest_9 : decode cX11_digest 9 = .ok (.if_icmp .ge 22, 3) := by decide +kernel
theorem dX11_digest_12 : decode cX11_digest 12 = .ok (.ldc2_w 253, 3) := by decide +kernel
theorem dX11_digest_15 : decode cX11_digest 15 = .ok (.lload_n 1, 1) := by decide +kernel
theorem dX11_digest_16 : decode cX11_digest 16 = .ok (.lmul, 1) := by decide +kernel
theorem dX11_digest_17 : decode cX11_digest 17 = .ok (.aload_n 0, 1) := by decide +kernel
theorem dX11_digest_18 : decode cX11_digest 18 = .ok (.iload_n 3, 1) := by decide +kernel
theorem dX11_digest_19 : decode cX11_digest 19 = .ok (.invokevirtual 248, 3) := by decide +kernel
theorem dX11_digest_22 : decode cX11_digest 22 = .ok (.i2l, 1) := by decide +kernel
theorem dX11_digest_23 : decode cX11_digest 23 = .ok (.ladd, 1) := by decide +kernel
theorem dX11_digest_24 : decode cX11_digest 24 = .ok (.lstore_n 1, 1) := by decide +kernel
theorem dX11_digest_25 : decode cX11_digest 25 = .ok (.iinc 3 1, 3) := by decide +kernel
theorem dX11_digest_28 : decode cX11_digest 28 = .ok (.goto (-22), 3) := by decide +kernel
theorem dX11_digest_31 : decode cX11_digest 31 = .ok (.ldc2_w 253, 3) := by decide +kernel
theorem dX11_digest_34 : decode cX11_digest 34 = .ok (.lload_n 1, 1) := by decide +kernel
theorem dX11_digest_35 : decode cX11_digest 35 = .ok (.lmul, 1) := by decide +kernel
theorem dX11_digest_36 : decode cX11_digest 36 = .ok (.aload_n 0, 1) := by decide +kernel
theorem dX11_digest_37 : decode cX11_digest 37 = .ok (.getfield 34, 3) := by decide +kernel
theorem dX11_digest_40 : decode cX11_digest 40 = .ok (.getfield 108, 3) := by decide +kernel
theorem dX11_digest_43 : decode cX11_digest 43 = .ok (.getfield 179, 3) := by decide +kernel
theorem dX11_digest_46 : decode cX11_digest 46 = .ok (.i2l, 1) := by decide +kernel
theorem dX11_digest_47 : decode cX11_digest 47 = .ok (.ladd, 1) := by decide +kernel
theorem dX11_digest_48 : decode cX11_digest 48 = .ok (.lstore_n 1, 1) := by decide +kernel
theorem dX11_digest_49 : decode cX11_digest 49 = .ok (.ldc2_w 253, 3) := by decide +kernel
theorem dX11_digest_52 : decode cX11_digest 52 = .ok (.lload_n 1, 1) := by decide +kernel
theorem dX11_digest_53 : decode cX11_digest 53 = .ok (.lmul, 1) := by decide +kernel
theorem dX11_digest_54 : decode cX11_digest 54 = .ok (.aload_n 0, 1) := by decide +kernel
theorem dX11_digest_55 : decode cX11_digest 55 = .ok (.getfield 34, 3) := by decide +kernel
theorem dX11_digest_58 : decode cX11_digest 58 = .ok (.getfield 108, 3) := by decide +kernel
theorem dX11_digest_61 : decode cX11_digest 61 = .ok (.getfield 125, 3) := by decide +kernel
theorem dX11_digest_64 : decode cX11_digest 64 = .ok (.i2l, 1) := by decide +kernel
theorem dX11_digest_65 : decode cX11_digest 65 = .ok (.ladd, 1) := by decide +kernel
theorem dX11_digest_66 : decode cX11_digest 66 = .ok (.lstore_n 1, 1) := by decide +kernel
theorem dX11_digest_67 : decode cX11_digest 67 = .ok (.iconst 0, 1) := by decide +kernel
theorem dX11_digest_68 : decode cX11_digest 68 = .ok (.istore_n 3, 1) := by decide +kernel
theorem dX11_digest_69 : decode cX11_digest 69 = .ok (.iload_n 3, 1) := by decide +kernel
theorem dX11_digest_70 : decode cX11_digest 70 = .ok (.bipush 6, 2) := by decide +kernel
theorem dX11_digest_72 : decode cX11_digest 72 = .ok (.if_icmp .ge 16, 3) := by decide +kernel
theorem dX11_digest_75 : decode cX11_digest 75 = .ok (.aload_n 0, 1) := by decide +kernel
theorem dX11_digest_76 : decode cX11_digest 76 = .ok (.lload_n 1, 1) := by decide +kernel
theorem dX11_digest_77 : decode cX11_digest 77 = .ok (.iload_n 3, 1) := by decide +kernel
theorem dX11_digest_78 : decode cX11_digest 78 = .ok (.invokevirtual 255, 3) := by decide +kernel
theorem dX11_digest_81 : decode cX11_digest 81 = .ok (.lstore_n 1, 1) := by decide +kernel
theorem dX11_digest_82 : decode cX11_digest 82 = .ok (.iinc 3 1, 3) := by decide +kernel
theorem dX11_digest_85 : decode cX11_digest 85 = .ok (.goto (-16), 3) := by decide +kernel
theorem dX11_digest_88 : decode cX11_digest 88 = .ok (.iconst 0, 1) := by decide +kernel
theorem dX11_digest_89 : decode cX11_digest 89 = .ok (.istore_n 3, 1) := by decide +kernel
theorem dX11_digest_90 : decode cX11_digest 90 = .ok (.iload_n 3, 1) := by decide +kernel
theorem dX11_digest_91 : decode cX11_digest 91 = .ok (.bipush 6, 2) := by decide +kernel
theorem dX11_digest_93 : decode cX11_digest 93 = .ok (.if_icmp .ge 16, 3) := by decide +kernel
theorem dX11_digest_96 : decode cX11_digest 96 = .ok (.aload_n 0, 1) := by decide +kernel
theorem dX11_digest_97 : decode cX11_digest 97 = .ok (.lload_n 1, 1) := by decide +kernel
theorem dX11_digest_98 : decode cX11_digest 98 = .ok (.iload_n 3, 1) := by decide +kernel
theorem dX11_digest_99 : decode cX11_digest 99 = .ok (.invokevirtual 259, 3) := by decide +kernel
theorem dX11_digest_102 : decode cX11_digest 102 = .ok (.lstore_n 1, 1) := by decide +kernel
theorem dX11_digest_103 : decode cX11_digest 103 = .ok (.iinc 3 1, 3) := by decide +kernel
theorem dX11_digest_106 : decode cX11_digest 106 = .ok (.goto (-16), 3) := by decide +kernel
theorem dX11_digest_109 : decode cX11_digest 109 = .ok (.ldc2_w 253, 3) := by decide +kernel
theorem dX11_digest_112 : decode cX11_digest 112 = .ok (.lload_n 1, 1) := by decide +kernel
theorem dX11_digest_113 : decode cX11_digest 113 = .ok (.lmul, 1) := by decide +kernel
theorem dX11_digest_114 : decode cX11_digest 114 = .ok (.aload_n 0, 1) := by decide +kernel
theorem dX11_digest_115 : decode cX11_digest 115 = .ok (.getfield 63, 3) := by decide +kernel
theorem dX11_digest_118 : decode cX11_digest 118 = .ok (.ladd, 1) := by decide +kernel
theorem dX11_digest_119 : decode cX11_digest 119 = .ok (.lstore_n 1, 1) := by decide +kernel
theorem dX11_digest_120 : decode cX11_digest 120 = .ok (.ldc2_w 253, 3) := by decide +kernel
theorem dX11_digest_123 : decode cX11_digest 123 = .ok (.lload_n 1, 1) := by decide +kernel
theorem dX11_digest_124 : decode cX11_digest 124 = .ok (.lmul, 1) := by decide +kernel
theorem dX11_digest_125 : decode cX11_digest 125 = .ok (.aload_n 0, 1) := by decide +kernel
theorem dX11_digest_126 : decode cX11_digest 126 = .ok (.getfield 67, 3) := by decide +kernel
theorem dX11_digest_129 : decode cX11_digest 129 = .ok (.ladd, 1) := by decide +kernel
theorem dX11_digest_130 : decode cX11_digest 130 = .ok (.lreturn, 1) := by decide +kernel
theorem dX11_within_0 : decode cX11_within 0 = .ok (.iload_n 0, 1) := by decide +kernel
theorem dX11_within_1 : decode cX11_within 1 = .ok (.ifCond .lt 12, 3) := by decide +kernel
theorem dX11_within_4 : decode cX11_within 4 = .ok (.iload_n 0, 1) := by decide +kernel
theorem dX11_within_5 : decode cX11_within 5 = .ok (.iload_n 1, 1) := by decide +kernel
theorem dX11_within_6 : decode cX11_within 6 = .ok (.if_icmp .gt 7, 3) := by decide +kernel
theorem dX11_within_9 : decode cX11_within 9 = .ok (.iconst 1, 1) := by decide +kernel
theorem dX11_within_10 : decode cX11_within 10 = .ok (.goto 4, 3) := by decide +kernel
theorem dX11_within_13 : decode cX11_within 13 = .ok (.iconst 0, 1) := by decide +kernel
theorem dX11_within_14 : decode cX11_within 14 = .ok (.ireturn, 1) := by decide +kernel
theorem dX11_isBundle_0 : decode cX11_isBundle 0 = .ok (.iload_n 0, 1) := by decide +kernel
theorem dX11_isBundle_1 : decode cX11_isBundle 1 = .ok (.sipush 255, 3) := by decide +kernel
theorem dX11_isBundle_4 : decode cX11_isBundle 4 = .ok (.invokestatic 70, 3) := by decide +kernel
theorem dX11_isBundle_7 : decode cX11_isBundle 7 = .ok (.ireturn, 1) := by decide +kernel
theorem dX11_oneIf_0 : decode cX11_oneIf 0 = .ok (.iload_n 0, 1) := by decide +kernel
theorem dX11_oneIf_1 : decode cX11_oneIf 1 = .ok (.ifCond .eq 7, 3) := by decide +kernel
theorem dX11_oneIf_4 : decode cX11_oneIf 4 = .ok (.iconst 1, 1) := by decide +kernel
theorem dX11_oneIf_5 : decode cX11_oneIf 5 = .ok (.goto 4, 3) := by decide +kernel
theorem dX11_oneIf_8 : decode cX11_oneIf 8 = .ok (.iconst 0, 1) := by decide +kernel
theorem dX11_oneIf_9 : decode cX11_oneIf 9 = .ok (.ireturn, 1) := by decide +kernel
theorem dX11_bitOf_0 : decode cX11_bitOf 0 = .ok (.iload_n 0, 1) := by decide +kernel
theorem dX11_bitOf_1 : decode cX11_bitOf 1 = .ok (.ifCond .ge 7, 3) := by decide +kernel
theorem dX11_bitOf_4 : decode cX11_bitOf 4 = .ok (.iconst 0, 1) := by decide +kernel
theorem dX11_bitOf_5 : decode cX11_bitOf 5 = .ok (.goto 6, 3) := by decide +kernel
theorem dX11_bitOf_8 : decode cX11_bitOf 8 = .ok (.iconst 1, 1) := by decide +kernel
theorem dX11_bitOf_9 : decode cX11_bitOf 9 = .ok (.iload_n 0, 1) := by decide +kernel
theorem dX11_bitOf_10 : decode cX11_bitOf 10 = .ok (.ishl, 1) := by decide +kernel
theorem dX11_bitOf_11 : decode cX11_bitOf 11 = .ok (.ireturn, 1) := by decide +kernel
theorem dX11_refuse_0 : decode cX11_refuse 0 = .ok (.iload_n 1, 1) := by decide +kernel
theorem dX11_refuse_1 : decode cX11_refuse 1 = .ok (.lookupswitch 53 #[(-3, 40), (-2, 27)], 27) := by decide +kernel
theorem dX11_refuse_28 : decode cX11_refuse 28 = .ok (.aload_n 0, 1) := by decide +kernel
theorem dX11_refuse_29 : decode cX11_refuse 29 = .ok (.dup, 1) := by decide +kernel
theorem dX11_refuse_30 : decode cX11_refuse 30 = .ok (.getfield 239, 3) := by decide +kernel
theorem dX11_refuse_33 : decode cX11_refuse 33 = .ok (.iconst 1, 1) := by decide +kernel
theorem dX11_refuse_34 : decode cX11_refuse 34 = .ok (.iadd, 1) := by decide +kernel
theorem dX11_refuse_35 : decode cX11_refuse 35 = .ok (.putfield 239, 3) := by decide +kernel
theorem dX11_refuse_38 : decode cX11_refuse 38 = .ok (.goto 26, 3) := by decide +kernel
theorem dX11_refuse_41 : decode cX11_refuse 41 = .ok (.aload_n 0, 1) := by decide +kernel
theorem dX11_refuse_42 : decode cX11_refuse 42 = .ok (.dup, 1) := by decide +kernel
theorem dX11_refuse_43 : decode cX11_refuse 43 = .ok (.getfield 242, 3) := by decide +kernel
theorem dX11_refuse_46 : decode cX11_refuse 46 = .ok (.iconst 1, 1) := by decide +kernel
theorem dX11_refuse_47 : decode cX11_refuse 47 = .ok (.iadd, 1) := by decide +kernel
theorem dX11_refuse_48 : decode cX11_refuse 48 = .ok (.putfield 242, 3) := by decide +kernel
theorem dX11_refuse_51 : decode cX11_refuse 51 = .ok (.goto 13, 3) := by decide +kernel
theorem dX11_refuse_54 : decode cX11_refuse 54 = .ok (.aload_n 0, 1) := by decide +kernel
theorem dX11_refuse_55 : decode cX11_refuse 55 = .ok (.dup, 1) := by decide +kernel
theorem dX11_refuse_56 : decode cX11_refuse 56 = .ok (.getfield 245, 3) := by decide +kernel
theorem dX11_refuse_59 : decode cX11_refuse 59 = .ok (.iconst 1, 1) := by decide +kernel
theorem dX11_refuse_60 : decode cX11_refuse 60 = .ok (.iadd, 1) := by decide +kernel
theorem dX11_refuse_61 : decode cX11_refuse 61 = .ok (.putfield 245, 3) := by decide +kernel
theorem dX11_refuse_64 : decode cX11_refuse 64 = .ok (.iload_n 1, 1) := by decide +kernel
theorem dX11_refuse_65 : decode cX11_refuse 65 = .ok (.ireturn, 1) := by decide +kernel
theorem dX11_kindAt_0 : decode cX11_kindAt 0 = .ok (.aload_n 0, 1) := by decide +kernel
theorem dX11_kindAt_1 : decode cX11_kindAt 1 = .ok (.getfield 25, 3) := by decide +kernel
theorem dX11_kindAt_4 : decode cX11_kindAt 4 = .ok (.iload_n 1, 1) := by decide +kernel
theorem dX11_kindAt_5 : decode cX11_kindAt 5 = .ok (.aload_n 0, 1) := by decide +kernel
theorem dX11_kindAt_6 : decode cX11_kindAt 6 = .ok (.getfield 25, 3) := by decide +kernel
theorem dX11_kindAt_9 : decode cX11_kindAt 9 = .ok (.arraylength, 1) := by decide +kernel
theorem dX11_kindAt_10 : decode cX11_kindAt 10 = .ok (.iconst 1, 1) := by decide +kernel
theorem dX11_kindAt_11 : decode cX11_kindAt 11 = .ok (.isub, 1) := by decide +kernel
theorem dX11_kindAt_12 : decode cX11_kindAt 12 = .ok (.invokestatic 70, 3) := by decide +kernel
theorem dX11_kindAt_15 : decode cX11_kindAt 15 = .ok (.ifCond .eq 7, 3) := by decide +kernel
theorem dX11_kindAt_18 : decode cX11_kindAt 18 = .ok (.iload_n 1, 1) := by decide +kernel
theorem dX11_kindAt_19 : decode cX11_kindAt 19 = .ok (.goto 4, 3) := by decide +kernel
theorem dX11_kindAt_22 : decode cX11_kindAt 22 = .ok (.iconst 0, 1) := by decide +kernel
theorem dX11_kindAt_23 : decode cX11_kindAt 23 = .ok (.aaload, 1) := by decide +kernel
theorem dX11_kindAt_24 : decode cX11_kindAt 24 = .ok (.areturn, 1) := by decide +kernel
theorem dX11_costOf_0 : decode cX11_costOf 0 = .ok (.aload_n 0, 1) := by decide +kernel
theorem dX11_costOf_1 : decode cX11_costOf 1 = .ok (.aload_n 1, 1) := by decide +kernel
theorem dX11_costOf_2 : decode cX11_costOf 2 = .ok (.getfield 157, 3) := by decide +kernel
theorem dX11_costOf_5 : decode cX11_costOf 5 = .ok (.invokevirtual 262, 3) := by decide +kernel
theorem dX11_costOf_8 : decode cX11_costOf 8 = .ok (.aload_n 1, 1) := by decide +kernel
theorem dX11_costOf_9 : decode cX11_costOf 9 = .ok (.getfield 168, 3) := by decide +kernel
theorem dX11_costOf_12 : decode cX11_costOf 12 = .ok (.invokevirtual 266, 3) := by decide +kernel
theorem dX11_costOf_15 : decode cX11_costOf 15 = .ok (.ireturn, 1) := by decide +kernel
theorem dX11_costOfAll_0 : decode cX11_costOfAll 0 = .ok (.iconst 0, 1) := by decide +kernel
theorem dX11_costOfAll_1 : decode cX11_costOfAll 1 = .ok (.istore_n 2, 1) := by decide +kernel
theorem dX11_costOfAll_2 : decode cX11_costOfAll 2 = .ok (.iconst 0, 1) := by decide +kernel
theorem dX11_costOfAll_3 : decode cX11_costOfAll 3 = .ok (.istore_n 3, 1) := by decide +kernel
theorem dX11_costOfAll_4 : decode cX11_costOfAll 4 = .ok (.iload_n 3, 1) := by decide +kernel
theorem dX11_costOfAll_5 : decode cX11_costOfAll 5 = .ok (.aload_n 0, 1) := by decide +kernel
theorem dX11_costOfAll_6 : decode cX11_costOfAll 6 = .ok (.getfield 34, 3) := by decide +kernel
theorem dX11_costOfAll_9 : decode cX11_costOfAll 9 = .ok (.getfield 78, 3) := by decide +kernel
theorem dX11_costOfAll_12 : decode cX11_costOfAll 12 = .ok (.if_icmp .ge 42, 3) := by decide +kernel
theorem dX11_costOfAll_15 : decode cX11_costOfAll 15 = .ok (.aload_n 0, 1) := by decide +kernel
theorem dX11_costOfAll_16 : decode cX11_costOfAll 16 = .ok (.getfield 34, 3) := by decide +kernel
theorem dX11_costOfAll_19 : decode cX11_costOfAll 19 = .ok (.iload_n 3, 1) := by decide +kernel
theorem dX11_costOfAll_20 : decode cX11_costOfAll 20 = .ok (.invokevirtual 128, 3) := by decide +kernel
theorem dX11_costOfAll_23 : decode cX11_costOfAll 23 = .ok (.astore 4, 2) := by decide +kernel
theorem dX11_costOfAll_25 : decode cX11_costOfAll 25 = .ok (.aload 4, 2) := by decide +kernel
theorem dX11_costOfAll_27 : decode cX11_costOfAll 27 = .ok (.ifnull 21, 3) := by decide +kernel
theorem dX11_costOfAll_30 : decode cX11_costOfAll 30 = .ok (.iload_n 1, 1) := by decide +kernel
theorem dX11_costOfAll_31 : decode cX11_costOfAll 31 = .ok (.iload_n 3, 1) := by decide +kernel
theorem dX11_costOfAll_32 : decode cX11_costOfAll 32 = .ok (.invokestatic 135, 3) := by decide +kernel
theorem dX11_costOfAll_35 : decode cX11_costOfAll 35 = .ok (.iand, 1) := by decide +kernel
theorem dX11_costOfAll_36 : decode cX11_costOfAll 36 = .ok (.ifCond .eq 12, 3) := by decide +kernel
theorem dX11_costOfAll_39 : decode cX11_costOfAll 39 = .ok (.iload_n 2, 1) := by decide +kernel
theorem dX11_costOfAll_40 : decode cX11_costOfAll 40 = .ok (.aload_n 0, 1) := by decide +kernel
theorem dX11_costOfAll_41 : decode cX11_costOfAll 41 = .ok (.aload 4, 2) := by decide +kernel
theorem dX11_costOfAll_43 : decode cX11_costOfAll 43 = .ok (.invokevirtual 138, 3) := by decide +kernel
theorem dX11_costOfAll_46 : decode cX11_costOfAll 46 = .ok (.iadd, 1) := by decide +kernel
theorem dX11_costOfAll_47 : decode cX11_costOfAll 47 = .ok (.istore_n 2, 1) := by decide +kernel
theorem dX11_costOfAll_48 : decode cX11_costOfAll 48 = .ok (.iinc 3 1, 3) := by decide +kernel
theorem dX11_costOfAll_51 : decode cX11_costOfAll 51 = .ok (.goto (-47), 3) := by decide +kernel
theorem dX11_costOfAll_54 : decode cX11_costOfAll 54 = .ok (.iload_n 2, 1) := by decide +kernel
theorem dX11_costOfAll_55 : decode cX11_costOfAll 55 = .ok (.ireturn, 1) := by decide +kernel
theorem dX11_joyFor_0 : decode cX11_joyFor 0 = .ok (.aload_n 0, 1) := by decide +kernel
theorem dX11_joyFor_1 : decode cX11_joyFor 1 = .ok (.aload_n 1, 1) := by decide +kernel
theorem dX11_joyFor_2 : decode cX11_joyFor 2 = .ok (.getfield 157, 3) := by decide +kernel
theorem dX11_joyFor_5 : decode cX11_joyFor 5 = .ok (.invokevirtual 262, 3) := by decide +kernel
theorem dX11_joyFor_8 : decode cX11_joyFor 8 = .ok (.aload_n 1, 1) := by decide +kernel
theorem dX11_joyFor_9 : decode cX11_joyFor 9 = .ok (.getfield 162, 3) := by decide +kernel
theorem dX11_joyFor_12 : decode cX11_joyFor 12 = .ok (.iload_n 2, 1) := by decide +kernel
theorem dX11_joyFor_13 : decode cX11_joyFor 13 = .ok (.iand, 1) := by decide +kernel
theorem dX11_joyFor_14 : decode cX11_joyFor 14 = .ok (.invokestatic 192, 3) := by decide +kernel
theorem dX11_joyFor_17 : decode cX11_joyFor 17 = .ok (.aload_n 1, 1) := by decide +kernel
theorem dX11_joyFor_18 : decode cX11_joyFor 18 = .ok (.getfield 165, 3) := by decide +kernel
theorem dX11_joyFor_21 : decode cX11_joyFor 21 = .ok (.iload_n 2, 1) := by decide +kernel
theorem dX11_joyFor_22 : decode cX11_joyFor 22 = .ok (.iand, 1) := by decide +kernel
theorem dX11_joyFor_23 : decode cX11_joyFor 23 = .ok (.invokestatic 192, 3) := by decide +kernel
theorem dX11_joyFor_26 : decode cX11_joyFor 26 = .ok (.invokevirtual 269, 3) := by decide +kernel
theorem dX11_joyFor_29 : decode cX11_joyFor 29 = .ok (.ireturn, 1) := by decide +kernel
theorem dX11_gladOf_0 : decode cX11_gladOf 0 = .ok (.iconst 0, 1) := by decide +kernel
theorem dX11_gladOf_1 : decode cX11_gladOf 1 = .ok (.istore_n 2, 1) := by decide +kernel
theorem dX11_gladOf_2 : decode cX11_gladOf 2 = .ok (.iconst 0, 1) := by decide +kernel
theorem dX11_gladOf_3 : decode cX11_gladOf 3 = .ok (.istore_n 3, 1) := by decide +kernel
theorem dX11_gladOf_4 : decode cX11_gladOf 4 = .ok (.iload_n 3, 1) := by decide +kernel
theorem dX11_gladOf_5 : decode cX11_gladOf 5 = .ok (.aload_n 0, 1) := by decide +kernel
theorem dX11_gladOf_6 : decode cX11_gladOf 6 = .ok (.getfield 34, 3) := by decide +kernel
theorem dX11_gladOf_9 : decode cX11_gladOf 9 = .ok (.getfield 78, 3) := by decide +kernel
theorem dX11_gladOf_12 : decode cX11_gladOf 12 = .ok (.if_icmp .ge 45, 3) := by decide +kernel
theorem dX11_gladOf_15 : decode cX11_gladOf 15 = .ok (.aload_n 0, 1) := by decide +kernel
theorem dX11_gladOf_16 : decode cX11_gladOf 16 = .ok (.getfield 34, 3) := by decide +kernel
theorem dX11_gladOf_19 : decode cX11_gladOf 19 = .ok (.iload_n 3, 1) := by decide +kernel
theorem dX11_gladOf_20 : decode cX11_gladOf 20 = .ok (.invokevirtual 128, 3) := by decide +kernel
theorem dX11_gladOf_23 : decode cX11_gladOf 23 = .ok (.astore 4, 2) := by decide +kernel
theorem dX11_gladOf_25 : decode cX11_gladOf 25 = .ok (.iload_n 2, 1) := by decide +kernel
theorem dX11_gladOf_26 : decode cX11_gladOf 26 = .ok (.aload 4, 2) := by decide +kernel
theorem dX11_gladOf_28 : decode cX11_gladOf 28 = .ok (.ifnull 17, 3) := by decide +kernel
theorem dX11_gladOf_31 : decode cX11_gladOf 31 = .ok (.aload_n 0, 1) := by decide +kernel
theorem dX11_gladOf_32 : decode cX11_gladOf 32 = .ok (.aload 4, 2) := by decide +kernel
theorem dX11_gladOf_34 : decode cX11_gladOf 34 = .ok (.iload_n 1, 1) := by decide +kernel
theorem dX11_gladOf_35 : decode cX11_gladOf 35 = .ok (.invokevirtual 175, 3) := by decide +kernel
theorem dX11_gladOf_38 : decode cX11_gladOf 38 = .ok (.ifCond .le 7, 3) := by decide +kernel
theorem dX11_gladOf_41 : decode cX11_gladOf 41 = .ok (.iconst 1, 1) := by decide +kernel
theorem dX11_gladOf_42 : decode cX11_gladOf 42 = .ok (.goto 4, 3) := by decide +kernel
theorem dX11_gladOf_45 : decode cX11_gladOf 45 = .ok (.iconst 0, 1) := by decide +kernel
theorem dX11_gladOf_46 : decode cX11_gladOf 46 = .ok (.invokestatic 171, 3) := by decide +kernel
theorem dX11_gladOf_49 : decode cX11_gladOf 49 = .ok (.iadd, 1) := by decide +kernel
theorem dX11_gladOf_50 : decode cX11_gladOf 50 = .ok (.istore_n 2, 1) := by decide +kernel
theorem dX11_gladOf_51 : decode cX11_gladOf 51 = .ok (.iinc 3 1, 3) := by decide +kernel
theorem dX11_gladOf_54 : decode cX11_gladOf 54 = .ok (.goto (-50), 3) := by decide +kernel
theorem dX11_gladOf_57 : decode cX11_gladOf 57 = .ok (.iload_n 2, 1) := by decide +kernel
theorem dX11_gladOf_58 : decode cX11_gladOf 58 = .ok (.ireturn, 1) := by decide +kernel
theorem dX11_wouldStop_0 : decode cX11_wouldStop 0 = .ok (.iload 4, 2) := by decide +kernel
theorem dX11_wouldStop_2 : decode cX11_wouldStop 2 = .ok (.ifCond .ne 5, 3) := by decide +kernel
theorem dX11_wouldStop_5 : decode cX11_wouldStop 5 = .ok (.iconst 0, 1) := by decide +kernel
theorem dX11_wouldStop_6 : decode cX11_wouldStop 6 = .ok (.ireturn, 1) := by decide +kernel
theorem dX11_wouldStop_7 : decode cX11_wouldStop 7 = .ok (.aload_n 0, 1) := by decide +kernel
theorem dX11_wouldStop_8 : decode cX11_wouldStop 8 = .ok (.iload_n 1, 1) := by decide +kernel
theorem dX11_wouldStop_9 : decode cX11_wouldStop 9 = .ok (.invokevirtual 262, 3) := by decide +kernel
theorem dX11_wouldStop_12 : decode cX11_wouldStop 12 = .ok (.astore 6, 2) := by decide +kernel
theorem dX11_wouldStop_14 : decode cX11_wouldStop 14 = .ok (.iload_n 3, 1) := by decide +kernel
theorem dX11_wouldStop_15 : decode cX11_wouldStop 15 = .ok (.iload 4, 2) := by decide +kernel
theorem dX11_wouldStop_17 : decode cX11_wouldStop 17 = .ok (.iand, 1) := by decide +kernel
theorem dX11_wouldStop_18 : decode cX11_wouldStop 18 = .ok (.invokestatic 192, 3) := by decide +kernel
theorem dX11_wouldStop_21 : decode cX11_wouldStop 21 = .ok (.istore 7, 2) := by decide +kernel
theorem dX11_wouldStop_23 : decode cX11_wouldStop 23 = .ok (.aload 6, 2) := by decide +kernel
theorem dX11_wouldStop_25 : decode cX11_wouldStop 25 = .ok (.aload 6, 2) := by decide +kernel
theorem dX11_wouldStop_27 : decode cX11_wouldStop 27 = .ok (.iload_n 2, 1) := by decide +kernel
theorem dX11_wouldStop_28 : decode cX11_wouldStop 28 = .ok (.iload 4, 2) := by decide +kernel
theorem dX11_wouldStop_30 : decode cX11_wouldStop 30 = .ok (.iand, 1) := by decide +kernel
theorem dX11_wouldStop_31 : decode cX11_wouldStop 31 = .ok (.invokestatic 192, 3) := by decide +kernel
theorem dX11_wouldStop_34 : decode cX11_wouldStop 34 = .ok (.iload 7, 2) := by decide +kernel
theorem dX11_wouldStop_36 : decode cX11_wouldStop 36 = .ok (.invokevirtual 269, 3) := by decide +kernel
theorem dX11_wouldStop_39 : decode cX11_wouldStop 39 = .ok (.iload 7, 2) := by decide +kernel
theorem dX11_wouldStop_41 : decode cX11_wouldStop 41 = .ok (.iload 5, 2) := by decide +kernel
theorem dX11_wouldStop_43 : decode cX11_wouldStop 43 = .ok (.invokevirtual 272, 3) := by decide +kernel
theorem dX11_wouldStop_46 : decode cX11_wouldStop 46 = .ok (.ireturn, 1) := by decide +kernel
theorem dX11_stoppers_0 : decode cX11_stoppers 0 = .ok (.aload_n 1, 1) := by decide +kernel
theorem dX11_stoppers_1 : decode cX11_stoppers 1 = .ok (.getfield 132, 3) := by decide +kernel
theorem dX11_stoppers_4 : decode cX11_stoppers 4 = .ok (.aload_n 1, 1) := by decide +kernel
theorem dX11_stoppers_5 : decode cX11_stoppers 5 = .ok (.getfield 145, 3) := by decide +kernel
theorem dX11_stoppers_8 : decode cX11_stoppers 8 = .ok (.ior, 1) := by decide +kernel
theorem dX11_stoppers_9 : decode cX11_stoppers 9 = .ok (.istore_n 3, 1) := by decide +kernel
theorem dX11_stoppers_10 : decode cX11_stoppers 10 = .ok (.iconst 0, 1) := by decide +kernel
theorem dX11_stoppers_11 : decode cX11_stoppers 11 = .ok (.istore 4, 2) := by decide +kernel
theorem dX11_stoppers_13 : decode cX11_stoppers 13 = .ok (.iconst 0, 1) := by decide +kernel
theorem dX11_stoppers_14 : decode cX11_stoppers 14 = .ok (.istore 5, 2) := by decide +kernel
theorem dX11_stoppers_16 : decode cX11_stoppers 16 = .ok (.iload 5, 2) := by decide +kernel
theorem dX11_stoppers_18 : decode cX11_stoppers 18 = .ok (.aload_n 0, 1) := by decide +kernel
theorem dX11_stoppers_19 : decode cX11_stoppers 19 = .ok (.getfield 34, 3) := by decide +kernel
theorem dX11_stoppers_22 : decode cX11_stoppers 22 = .ok (.getfield 78, 3) := by decide +kernel
theorem dX11_stoppers_25 : decode cX11_stoppers 25 = .ok (.if_icmp .ge 72, 3) := by decide +kernel
theorem dX11_stoppers_28 : decode cX11_stoppers 28 = .ok (.aload_n 0, 1) := by decide +kernel
theorem dX11_stoppers_29 : decode cX11_stoppers 29 = .ok (.getfield 34, 3) := by decide +kernel
theorem dX11_stoppers_32 : decode cX11_stoppers 32 = .ok (.iload 5, 2) := by decide +kernel
theorem dX11_stoppers_34 : decode cX11_stoppers 34 = .ok (.invokevirtual 128, 3) := by decide +kernel
theorem dX11_stoppers_37 : decode cX11_stoppers 37 = .ok (.astore 6, 2) := by decide +kernel
theorem dX11_stoppers_39 : decode cX11_stoppers 39 = .ok (.aload 6, 2) := by decide +kernel
theorem dX11_stoppers_41 : decode cX11_stoppers 41 = .ok (.ifnull 50, 3) := by decide +kernel
end
section
theorem dX11_stoppers_44 : decode cX11_stoppers 44 = .ok (.iload_n 3, 1) := by decide +kernel
theorem dX11_stoppers_45 : decode cX11_stoppers 45 = .ok (.iload 5, 2) := by decide +kernel
theorem dX11_stoppers_47 : decode cX11_stoppers 47 = .ok (.invokestatic 135, 3) := by decide +kernel
theorem dX11_stoppers_50 : decode cX11_stoppers 50 = .ok (.iand, 1) := by decide +kernel
theorem dX11_stoppers_51 : decode cX11_stoppers 51 = .ok (.ifCond .ne 40, 3) := by decide +kernel
theorem dX11_stoppers_54 : decode cX11_stoppers 54 = .ok (.aload_n 0, 1) := by decide +kernel
theorem dX11_stoppers_55 : decode cX11_stoppers 55 = .ok (.aload 6, 2) := by decide +kernel
theorem dX11_stoppers_57 : decode cX11_stoppers 57 = .ok (.getfield 157, 3) := by decide +kernel
theorem dX11_stoppers_60 : decode cX11_stoppers 60 = .ok (.aload 6, 2) := by decide +kernel
theorem dX11_stoppers_62 : decode cX11_stoppers 62 = .ok (.getfield 162, 3) := by decide +kernel
theorem dX11_stoppers_65 : decode cX11_stoppers 65 = .ok (.aload 6, 2) := by decide +kernel
theorem dX11_stoppers_67 : decode cX11_stoppers 67 = .ok (.getfield 165, 3) := by decide +kernel
theorem dX11_stoppers_70 : decode cX11_stoppers 70 = .ok (.iload_n 2, 1) := by decide +kernel
theorem dX11_stoppers_71 : decode cX11_stoppers 71 = .ok (.aload_n 1, 1) := by decide +kernel
theorem dX11_stoppers_72 : decode cX11_stoppers 72 = .ok (.getfield 154, 3) := by decide +kernel
theorem dX11_stoppers_75 : decode cX11_stoppers 75 = .ok (.invokevirtual 276, 3) := by decide +kernel
theorem dX11_stoppers_78 : decode cX11_stoppers 78 = .ok (.ifCond .eq 13, 3) := by decide +kernel
theorem dX11_stoppers_81 : decode cX11_stoppers 81 = .ok (.iload 4, 2) := by decide +kernel
theorem dX11_stoppers_83 : decode cX11_stoppers 83 = .ok (.iload 5, 2) := by decide +kernel
theorem dX11_stoppers_85 : decode cX11_stoppers 85 = .ok (.invokestatic 135, 3) := by decide +kernel
theorem dX11_stoppers_88 : decode cX11_stoppers 88 = .ok (.ior, 1) := by decide +kernel
theorem dX11_stoppers_89 : decode cX11_stoppers 89 = .ok (.istore 4, 2) := by decide +kernel
theorem dX11_stoppers_91 : decode cX11_stoppers 91 = .ok (.iinc 5 1, 3) := by decide +kernel
theorem dX11_stoppers_94 : decode cX11_stoppers 94 = .ok (.goto (-78), 3) := by decide +kernel
theorem dX11_stoppers_97 : decode cX11_stoppers 97 = .ok (.iload 4, 2) := by decide +kernel
theorem dX11_stoppers_99 : decode cX11_stoppers 99 = .ok (.ireturn, 1) := by decide +kernel
theorem dX11_moveIn_0 : decode cX11_moveIn 0 = .ok (.aload_n 0, 1) := by decide +kernel
theorem dX11_moveIn_1 : decode cX11_moveIn 1 = .ok (.aload_n 1, 1) := by decide +kernel
theorem dX11_moveIn_2 : decode cX11_moveIn 2 = .ok (.iload_n 2, 1) := by decide +kernel
theorem dX11_moveIn_3 : decode cX11_moveIn 3 = .ok (.invokevirtual 182, 3) := by decide +kernel
theorem dX11_moveIn_6 : decode cX11_moveIn 6 = .ok (.istore_n 3, 1) := by decide +kernel
theorem dX11_moveIn_7 : decode cX11_moveIn 7 = .ok (.iload_n 3, 1) := by decide +kernel
theorem dX11_moveIn_8 : decode cX11_moveIn 8 = .ok (.ifCond .ne 16, 3) := by decide +kernel
theorem dX11_moveIn_11 : decode cX11_moveIn 11 = .ok (.aload_n 1, 1) := by decide +kernel
theorem dX11_moveIn_12 : decode cX11_moveIn 12 = .ok (.dup, 1) := by decide +kernel
theorem dX11_moveIn_13 : decode cX11_moveIn 13 = .ok (.getfield 179, 3) := by decide +kernel
theorem dX11_moveIn_16 : decode cX11_moveIn 16 = .ok (.iload_n 2, 1) := by decide +kernel
theorem dX11_moveIn_17 : decode cX11_moveIn 17 = .ok (.ior, 1) := by decide +kernel
theorem dX11_moveIn_18 : decode cX11_moveIn 18 = .ok (.putfield 179, 3) := by decide +kernel
theorem dX11_moveIn_21 : decode cX11_moveIn 21 = .ok (.goto 12, 3) := by decide +kernel
theorem dX11_moveIn_24 : decode cX11_moveIn 24 = .ok (.aload_n 1, 1) := by decide +kernel
theorem dX11_moveIn_25 : decode cX11_moveIn 25 = .ok (.iconst 0, 1) := by decide +kernel
theorem dX11_moveIn_26 : decode cX11_moveIn 26 = .ok (.putfield 179, 3) := by decide +kernel
theorem dX11_moveIn_29 : decode cX11_moveIn 29 = .ok (.aload_n 1, 1) := by decide +kernel
theorem dX11_moveIn_30 : decode cX11_moveIn 30 = .ok (.invokevirtual 122, 3) := by decide +kernel
theorem dX11_moveIn_33 : decode cX11_moveIn 33 = .ok (.iload_n 3, 1) := by decide +kernel
theorem dX11_moveIn_34 : decode cX11_moveIn 34 = .ok (.ireturn, 1) := by decide +kernel
theorem dX11_bestBundle_0 : decode cX11_bestBundle 0 = .ok (.aload_n 0, 1) := by decide +kernel
theorem dX11_bestBundle_1 : decode cX11_bestBundle 1 = .ok (.getfield 34, 3) := by decide +kernel
theorem dX11_bestBundle_4 : decode cX11_bestBundle 4 = .ok (.getfield 108, 3) := by decide +kernel
theorem dX11_bestBundle_7 : decode cX11_bestBundle 7 = .ok (.invokevirtual 111, 3) := by decide +kernel
theorem dX11_bestBundle_10 : decode cX11_bestBundle 10 = .ok (.istore_n 3, 1) := by decide +kernel
theorem dX11_bestBundle_11 : decode cX11_bestBundle 11 = .ok (.iconst 0, 1) := by decide +kernel
theorem dX11_bestBundle_12 : decode cX11_bestBundle 12 = .ok (.istore 4, 2) := by decide +kernel
theorem dX11_bestBundle_14 : decode cX11_bestBundle 14 = .ok (.iconst 1, 1) := by decide +kernel
theorem dX11_bestBundle_15 : decode cX11_bestBundle 15 = .ok (.istore 5, 2) := by decide +kernel
theorem dX11_bestBundle_17 : decode cX11_bestBundle 17 = .ok (.iload 5, 2) := by decide +kernel
theorem dX11_bestBundle_19 : decode cX11_bestBundle 19 = .ok (.sipush 255, 3) := by decide +kernel
theorem dX11_bestBundle_22 : decode cX11_bestBundle 22 = .ok (.if_icmp .gt 69, 3) := by decide +kernel
theorem dX11_bestBundle_25 : decode cX11_bestBundle 25 = .ok (.iload 5, 2) := by decide +kernel
theorem dX11_bestBundle_27 : decode cX11_bestBundle 27 = .ok (.iload_n 3, 1) := by decide +kernel
theorem dX11_bestBundle_28 : decode cX11_bestBundle 28 = .ok (.iconst (-1), 1) := by decide +kernel
theorem dX11_bestBundle_29 : decode cX11_bestBundle 29 = .ok (.ixor, 1) := by decide +kernel
theorem dX11_bestBundle_30 : decode cX11_bestBundle 30 = .ok (.iand, 1) := by decide +kernel
theorem dX11_bestBundle_31 : decode cX11_bestBundle 31 = .ok (.ifCond .ne 54, 3) := by decide +kernel
theorem dX11_bestBundle_34 : decode cX11_bestBundle 34 = .ok (.iload 5, 2) := by decide +kernel
theorem dX11_bestBundle_36 : decode cX11_bestBundle 36 = .ok (.invokestatic 192, 3) := by decide +kernel
theorem dX11_bestBundle_39 : decode cX11_bestBundle 39 = .ok (.iload 4, 2) := by decide +kernel
theorem dX11_bestBundle_41 : decode cX11_bestBundle 41 = .ok (.invokestatic 192, 3) := by decide +kernel
theorem dX11_bestBundle_44 : decode cX11_bestBundle 44 = .ok (.if_icmp .le 41, 3) := by decide +kernel
theorem dX11_bestBundle_47 : decode cX11_bestBundle 47 = .ok (.aload_n 0, 1) := by decide +kernel
theorem dX11_bestBundle_48 : decode cX11_bestBundle 48 = .ok (.aload_n 0, 1) := by decide +kernel
theorem dX11_bestBundle_49 : decode cX11_bestBundle 49 = .ok (.getfield 34, 3) := by decide +kernel
theorem dX11_bestBundle_52 : decode cX11_bestBundle 52 = .ok (.getfield 108, 3) := by decide +kernel
theorem dX11_bestBundle_55 : decode cX11_bestBundle 55 = .ok (.iload 5, 2) := by decide +kernel
theorem dX11_bestBundle_57 : decode cX11_bestBundle 57 = .ok (.invokevirtual 182, 3) := by decide +kernel
theorem dX11_bestBundle_60 : decode cX11_bestBundle 60 = .ok (.iload_n 2, 1) := by decide +kernel
theorem dX11_bestBundle_61 : decode cX11_bestBundle 61 = .ok (.iconst (-1), 1) := by decide +kernel
theorem dX11_bestBundle_62 : decode cX11_bestBundle 62 = .ok (.ixor, 1) := by decide +kernel
theorem dX11_bestBundle_63 : decode cX11_bestBundle 63 = .ok (.iand, 1) := by decide +kernel
theorem dX11_bestBundle_64 : decode cX11_bestBundle 64 = .ok (.istore 6, 2) := by decide +kernel
theorem dX11_bestBundle_66 : decode cX11_bestBundle 66 = .ok (.iload 6, 2) := by decide +kernel
theorem dX11_bestBundle_68 : decode cX11_bestBundle 68 = .ok (.ifCond .eq 13, 3) := by decide +kernel
theorem dX11_bestBundle_71 : decode cX11_bestBundle 71 = .ok (.aload_n 0, 1) := by decide +kernel
theorem dX11_bestBundle_72 : decode cX11_bestBundle 72 = .ok (.iload 6, 2) := by decide +kernel
theorem dX11_bestBundle_74 : decode cX11_bestBundle 74 = .ok (.invokevirtual 189, 3) := by decide +kernel
theorem dX11_bestBundle_77 : decode cX11_bestBundle 77 = .ok (.iload_n 1, 1) := by decide +kernel
theorem dX11_bestBundle_78 : decode cX11_bestBundle 78 = .ok (.if_icmp .gt 7, 3) := by decide +kernel
theorem dX11_bestBundle_81 : decode cX11_bestBundle 81 = .ok (.iload 5, 2) := by decide +kernel
theorem dX11_bestBundle_83 : decode cX11_bestBundle 83 = .ok (.istore 4, 2) := by decide +kernel
theorem dX11_bestBundle_85 : decode cX11_bestBundle 85 = .ok (.iinc 5 1, 3) := by decide +kernel
theorem dX11_bestBundle_88 : decode cX11_bestBundle 88 = .ok (.goto (-71), 3) := by decide +kernel
theorem dX11_bestBundle_91 : decode cX11_bestBundle 91 = .ok (.iload 4, 2) := by decide +kernel
theorem dX11_bestBundle_93 : decode cX11_bestBundle 93 = .ok (.ireturn, 1) := by decide +kernel
theorem dX11_stoppedBetween_0 : decode cX11_stoppedBetween 0 = .ok (.iload 4, 2) := by decide +kernel
theorem dX11_stoppedBetween_2 : decode cX11_stoppedBetween 2 = .ok (.invokestatic 135, 3) := by decide +kernel
theorem dX11_stoppedBetween_5 : decode cX11_stoppedBetween 5 = .ok (.aload_n 0, 1) := by decide +kernel
theorem dX11_stoppedBetween_6 : decode cX11_stoppedBetween 6 = .ok (.getfield 34, 3) := by decide +kernel
theorem dX11_stoppedBetween_9 : decode cX11_stoppedBetween 9 = .ok (.getfield 108, 3) := by decide +kernel
theorem dX11_stoppedBetween_12 : decode cX11_stoppedBetween 12 = .ok (.getfield 145, 3) := by decide +kernel
theorem dX11_stoppedBetween_15 : decode cX11_stoppedBetween 15 = .ok (.iconst (-1), 1) := by decide +kernel
theorem dX11_stoppedBetween_16 : decode cX11_stoppedBetween 16 = .ok (.ixor, 1) := by decide +kernel
theorem dX11_stoppedBetween_17 : decode cX11_stoppedBetween 17 = .ok (.iand, 1) := by decide +kernel
theorem dX11_stoppedBetween_18 : decode cX11_stoppedBetween 18 = .ok (.istore 5, 2) := by decide +kernel
theorem dX11_stoppedBetween_20 : decode cX11_stoppedBetween 20 = .ok (.iload_n 1, 1) := by decide +kernel
theorem dX11_stoppedBetween_21 : decode cX11_stoppedBetween 21 = .ok (.ifCond .eq 21, 3) := by decide +kernel
theorem dX11_stoppedBetween_24 : decode cX11_stoppedBetween 24 = .ok (.iload_n 2, 1) := by decide +kernel
theorem dX11_stoppedBetween_25 : decode cX11_stoppedBetween 25 = .ok (.iload 5, 2) := by decide +kernel
theorem dX11_stoppedBetween_27 : decode cX11_stoppedBetween 27 = .ok (.ior, 1) := by decide +kernel
theorem dX11_stoppedBetween_28 : decode cX11_stoppedBetween 28 = .ok (.iload_n 3, 1) := by decide +kernel
theorem dX11_stoppedBetween_29 : decode cX11_stoppedBetween 29 = .ok (.invokestatic 135, 3) := by decide +kernel
theorem dX11_stoppedBetween_32 : decode cX11_stoppedBetween 32 = .ok (.iconst (-1), 1) := by decide +kernel
theorem dX11_stoppedBetween_33 : decode cX11_stoppedBetween 33 = .ok (.ixor, 1) := by decide +kernel
theorem dX11_stoppedBetween_34 : decode cX11_stoppedBetween 34 = .ok (.iand, 1) := by decide +kernel
theorem dX11_stoppedBetween_35 : decode cX11_stoppedBetween 35 = .ok (.ifCond .eq 7, 3) := by decide +kernel
theorem dX11_stoppedBetween_38 : decode cX11_stoppedBetween 38 = .ok (.iconst 1, 1) := by decide +kernel
theorem dX11_stoppedBetween_39 : decode cX11_stoppedBetween 39 = .ok (.goto 4, 3) := by decide +kernel
theorem dX11_stoppedBetween_42 : decode cX11_stoppedBetween 42 = .ok (.iconst 0, 1) := by decide +kernel
theorem dX11_stoppedBetween_43 : decode cX11_stoppedBetween 43 = .ok (.ireturn, 1) := by decide +kernel
theorem dX11_pairRests_0 : decode cX11_pairRests 0 = .ok (.aload_n 0, 1) := by decide +kernel
theorem dX11_pairRests_1 : decode cX11_pairRests 1 = .ok (.iload_n 1, 1) := by decide +kernel
theorem dX11_pairRests_2 : decode cX11_pairRests 2 = .ok (.iload_n 2, 1) := by decide +kernel
theorem dX11_pairRests_3 : decode cX11_pairRests 3 = .ok (.iload_n 3, 1) := by decide +kernel
theorem dX11_pairRests_4 : decode cX11_pairRests 4 = .ok (.iload 4, 2) := by decide +kernel
theorem dX11_pairRests_6 : decode cX11_pairRests 6 = .ok (.invokevirtual 280, 3) := by decide +kernel
theorem dX11_pairRests_9 : decode cX11_pairRests 9 = .ok (.istore 5, 2) := by decide +kernel
theorem dX11_pairRests_11 : decode cX11_pairRests 11 = .ok (.iconst (-1), 1) := by decide +kernel
theorem dX11_pairRests_12 : decode cX11_pairRests 12 = .ok (.istore 6, 2) := by decide +kernel
theorem dX11_pairRests_14 : decode cX11_pairRests 14 = .ok (.iload 6, 2) := by decide +kernel
theorem dX11_pairRests_16 : decode cX11_pairRests 16 = .ok (.aload_n 0, 1) := by decide +kernel
theorem dX11_pairRests_17 : decode cX11_pairRests 17 = .ok (.getfield 34, 3) := by decide +kernel
theorem dX11_pairRests_20 : decode cX11_pairRests 20 = .ok (.getfield 78, 3) := by decide +kernel
theorem dX11_pairRests_23 : decode cX11_pairRests 23 = .ok (.if_icmp .ge 47, 3) := by decide +kernel
theorem dX11_pairRests_26 : decode cX11_pairRests 26 = .ok (.iload 5, 2) := by decide +kernel
theorem dX11_pairRests_28 : decode cX11_pairRests 28 = .ok (.ifCond .eq 16, 3) := by decide +kernel
theorem dX11_pairRests_31 : decode cX11_pairRests 31 = .ok (.aload_n 0, 1) := by decide +kernel
theorem dX11_pairRests_32 : decode cX11_pairRests 32 = .ok (.iload_n 1, 1) := by decide +kernel
theorem dX11_pairRests_33 : decode cX11_pairRests 33 = .ok (.iload_n 2, 1) := by decide +kernel
theorem dX11_pairRests_34 : decode cX11_pairRests 34 = .ok (.iload 6, 2) := by decide +kernel
theorem dX11_pairRests_36 : decode cX11_pairRests 36 = .ok (.iload 4, 2) := by decide +kernel
theorem dX11_pairRests_38 : decode cX11_pairRests 38 = .ok (.invokevirtual 280, 3) := by decide +kernel
theorem dX11_pairRests_41 : decode cX11_pairRests 41 = .ok (.goto 12, 3) := by decide +kernel
theorem dX11_pairRests_44 : decode cX11_pairRests 44 = .ok (.aload_n 0, 1) := by decide +kernel
theorem dX11_pairRests_45 : decode cX11_pairRests 45 = .ok (.iload_n 1, 1) := by decide +kernel
theorem dX11_pairRests_46 : decode cX11_pairRests 46 = .ok (.iload_n 2, 1) := by decide +kernel
theorem dX11_pairRests_47 : decode cX11_pairRests 47 = .ok (.iload_n 3, 1) := by decide +kernel
theorem dX11_pairRests_48 : decode cX11_pairRests 48 = .ok (.iload 6, 2) := by decide +kernel
theorem dX11_pairRests_50 : decode cX11_pairRests 50 = .ok (.invokevirtual 280, 3) := by decide +kernel
theorem dX11_pairRests_53 : decode cX11_pairRests 53 = .ok (.istore 7, 2) := by decide +kernel
theorem dX11_pairRests_55 : decode cX11_pairRests 55 = .ok (.iload 7, 2) := by decide +kernel
theorem dX11_pairRests_57 : decode cX11_pairRests 57 = .ok (.iload 5, 2) := by decide +kernel
theorem dX11_pairRests_59 : decode cX11_pairRests 59 = .ok (.if_icmp .eq 5, 3) := by decide +kernel
theorem dX11_pairRests_62 : decode cX11_pairRests 62 = .ok (.iconst 0, 1) := by decide +kernel
theorem dX11_pairRests_63 : decode cX11_pairRests 63 = .ok (.ireturn, 1) := by decide +kernel
theorem dX11_pairRests_64 : decode cX11_pairRests 64 = .ok (.iinc 6 1, 3) := by decide +kernel
theorem dX11_pairRests_67 : decode cX11_pairRests 67 = .ok (.goto (-53), 3) := by decide +kernel
theorem dX11_pairRests_70 : decode cX11_pairRests 70 = .ok (.iconst 1, 1) := by decide +kernel
theorem dX11_pairRests_71 : decode cX11_pairRests 71 = .ok (.ireturn, 1) := by decide +kernel
theorem dX11_notesFit_0 : decode cX11_notesFit 0 = .ok (.iconst 0, 1) := by decide +kernel
theorem dX11_notesFit_1 : decode cX11_notesFit 1 = .ok (.istore 5, 2) := by decide +kernel
theorem dX11_notesFit_3 : decode cX11_notesFit 3 = .ok (.iload 5, 2) := by decide +kernel
theorem dX11_notesFit_5 : decode cX11_notesFit 5 = .ok (.aload_n 0, 1) := by decide +kernel
theorem dX11_notesFit_6 : decode cX11_notesFit 6 = .ok (.getfield 34, 3) := by decide +kernel
theorem dX11_notesFit_9 : decode cX11_notesFit 9 = .ok (.getfield 204, 3) := by decide +kernel
theorem dX11_notesFit_12 : decode cX11_notesFit 12 = .ok (.if_icmp .ge 71, 3) := by decide +kernel
theorem dX11_notesFit_15 : decode cX11_notesFit 15 = .ok (.aload_n 0, 1) := by decide +kernel
theorem dX11_notesFit_16 : decode cX11_notesFit 16 = .ok (.getfield 34, 3) := by decide +kernel
theorem dX11_notesFit_19 : decode cX11_notesFit 19 = .ok (.iload 5, 2) := by decide +kernel
theorem dX11_notesFit_21 : decode cX11_notesFit 21 = .ok (.invokevirtual 283, 3) := by decide +kernel
theorem dX11_notesFit_24 : decode cX11_notesFit 24 = .ok (.astore 6, 2) := by decide +kernel
theorem dX11_notesFit_26 : decode cX11_notesFit 26 = .ok (.aload 6, 2) := by decide +kernel
theorem dX11_notesFit_28 : decode cX11_notesFit 28 = .ok (.ifnull 49, 3) := by decide +kernel
theorem dX11_notesFit_31 : decode cX11_notesFit 31 = .ok (.aload 6, 2) := by decide +kernel
theorem dX11_notesFit_33 : decode cX11_notesFit 33 = .ok (.getfield 287, 3) := by decide +kernel
theorem dX11_notesFit_36 : decode cX11_notesFit 36 = .ok (.iload_n 1, 1) := by decide +kernel
theorem dX11_notesFit_37 : decode cX11_notesFit 37 = .ok (.if_icmp .ne 40, 3) := by decide +kernel
theorem dX11_notesFit_40 : decode cX11_notesFit 40 = .ok (.aload_n 0, 1) := by decide +kernel
theorem dX11_notesFit_41 : decode cX11_notesFit 41 = .ok (.iload_n 2, 1) := by decide +kernel
theorem dX11_notesFit_42 : decode cX11_notesFit 42 = .ok (.iload_n 3, 1) := by decide +kernel
theorem dX11_notesFit_43 : decode cX11_notesFit 43 = .ok (.iload 4, 2) := by decide +kernel
theorem dX11_notesFit_45 : decode cX11_notesFit 45 = .ok (.aload 6, 2) := by decide +kernel
theorem dX11_notesFit_47 : decode cX11_notesFit 47 = .ok (.getfield 292, 3) := by decide +kernel
theorem dX11_notesFit_50 : decode cX11_notesFit 50 = .ok (.aload 6, 2) := by decide +kernel
theorem dX11_notesFit_52 : decode cX11_notesFit 52 = .ok (.getfield 295, 3) := by decide +kernel
theorem dX11_notesFit_55 : decode cX11_notesFit 55 = .ok (.invokevirtual 276, 3) := by decide +kernel
theorem dX11_notesFit_58 : decode cX11_notesFit 58 = .ok (.aload 6, 2) := by decide +kernel
theorem dX11_notesFit_60 : decode cX11_notesFit 60 = .ok (.getfield 296, 3) := by decide +kernel
theorem dX11_notesFit_63 : decode cX11_notesFit 63 = .ok (.iconst 1, 1) := by decide +kernel
theorem dX11_notesFit_64 : decode cX11_notesFit 64 = .ok (.if_icmp .ne 7, 3) := by decide +kernel
theorem dX11_notesFit_67 : decode cX11_notesFit 67 = .ok (.iconst 1, 1) := by decide +kernel
theorem dX11_notesFit_68 : decode cX11_notesFit 68 = .ok (.goto 4, 3) := by decide +kernel
theorem dX11_notesFit_71 : decode cX11_notesFit 71 = .ok (.iconst 0, 1) := by decide +kernel
theorem dX11_notesFit_72 : decode cX11_notesFit 72 = .ok (.if_icmp .eq 5, 3) := by decide +kernel
theorem dX11_notesFit_75 : decode cX11_notesFit 75 = .ok (.iconst 0, 1) := by decide +kernel
theorem dX11_notesFit_76 : decode cX11_notesFit 76 = .ok (.ireturn, 1) := by decide +kernel
theorem dX11_notesFit_77 : decode cX11_notesFit 77 = .ok (.iinc 5 1, 3) := by decide +kernel
theorem dX11_notesFit_80 : decode cX11_notesFit 80 = .ok (.goto (-77), 3) := by decide +kernel
theorem dX11_notesFit_83 : decode cX11_notesFit 83 = .ok (.iconst 1, 1) := by decide +kernel
theorem dX11_notesFit_84 : decode cX11_notesFit 84 = .ok (.ireturn, 1) := by decide +kernel
theorem dX11_kindsThatFit_0 : decode cX11_kindsThatFit 0 = .ok (.iconst 0, 1) := by decide +kernel
theorem dX11_kindsThatFit_1 : decode cX11_kindsThatFit 1 = .ok (.istore_n 3, 1) := by decide +kernel
theorem dX11_kindsThatFit_2 : decode cX11_kindsThatFit 2 = .ok (.iconst 0, 1) := by decide +kernel
theorem dX11_kindsThatFit_3 : decode cX11_kindsThatFit 3 = .ok (.istore 4, 2) := by decide +kernel
theorem dX11_kindsThatFit_5 : decode cX11_kindsThatFit 5 = .ok (.iload 4, 2) := by decide +kernel
theorem dX11_kindsThatFit_7 : decode cX11_kindsThatFit 7 = .ok (.bipush 6, 2) := by decide +kernel
theorem dX11_kindsThatFit_9 : decode cX11_kindsThatFit 9 = .ok (.if_icmp .ge 35, 3) := by decide +kernel
theorem dX11_kindsThatFit_12 : decode cX11_kindsThatFit 12 = .ok (.aload_n 0, 1) := by decide +kernel
theorem dX11_kindsThatFit_13 : decode cX11_kindsThatFit 13 = .ok (.iload_n 1, 1) := by decide +kernel
theorem dX11_kindsThatFit_14 : decode cX11_kindsThatFit 14 = .ok (.iload 4, 2) := by decide +kernel
theorem dX11_kindsThatFit_16 : decode cX11_kindsThatFit 16 = .ok (.aload_n 2, 1) := by decide +kernel
theorem dX11_kindsThatFit_17 : decode cX11_kindsThatFit 17 = .ok (.getfield 162, 3) := by decide +kernel
theorem dX11_kindsThatFit_20 : decode cX11_kindsThatFit 20 = .ok (.aload_n 2, 1) := by decide +kernel
theorem dX11_kindsThatFit_21 : decode cX11_kindsThatFit 21 = .ok (.getfield 165, 3) := by decide +kernel
theorem dX11_kindsThatFit_24 : decode cX11_kindsThatFit 24 = .ok (.invokevirtual 214, 3) := by decide +kernel
theorem dX11_kindsThatFit_27 : decode cX11_kindsThatFit 27 = .ok (.ifCond .eq 11, 3) := by decide +kernel
theorem dX11_kindsThatFit_30 : decode cX11_kindsThatFit 30 = .ok (.iload_n 3, 1) := by decide +kernel
theorem dX11_kindsThatFit_31 : decode cX11_kindsThatFit 31 = .ok (.iload 4, 2) := by decide +kernel
theorem dX11_kindsThatFit_33 : decode cX11_kindsThatFit 33 = .ok (.invokestatic 135, 3) := by decide +kernel
theorem dX11_kindsThatFit_36 : decode cX11_kindsThatFit 36 = .ok (.ior, 1) := by decide +kernel
theorem dX11_kindsThatFit_37 : decode cX11_kindsThatFit 37 = .ok (.istore_n 3, 1) := by decide +kernel
theorem dX11_kindsThatFit_38 : decode cX11_kindsThatFit 38 = .ok (.iinc 4 1, 3) := by decide +kernel
theorem dX11_kindsThatFit_41 : decode cX11_kindsThatFit 41 = .ok (.goto (-36), 3) := by decide +kernel
theorem dX11_kindsThatFit_44 : decode cX11_kindsThatFit 44 = .ok (.iload_n 3, 1) := by decide +kernel
theorem dX11_kindsThatFit_45 : decode cX11_kindsThatFit 45 = .ok (.ireturn, 1) := by decide +kernel
theorem dX11_kindsThatStop_0 : decode cX11_kindsThatStop 0 = .ok (.iconst 0, 1) := by decide +kernel
theorem dX11_kindsThatStop_1 : decode cX11_kindsThatStop 1 = .ok (.istore_n 3, 1) := by decide +kernel
theorem dX11_kindsThatStop_2 : decode cX11_kindsThatStop 2 = .ok (.iconst 0, 1) := by decide +kernel
theorem dX11_kindsThatStop_3 : decode cX11_kindsThatStop 3 = .ok (.istore 4, 2) := by decide +kernel
theorem dX11_kindsThatStop_5 : decode cX11_kindsThatStop 5 = .ok (.iload 4, 2) := by decide +kernel
theorem dX11_kindsThatStop_7 : decode cX11_kindsThatStop 7 = .ok (.bipush 6, 2) := by decide +kernel
theorem dX11_kindsThatStop_9 : decode cX11_kindsThatStop 9 = .ok (.if_icmp .ge 45, 3) := by decide +kernel
theorem dX11_kindsThatStop_12 : decode cX11_kindsThatStop 12 = .ok (.aload_n 0, 1) := by decide +kernel
theorem dX11_kindsThatStop_13 : decode cX11_kindsThatStop 13 = .ok (.iload 4, 2) := by decide +kernel
theorem dX11_kindsThatStop_15 : decode cX11_kindsThatStop 15 = .ok (.aload_n 1, 1) := by decide +kernel
theorem dX11_kindsThatStop_16 : decode cX11_kindsThatStop 16 = .ok (.getfield 162, 3) := by decide +kernel
theorem dX11_kindsThatStop_19 : decode cX11_kindsThatStop 19 = .ok (.aload_n 1, 1) := by decide +kernel
theorem dX11_kindsThatStop_20 : decode cX11_kindsThatStop 20 = .ok (.getfield 165, 3) := by decide +kernel
theorem dX11_kindsThatStop_23 : decode cX11_kindsThatStop 23 = .ok (.iload_n 2, 1) := by decide +kernel
theorem dX11_kindsThatStop_24 : decode cX11_kindsThatStop 24 = .ok (.aload_n 0, 1) := by decide +kernel
theorem dX11_kindsThatStop_25 : decode cX11_kindsThatStop 25 = .ok (.getfield 34, 3) := by decide +kernel
theorem dX11_kindsThatStop_28 : decode cX11_kindsThatStop 28 = .ok (.getfield 108, 3) := by decide +kernel
theorem dX11_kindsThatStop_31 : decode cX11_kindsThatStop 31 = .ok (.getfield 154, 3) := by decide +kernel
theorem dX11_kindsThatStop_34 : decode cX11_kindsThatStop 34 = .ok (.invokevirtual 276, 3) := by decide +kernel
theorem dX11_kindsThatStop_37 : decode cX11_kindsThatStop 37 = .ok (.ifCond .eq 11, 3) := by decide +kernel
theorem dX11_kindsThatStop_40 : decode cX11_kindsThatStop 40 = .ok (.iload_n 3, 1) := by decide +kernel
theorem dX11_kindsThatStop_41 : decode cX11_kindsThatStop 41 = .ok (.iload 4, 2) := by decide +kernel
theorem dX11_kindsThatStop_43 : decode cX11_kindsThatStop 43 = .ok (.invokestatic 135, 3) := by decide +kernel
theorem dX11_kindsThatStop_46 : decode cX11_kindsThatStop 46 = .ok (.ior, 1) := by decide +kernel
theorem dX11_kindsThatStop_47 : decode cX11_kindsThatStop 47 = .ok (.istore_n 3, 1) := by decide +kernel
theorem dX11_kindsThatStop_48 : decode cX11_kindsThatStop 48 = .ok (.iinc 4 1, 3) := by decide +kernel
theorem dX11_kindsThatStop_51 : decode cX11_kindsThatStop 51 = .ok (.goto (-46), 3) := by decide +kernel
theorem dX11_kindsThatStop_54 : decode cX11_kindsThatStop 54 = .ok (.iload_n 3, 1) := by decide +kernel
theorem dX11_kindsThatStop_55 : decode cX11_kindsThatStop 55 = .ok (.ireturn, 1) := by decide +kernel
theorem dX11_howMany_0 : decode cX11_howMany 0 = .ok (.iload_n 1, 1) := by decide +kernel
theorem dX11_howMany_1 : decode cX11_howMany 1 = .ok (.tableswitch 117 0 6 #[43, 51, 62, 76, 90, 101, 109], 43) := by decide +kernel
theorem dX11_howMany_44 : decode cX11_howMany 44 = .ok (.aload_n 0, 1) := by decide +kernel
theorem dX11_howMany_45 : decode cX11_howMany 45 = .ok (.getfield 34, 3) := by decide +kernel
theorem dX11_howMany_48 : decode cX11_howMany 48 = .ok (.getfield 78, 3) := by decide +kernel
theorem dX11_howMany_51 : decode cX11_howMany 51 = .ok (.ireturn, 1) := by decide +kernel
theorem dX11_howMany_52 : decode cX11_howMany 52 = .ok (.aload_n 0, 1) := by decide +kernel
theorem dX11_howMany_53 : decode cX11_howMany 53 = .ok (.getfield 34, 3) := by decide +kernel
theorem dX11_howMany_56 : decode cX11_howMany 56 = .ok (.getfield 108, 3) := by decide +kernel
theorem dX11_howMany_59 : decode cX11_howMany 59 = .ok (.getfield 154, 3) := by decide +kernel
theorem dX11_howMany_62 : decode cX11_howMany 62 = .ok (.ireturn, 1) := by decide +kernel
theorem dX11_howMany_63 : decode cX11_howMany 63 = .ok (.aload_n 0, 1) := by decide +kernel
theorem dX11_howMany_64 : decode cX11_howMany 64 = .ok (.getfield 34, 3) := by decide +kernel
theorem dX11_howMany_67 : decode cX11_howMany 67 = .ok (.getfield 108, 3) := by decide +kernel
theorem dX11_howMany_70 : decode cX11_howMany 70 = .ok (.getfield 125, 3) := by decide +kernel
theorem dX11_howMany_73 : decode cX11_howMany 73 = .ok (.invokestatic 192, 3) := by decide +kernel
theorem dX11_howMany_76 : decode cX11_howMany 76 = .ok (.ireturn, 1) := by decide +kernel
theorem dX11_howMany_77 : decode cX11_howMany 77 = .ok (.aload_n 0, 1) := by decide +kernel
theorem dX11_howMany_78 : decode cX11_howMany 78 = .ok (.getfield 34, 3) := by decide +kernel
theorem dX11_howMany_81 : decode cX11_howMany 81 = .ok (.getfield 108, 3) := by decide +kernel
theorem dX11_howMany_84 : decode cX11_howMany 84 = .ok (.getfield 179, 3) := by decide +kernel
theorem dX11_howMany_87 : decode cX11_howMany 87 = .ok (.invokestatic 192, 3) := by decide +kernel
theorem dX11_howMany_90 : decode cX11_howMany 90 = .ok (.ireturn, 1) := by decide +kernel
theorem dX11_howMany_91 : decode cX11_howMany 91 = .ok (.aload_n 0, 1) := by decide +kernel
theorem dX11_howMany_92 : decode cX11_howMany 92 = .ok (.getfield 34, 3) := by decide +kernel
theorem dX11_howMany_95 : decode cX11_howMany 95 = .ok (.getfield 108, 3) := by decide +kernel
theorem dX11_howMany_98 : decode cX11_howMany 98 = .ok (.getfield 142, 3) := by decide +kernel
theorem dX11_howMany_101 : decode cX11_howMany 101 = .ok (.ireturn, 1) := by decide +kernel
theorem dX11_howMany_102 : decode cX11_howMany 102 = .ok (.aload_n 0, 1) := by decide +kernel
theorem dX11_howMany_103 : decode cX11_howMany 103 = .ok (.getfield 34, 3) := by decide +kernel
theorem dX11_howMany_106 : decode cX11_howMany 106 = .ok (.getfield 204, 3) := by decide +kernel
theorem dX11_howMany_109 : decode cX11_howMany 109 = .ok (.ireturn, 1) := by decide +kernel
theorem dX11_howMany_110 : decode cX11_howMany 110 = .ok (.aload_n 0, 1) := by decide +kernel
theorem dX11_howMany_111 : decode cX11_howMany 111 = .ok (.getfield 34, 3) := by decide +kernel
theorem dX11_howMany_114 : decode cX11_howMany 114 = .ok (.getfield 148, 3) := by decide +kernel
theorem dX11_howMany_117 : decode cX11_howMany 117 = .ok (.ireturn, 1) := by decide +kernel
theorem dX11_howMany_118 : decode cX11_howMany 118 = .ok (.aload_n 0, 1) := by decide +kernel
theorem dX11_howMany_119 : decode cX11_howMany 119 = .ok (.getfield 59, 3) := by decide +kernel
theorem dX11_howMany_122 : decode cX11_howMany 122 = .ok (.getfield 94, 3) := by decide +kernel
theorem dX11_howMany_125 : decode cX11_howMany 125 = .ok (.ireturn, 1) := by decide +kernel
theorem dX11_deputyIntoDigest_0 : decode cX11_deputyIntoDigest 0 = .ok (.aload_n 0, 1) := by decide +kernel
theorem dX11_deputyIntoDigest_1 : decode cX11_deputyIntoDigest 1 = .ok (.getfield 34, 3) := by decide +kernel
theorem dX11_deputyIntoDigest_4 : decode cX11_deputyIntoDigest 4 = .ok (.iload_n 3, 1) := by decide +kernel
theorem dX11_deputyIntoDigest_5 : decode cX11_deputyIntoDigest 5 = .ok (.invokevirtual 128, 3) := by decide +kernel
theorem dX11_deputyIntoDigest_8 : decode cX11_deputyIntoDigest 8 = .ok (.astore 4, 2) := by decide +kernel
theorem dX11_deputyIntoDigest_10 : decode cX11_deputyIntoDigest 10 = .ok (.aload 4, 2) := by decide +kernel
theorem dX11_deputyIntoDigest_12 : decode cX11_deputyIntoDigest 12 = .ok (.ifnonnull 5, 3) := by decide +kernel
theorem dX11_deputyIntoDigest_15 : decode cX11_deputyIntoDigest 15 = .ok (.lload_n 1, 1) := by decide +kernel
theorem dX11_deputyIntoDigest_16 : decode cX11_deputyIntoDigest 16 = .ok (.lreturn, 1) := by decide +kernel
theorem dX11_deputyIntoDigest_17 : decode cX11_deputyIntoDigest 17 = .ok (.ldc2_w 253, 3) := by decide +kernel
theorem dX11_deputyIntoDigest_20 : decode cX11_deputyIntoDigest 20 = .ok (.lload_n 1, 1) := by decide +kernel
theorem dX11_deputyIntoDigest_21 : decode cX11_deputyIntoDigest 21 = .ok (.lmul, 1) := by decide +kernel
theorem dX11_deputyIntoDigest_22 : decode cX11_deputyIntoDigest 22 = .ok (.aload 4, 2) := by decide +kernel
theorem dX11_deputyIntoDigest_24 : decode cX11_deputyIntoDigest 24 = .ok (.getfield 157, 3) := by decide +kernel
theorem dX11_deputyIntoDigest_27 : decode cX11_deputyIntoDigest 27 = .ok (.i2l, 1) := by decide +kernel
theorem dX11_deputyIntoDigest_28 : decode cX11_deputyIntoDigest 28 = .ok (.ladd, 1) := by decide +kernel
theorem dX11_deputyIntoDigest_29 : decode cX11_deputyIntoDigest 29 = .ok (.lstore 5, 2) := by decide +kernel
theorem dX11_deputyIntoDigest_31 : decode cX11_deputyIntoDigest 31 = .ok (.ldc2_w 253, 3) := by decide +kernel
theorem dX11_deputyIntoDigest_34 : decode cX11_deputyIntoDigest 34 = .ok (.lload 5, 2) := by decide +kernel
theorem dX11_deputyIntoDigest_36 : decode cX11_deputyIntoDigest 36 = .ok (.lmul, 1) := by decide +kernel
theorem dX11_deputyIntoDigest_37 : decode cX11_deputyIntoDigest 37 = .ok (.aload 4, 2) := by decide +kernel
theorem dX11_deputyIntoDigest_39 : decode cX11_deputyIntoDigest 39 = .ok (.getfield 162, 3) := by decide +kernel
theorem dX11_deputyIntoDigest_42 : decode cX11_deputyIntoDigest 42 = .ok (.i2l, 1) := by decide +kernel
theorem dX11_deputyIntoDigest_43 : decode cX11_deputyIntoDigest 43 = .ok (.ladd, 1) := by decide +kernel
theorem dX11_deputyIntoDigest_44 : decode cX11_deputyIntoDigest 44 = .ok (.lstore 5, 2) := by decide +kernel
theorem dX11_deputyIntoDigest_46 : decode cX11_deputyIntoDigest 46 = .ok (.ldc2_w 253, 3) := by decide +kernel
theorem dX11_deputyIntoDigest_49 : decode cX11_deputyIntoDigest 49 = .ok (.lload 5, 2) := by decide +kernel
theorem dX11_deputyIntoDigest_51 : decode cX11_deputyIntoDigest 51 = .ok (.lmul, 1) := by decide +kernel
theorem dX11_deputyIntoDigest_52 : decode cX11_deputyIntoDigest 52 = .ok (.aload 4, 2) := by decide +kernel
theorem dX11_deputyIntoDigest_54 : decode cX11_deputyIntoDigest 54 = .ok (.getfield 165, 3) := by decide +kernel
theorem dX11_deputyIntoDigest_57 : decode cX11_deputyIntoDigest 57 = .ok (.i2l, 1) := by decide +kernel
theorem dX11_deputyIntoDigest_58 : decode cX11_deputyIntoDigest 58 = .ok (.ladd, 1) := by decide +kernel
theorem dX11_deputyIntoDigest_59 : decode cX11_deputyIntoDigest 59 = .ok (.lstore 5, 2) := by decide +kernel
theorem dX11_deputyIntoDigest_61 : decode cX11_deputyIntoDigest 61 = .ok (.ldc2_w 253, 3) := by decide +kernel
theorem dX11_deputyIntoDigest_64 : decode cX11_deputyIntoDigest 64 = .ok (.lload 5, 2) := by decide +kernel
theorem dX11_deputyIntoDigest_66 : decode cX11_deputyIntoDigest 66 = .ok (.lmul, 1) := by decide +kernel
theorem dX11_deputyIntoDigest_67 : decode cX11_deputyIntoDigest 67 = .ok (.aload 4, 2) := by decide +kernel
theorem dX11_deputyIntoDigest_69 : decode cX11_deputyIntoDigest 69 = .ok (.getfield 168, 3) := by decide +kernel
theorem dX11_deputyIntoDigest_72 : decode cX11_deputyIntoDigest 72 = .ok (.i2l, 1) := by decide +kernel
theorem dX11_deputyIntoDigest_73 : decode cX11_deputyIntoDigest 73 = .ok (.ladd, 1) := by decide +kernel
theorem dX11_deputyIntoDigest_74 : decode cX11_deputyIntoDigest 74 = .ok (.lstore 5, 2) := by decide +kernel
theorem dX11_deputyIntoDigest_76 : decode cX11_deputyIntoDigest 76 = .ok (.ldc2_w 253, 3) := by decide +kernel
theorem dX11_deputyIntoDigest_79 : decode cX11_deputyIntoDigest 79 = .ok (.lload 5, 2) := by decide +kernel
theorem dX11_deputyIntoDigest_81 : decode cX11_deputyIntoDigest 81 = .ok (.lmul, 1) := by decide +kernel
theorem dX11_deputyIntoDigest_82 : decode cX11_deputyIntoDigest 82 = .ok (.aload_n 0, 1) := by decide +kernel
theorem dX11_deputyIntoDigest_83 : decode cX11_deputyIntoDigest 83 = .ok (.getfield 34, 3) := by decide +kernel
theorem dX11_deputyIntoDigest_86 : decode cX11_deputyIntoDigest 86 = .ok (.getfield 108, 3) := by decide +kernel
theorem dX11_deputyIntoDigest_89 : decode cX11_deputyIntoDigest 89 = .ok (.getfield 132, 3) := by decide +kernel
theorem dX11_deputyIntoDigest_92 : decode cX11_deputyIntoDigest 92 = .ok (.iload_n 3, 1) := by decide +kernel
theorem dX11_deputyIntoDigest_93 : decode cX11_deputyIntoDigest 93 = .ok (.invokestatic 135, 3) := by decide +kernel
theorem dX11_deputyIntoDigest_96 : decode cX11_deputyIntoDigest 96 = .ok (.iand, 1) := by decide +kernel
theorem dX11_deputyIntoDigest_97 : decode cX11_deputyIntoDigest 97 = .ok (.ifCond .eq 7, 3) := by decide +kernel
theorem dX11_deputyIntoDigest_100 : decode cX11_deputyIntoDigest 100 = .ok (.iconst 1, 1) := by decide +kernel
theorem dX11_deputyIntoDigest_101 : decode cX11_deputyIntoDigest 101 = .ok (.goto 4, 3) := by decide +kernel
theorem dX11_deputyIntoDigest_104 : decode cX11_deputyIntoDigest 104 = .ok (.iconst 0, 1) := by decide +kernel
theorem dX11_deputyIntoDigest_105 : decode cX11_deputyIntoDigest 105 = .ok (.invokestatic 171, 3) := by decide +kernel
theorem dX11_deputyIntoDigest_108 : decode cX11_deputyIntoDigest 108 = .ok (.i2l, 1) := by decide +kernel
theorem dX11_deputyIntoDigest_109 : decode cX11_deputyIntoDigest 109 = .ok (.ladd, 1) := by decide +kernel
theorem dX11_deputyIntoDigest_110 : decode cX11_deputyIntoDigest 110 = .ok (.lstore 5, 2) := by decide +kernel
theorem dX11_deputyIntoDigest_112 : decode cX11_deputyIntoDigest 112 = .ok (.ldc2_w 253, 3) := by decide +kernel
theorem dX11_deputyIntoDigest_115 : decode cX11_deputyIntoDigest 115 = .ok (.lload 5, 2) := by decide +kernel
theorem dX11_deputyIntoDigest_117 : decode cX11_deputyIntoDigest 117 = .ok (.lmul, 1) := by decide +kernel
theorem dX11_deputyIntoDigest_118 : decode cX11_deputyIntoDigest 118 = .ok (.aload_n 0, 1) := by decide +kernel
theorem dX11_deputyIntoDigest_119 : decode cX11_deputyIntoDigest 119 = .ok (.getfield 34, 3) := by decide +kernel
theorem dX11_deputyIntoDigest_122 : decode cX11_deputyIntoDigest 122 = .ok (.getfield 108, 3) := by decide +kernel
theorem dX11_deputyIntoDigest_125 : decode cX11_deputyIntoDigest 125 = .ok (.getfield 145, 3) := by decide +kernel
theorem dX11_deputyIntoDigest_128 : decode cX11_deputyIntoDigest 128 = .ok (.iload_n 3, 1) := by decide +kernel
theorem dX11_deputyIntoDigest_129 : decode cX11_deputyIntoDigest 129 = .ok (.invokestatic 135, 3) := by decide +kernel
theorem dX11_deputyIntoDigest_132 : decode cX11_deputyIntoDigest 132 = .ok (.iand, 1) := by decide +kernel
theorem dX11_deputyIntoDigest_133 : decode cX11_deputyIntoDigest 133 = .ok (.ifCond .eq 7, 3) := by decide +kernel
theorem dX11_deputyIntoDigest_136 : decode cX11_deputyIntoDigest 136 = .ok (.iconst 1, 1) := by decide +kernel
theorem dX11_deputyIntoDigest_137 : decode cX11_deputyIntoDigest 137 = .ok (.goto 4, 3) := by decide +kernel
theorem dX11_deputyIntoDigest_140 : decode cX11_deputyIntoDigest 140 = .ok (.iconst 0, 1) := by decide +kernel
theorem dX11_deputyIntoDigest_141 : decode cX11_deputyIntoDigest 141 = .ok (.invokestatic 171, 3) := by decide +kernel
theorem dX11_deputyIntoDigest_144 : decode cX11_deputyIntoDigest 144 = .ok (.i2l, 1) := by decide +kernel
theorem dX11_deputyIntoDigest_145 : decode cX11_deputyIntoDigest 145 = .ok (.ladd, 1) := by decide +kernel
theorem dX11_deputyIntoDigest_146 : decode cX11_deputyIntoDigest 146 = .ok (.lreturn, 1) := by decide +kernel
theorem dX11_noteIntoDigest_0 : decode cX11_noteIntoDigest 0 = .ok (.aload_n 0, 1) := by decide +kernel
theorem dX11_noteIntoDigest_1 : decode cX11_noteIntoDigest 1 = .ok (.getfield 34, 3) := by decide +kernel
theorem dX11_noteIntoDigest_4 : decode cX11_noteIntoDigest 4 = .ok (.iload_n 3, 1) := by decide +kernel
theorem dX11_noteIntoDigest_5 : decode cX11_noteIntoDigest 5 = .ok (.invokevirtual 283, 3) := by decide +kernel
theorem dX11_noteIntoDigest_8 : decode cX11_noteIntoDigest 8 = .ok (.astore 4, 2) := by decide +kernel
theorem dX11_noteIntoDigest_10 : decode cX11_noteIntoDigest 10 = .ok (.aload 4, 2) := by decide +kernel
theorem dX11_noteIntoDigest_12 : decode cX11_noteIntoDigest 12 = .ok (.ifnonnull 5, 3) := by decide +kernel
theorem dX11_noteIntoDigest_15 : decode cX11_noteIntoDigest 15 = .ok (.lload_n 1, 1) := by decide +kernel
theorem dX11_noteIntoDigest_16 : decode cX11_noteIntoDigest 16 = .ok (.lreturn, 1) := by decide +kernel
theorem dX11_noteIntoDigest_17 : decode cX11_noteIntoDigest 17 = .ok (.ldc2_w 253, 3) := by decide +kernel
theorem dX11_noteIntoDigest_20 : decode cX11_noteIntoDigest 20 = .ok (.lload_n 1, 1) := by decide +kernel
theorem dX11_noteIntoDigest_21 : decode cX11_noteIntoDigest 21 = .ok (.lmul, 1) := by decide +kernel
theorem dX11_noteIntoDigest_22 : decode cX11_noteIntoDigest 22 = .ok (.aload 4, 2) := by decide +kernel
theorem dX11_noteIntoDigest_24 : decode cX11_noteIntoDigest 24 = .ok (.getfield 287, 3) := by decide +kernel
theorem dX11_noteIntoDigest_27 : decode cX11_noteIntoDigest 27 = .ok (.i2l, 1) := by decide +kernel
theorem dX11_noteIntoDigest_28 : decode cX11_noteIntoDigest 28 = .ok (.ladd, 1) := by decide +kernel
theorem dX11_noteIntoDigest_29 : decode cX11_noteIntoDigest 29 = .ok (.lstore 5, 2) := by decide +kernel
theorem dX11_noteIntoDigest_31 : decode cX11_noteIntoDigest 31 = .ok (.ldc2_w 253, 3) := by decide +kernel
theorem dX11_noteIntoDigest_34 : decode cX11_noteIntoDigest 34 = .ok (.lload 5, 2) := by decide +kernel
theorem dX11_noteIntoDigest_36 : decode cX11_noteIntoDigest 36 = .ok (.lmul, 1) := by decide +kernel
theorem dX11_noteIntoDigest_37 : decode cX11_noteIntoDigest 37 = .ok (.aload 4, 2) := by decide +kernel
theorem dX11_noteIntoDigest_39 : decode cX11_noteIntoDigest 39 = .ok (.getfield 292, 3) := by decide +kernel
theorem dX11_noteIntoDigest_42 : decode cX11_noteIntoDigest 42 = .ok (.i2l, 1) := by decide +kernel
theorem dX11_noteIntoDigest_43 : decode cX11_noteIntoDigest 43 = .ok (.ladd, 1) := by decide +kernel
theorem dX11_noteIntoDigest_44 : decode cX11_noteIntoDigest 44 = .ok (.lstore 5, 2) := by decide +kernel
theorem dX11_noteIntoDigest_46 : decode cX11_noteIntoDigest 46 = .ok (.ldc2_w 253, 3) := by decide +kernel
theorem dX11_noteIntoDigest_49 : decode cX11_noteIntoDigest 49 = .ok (.lload 5, 2) := by decide +kernel
theorem dX11_noteIntoDigest_51 : decode cX11_noteIntoDigest 51 = .ok (.lmul, 1) := by decide +kernel
theorem dX11_noteIntoDigest_52 : decode cX11_noteIntoDigest 52 = .ok (.aload 4, 2) := by decide +kernel
theorem dX11_noteIntoDigest_54 : decode cX11_noteIntoDigest 54 = .ok (.getfield 295, 3) := by decide +kernel
theorem dX11_noteIntoDigest_57 : decode cX11_noteIntoDigest 57 = .ok (.i2l, 1) := by decide +kernel
theorem dX11_noteIntoDigest_58 : decode cX11_noteIntoDigest 58 = .ok (.ladd, 1) := by decide +kernel
theorem dX11_noteIntoDigest_59 : decode cX11_noteIntoDigest 59 = .ok (.lstore 5, 2) := by decide +kernel
theorem dX11_noteIntoDigest_61 : decode cX11_noteIntoDigest 61 = .ok (.ldc2_w 253, 3) := by decide +kernel
theorem dX11_noteIntoDigest_64 : decode cX11_noteIntoDigest 64 = .ok (.lload 5, 2) := by decide +kernel
theorem dX11_noteIntoDigest_66 : decode cX11_noteIntoDigest 66 = .ok (.lmul, 1) := by decide +kernel
theorem dX11_noteIntoDigest_67 : decode cX11_noteIntoDigest 67 = .ok (.aload 4, 2) := by decide +kernel
theorem dX11_noteIntoDigest_69 : decode cX11_noteIntoDigest 69 = .ok (.getfield 296, 3) := by decide +kernel
theorem dX11_noteIntoDigest_72 : decode cX11_noteIntoDigest 72 = .ok (.i2l, 1) := by decide +kernel
theorem dX11_noteIntoDigest_73 : decode cX11_noteIntoDigest 73 = .ok (.ladd, 1) := by decide +kernel
theorem dX11_noteIntoDigest_74 : decode cX11_noteIntoDigest 74 = .ok (.lreturn, 1) := by decide +kernel
end
section
abbrev mX11_within : zM := (yX11_within, cX11_within, 2, (some .boolean), { frames := 0, cells := 0, slots := 0, locals := 0 })
set_option maxRecDepth 100000 in
set_option maxHeartbeats 4000000 in
theorem c_X11_within (l : Launch) (B : zB) (s : zS) (t : zL) (a b : Int32) : zD l B mX11_within s t [.int a, .int b] (some (.int (zi (wIn a b)))) s t := by
  refine z_met (by decide) (Nat.le_of_ble_eq_true rfl) ?_
  intro X hl C E hnm
  show Zf X B mX11_within s t 0 [(0, .int a), (1, .int b)] []
  refine z_iload_n C dX11_within_0 0 rfl rfl ?_
  refine z_if_lt C 13 dX11_within_1 (by decide) (fun h1 => ?_) (fun h1 => ?_)
  · refine z_iconst C dX11_within_13 ki_0 ?_
    refine z_zret C E rfl dX11_within_14 rfl rfl (Nat.le_refl _) ⟨by congr 2; simp [wIn, zi, *], rfl⟩
  · refine z_iload_n C dX11_within_4 0 rfl rfl ?_
    refine z_iload_n C dX11_within_5 1 rfl rfl ?_
    refine z_icmp_gt C 13 dX11_within_6 (by decide) (fun h6 => ?_) (fun h6 => ?_)
    · refine z_iconst C dX11_within_13 ki_0 ?_
      refine z_zret C E rfl dX11_within_14 rfl rfl (Nat.le_refl _) ⟨by congr 2; simp [wIn, zi, *], rfl⟩
    · refine z_iconst C dX11_within_9 ki_1 ?_
      refine z_goto C 14 dX11_within_10 (by decide) ?_
      refine z_zret C E rfl dX11_within_14 rfl rfl (Nat.le_refl _) ⟨by congr 2; simp [wIn, zi, *], rfl⟩
abbrev mX11_isBundle : zM := (yX11_isBundle, cX11_isBundle, 1, (some .boolean), { frames := 1, cells := 0, slots := 0, locals := 21 })
set_option maxRecDepth 100000 in
set_option maxHeartbeats 4000000 in
theorem c_X11_isBundle (l : Launch) (B : zB) (s : zS) (t : zL) (a : Int32) : zD l B mX11_isBundle s t [.int a] (some (.int (zi (wIn a 255)))) s t := by
  refine z_met (by decide) (Nat.le_of_ble_eq_true rfl) ?_
  intro X hl C E hnm
  show Zf X B mX11_isBundle s t 0 [(0, .int a)] []
  refine z_iload_n C dX11_isBundle_0 0 rfl rfl ?_
  refine z_sipush C dX11_isBundle_1 ks_255 ?_
  refine f_callSr C hl (As := [.int a, .int 255]) (rest := []) (c_X11_within l B s t a 255) (zCB (nA := 2) C rfl rfl tw_268 tw_1 tw_266 (by decide +kernel) ⟨Nat.le_of_ble_eq_true rfl, Nat.le_of_ble_eq_true rfl⟩) tw_267 rfl rfl (Nat.le_of_ble_eq_true rfl) dX11_isBundle_4 (Nat.zero_le _) ?_
  refine z_zret C E rfl dX11_isBundle_7 (zi_nar _) rfl (Nat.le_refl _) ⟨rfl, rfl⟩
abbrev mX11_oneIf : zM := (yX11_oneIf, cX11_oneIf, 1, (some .int), { frames := 0, cells := 0, slots := 0, locals := 0 })
set_option maxRecDepth 100000 in
set_option maxHeartbeats 4000000 in
theorem c_X11_oneIf (l : Launch) (B : zB) (s : zS) (t : zL) (b : Bool) : zD l B mX11_oneIf s t [.int (zi b)] (some (.int (zi b))) s t := by
  refine z_met (by decide) (Nat.le_of_ble_eq_true rfl) ?_
  intro X hl C E hnm
  show Zf X B mX11_oneIf s t 0 [(0, .int (zi b))] []
  refine z_iload_n C dX11_oneIf_0 0 rfl rfl ?_
  refine z_ifb_eq C 8 dX11_oneIf_1 (by decide) (fun h1 => ?_) (fun h1 => ?_)
  · refine z_iconst C dX11_oneIf_8 ki_0 ?_
    refine z_iret C E rfl dX11_oneIf_9 rfl (Nat.le_refl _) ⟨by simp [zi, *], rfl⟩
  · refine z_iconst C dX11_oneIf_4 ki_1 ?_
    refine z_goto C 9 dX11_oneIf_5 (by decide) ?_
    refine z_iret C E rfl dX11_oneIf_9 rfl (Nat.le_refl _) ⟨by simp [zi, *], rfl⟩
abbrev mX11_bitOf : zM := (yX11_bitOf, cX11_bitOf, 1, (some .int), { frames := 0, cells := 0, slots := 0, locals := 0 })
set_option maxRecDepth 100000 in
set_option maxHeartbeats 4000000 in
theorem c_X11_bitOf (l : Launch) (B : zB) (s : zS) (t : zL) (a : Int32) : zD l B mX11_bitOf s t [.int a] (some (.int (wBit a))) s t := by
  refine z_met (by decide) (Nat.le_of_ble_eq_true rfl) ?_
  intro X hl C E hnm
  show Zf X B mX11_bitOf s t 0 [(0, .int a)] []
  refine z_iload_n C dX11_bitOf_0 0 rfl rfl ?_
  refine z_if_ge C 8 dX11_bitOf_1 (by decide) (fun h1 => ?_) (fun h1 => ?_)
  · refine z_iconst C dX11_bitOf_8 ki_1 ?_
    refine z_iload_n C dX11_bitOf_9 0 rfl rfl ?_
    refine z_ishl C dX11_bitOf_10 ?_
    refine z_iret C E rfl dX11_bitOf_11 rfl (Nat.le_refl _) ⟨by congr 2; first | (rw [wBit, if_pos (by first | assumption | (apply Int32.not_le.mp; assumption))]) | (rw [wBit, if_neg (by first | assumption | (apply Int32.not_lt.mpr; assumption))]), rfl⟩
  · refine z_iconst C dX11_bitOf_4 ki_0 ?_
    refine z_goto C 11 dX11_bitOf_5 (by decide) ?_
    refine z_iret C E rfl dX11_bitOf_11 rfl (Nat.le_refl _) ⟨by congr 2; first | (rw [wBit, if_pos (by first | assumption | (apply Int32.not_le.mp; assumption))]) | (rw [wBit, if_neg (by first | assumption | (apply Int32.not_lt.mpr; assumption))]), rfl⟩
abbrev mX11_refuse : zM := (yX11_refuse, cX11_refuse, 2, (some .int), { frames := 0, cells := 0, slots := 0, locals := 0 })
set_option maxRecDepth 100000 in
set_option maxHeartbeats 4000000 in
theorem c_X11_refuse2 (l : Launch) (B : zB) (s : zS) (t : zL)  : zD l B mX11_refuse s t [.ref (B.1 + 0), .int (-2)] (some (.int (-2))) (zu s 0 9 (s 0 9 + 1)) t := by
  refine z_met (by decide) (Nat.le_of_ble_eq_true rfl) ?_
  intro X hl C E hnm
  show Zf X B mX11_refuse s t 0 [(0, .ref (B.1 + 0)), (1, .int (-2))] []
  refine z_iload_n C dX11_refuse_0 1 rfl rfl ?_
  refine z_lookup C (off := 27) 28 dX11_refuse_1 (by decide) (by decide) (by decide) ?_
  refine z_aload_n C dX11_refuse_28 0 rfl rfl ?_
  refine z_dup C dX11_refuse_29 rfl ?_
  refine f_get11 C 9 (v := .int (s 0 9)) (by decide) tw_234 rfl zk_0 zb_0 rfl dX11_refuse_30 ?_
  refine z_iconst C dX11_refuse_33 ki_1 ?_
  refine z_iadd C dX11_refuse_34 ?_
  refine f_put11_9 C tw_234 zk_0 zb_0 dX11_refuse_35 ?_
  refine z_goto C 64 dX11_refuse_38 (by decide) ?_
  refine z_iload_n C dX11_refuse_64 1 rfl rfl ?_
  refine z_iret C E rfl dX11_refuse_65 rfl (Nat.le_refl _) ⟨rfl, rfl⟩
set_option maxRecDepth 100000 in
set_option maxHeartbeats 4000000 in
theorem c_X11_refuse3 (l : Launch) (B : zB) (s : zS) (t : zL)  : zD l B mX11_refuse s t [.ref (B.1 + 0), .int (-3)] (some (.int (-3))) (zu s 0 10 (s 0 10 + 1)) t := by
  refine z_met (by decide) (Nat.le_of_ble_eq_true rfl) ?_
  intro X hl C E hnm
  show Zf X B mX11_refuse s t 0 [(0, .ref (B.1 + 0)), (1, .int (-3))] []
  refine z_iload_n C dX11_refuse_0 1 rfl rfl ?_
  refine z_lookup C (off := 40) 41 dX11_refuse_1 (by decide) (by decide) (by decide) ?_
  refine z_aload_n C dX11_refuse_41 0 rfl rfl ?_
  refine z_dup C dX11_refuse_42 rfl ?_
  refine f_get11 C 10 (v := .int (s 0 10)) (by decide) tw_235 rfl zk_0 zb_0 rfl dX11_refuse_43 ?_
  refine z_iconst C dX11_refuse_46 ki_1 ?_
  refine z_iadd C dX11_refuse_47 ?_
  refine f_put11_10 C tw_235 zk_0 zb_0 dX11_refuse_48 ?_
  refine z_goto C 64 dX11_refuse_51 (by decide) ?_
  refine z_iload_n C dX11_refuse_64 1 rfl rfl ?_
  refine z_iret C E rfl dX11_refuse_65 rfl (Nat.le_refl _) ⟨rfl, rfl⟩
set_option maxRecDepth 100000 in
set_option maxHeartbeats 4000000 in
theorem c_X11_refuse4 (l : Launch) (B : zB) (s : zS) (t : zL)  : zD l B mX11_refuse s t [.ref (B.1 + 0), .int (-4)] (some (.int (-4))) (zu s 0 11 (s 0 11 + 1)) t := by
  refine z_met (by decide) (Nat.le_of_ble_eq_true rfl) ?_
  intro X hl C E hnm
  show Zf X B mX11_refuse s t 0 [(0, .ref (B.1 + 0)), (1, .int (-4))] []
  refine z_iload_n C dX11_refuse_0 1 rfl rfl ?_
  refine z_lookup C (off := 53) 54 dX11_refuse_1 (by decide) (by decide) (by decide) ?_
  refine z_aload_n C dX11_refuse_54 0 rfl rfl ?_
  refine z_dup C dX11_refuse_55 rfl ?_
  refine f_get11 C 11 (v := .int (s 0 11)) (by decide) tw_236 rfl zk_0 zb_0 rfl dX11_refuse_56 ?_
  refine z_iconst C dX11_refuse_59 ki_1 ?_
  refine z_iadd C dX11_refuse_60 ?_
  refine f_put11_11 C tw_236 zk_0 zb_0 dX11_refuse_61 ?_
  refine z_iload_n C dX11_refuse_64 1 rfl rfl ?_
  refine z_iret C E rfl dX11_refuse_65 rfl (Nat.le_refl _) ⟨rfl, rfl⟩
end
section
theorem zk_dep : ∀ d, d < 6 → zk (11 + d) = 0 := by decide
theorem zk_not : ∀ d, d < 6 → zk (18 + d) = 4 := by decide
theorem zk_pst : ∀ d, d < 8 → zk (25 + d) = 8 := by decide
theorem zk_dep2 : ∀ d, d < 6 → zk (36 + d) = 0 := by decide
theorem ix_at {x : Int32} {d n k r : Nat} (hx : x = nI d) (hd : d < n) (hn : n < 2 ^ 31) (hr : k + 1 + d = r) : k + 1 + x.toNatClampNeg = r := by rw [hx, nI_clamp (by omega)]; exact hr
theorem ix_in {x : Int32} {d n : Nat} (hx : x = nI d) (hd : d < n) (hn : n < 2 ^ 31) : vp_in x n := by rw [hx]; exact vp_in_nI hd hn
abbrev mX1_deputyAt : zM := (yX1_deputyAt, cX1_deputyAt, 2, (some (.object "VetoHouse$Deputy")), { frames := 0, cells := 0, slots := 0, locals := 0 })
set_option maxRecDepth 100000 in
set_option maxHeartbeats 4000000 in
theorem c_X1_deputyAt8s (l : Launch) (B : zB) (s : zS) (t : zL) (d : Nat) (hd : d < 6) (x : Int32) (hx : x = nI d) (hc : x < s 8 4) : zD l B mX1_deputyAt s t [.ref (B.1 + 8), .int x] (some (.ref (B.1 + (11 + d)))) s t := by
  refine z_met (by decide) (Nat.le_of_ble_eq_true rfl) ?_
  intro X hl C E hnm
  show Zf X B mX1_deputyAt s t 0 [(0, .ref (B.1 + 8)), (1, .int x)] []
  refine z_iload_n C dX1_deputyAt_0 1 rfl rfl ?_
  refine z_if_lt C 30 dX1_deputyAt_1 (by decide) (fun hbr => absurd hbr (by rw [hx]; exact nI_pos (by omega))) (fun _ => ?_)
  refine z_iload_n C dX1_deputyAt_4 1 rfl rfl ?_
  refine z_aload_n C dX1_deputyAt_5 0 rfl rfl ?_
  refine f_get1 C 4 (v := .int (s 8 4)) (by decide) tw_172 rfl zk_8 zb_8 rfl dX1_deputyAt_6 ?_
  refine z_icmp_ge C 30 dX1_deputyAt_9 (by decide) (fun hbr => absurd hbr (Int32.not_le.mpr hc)) (fun _ => ?_)
  refine z_iload_n C dX1_deputyAt_12 1 rfl rfl ?_
  refine z_aload_n C dX1_deputyAt_13 0 rfl rfl ?_
  refine f_get1 C 1 (v := .ref (B.1 + 10)) (by decide) tw_169 rfl zk_8 zb_8 rfl dX1_deputyAt_14 ?_
  refine f_alen23 C (v := 6) zk_10 zb_10 rfl dX1_deputyAt_17 ?_
  refine z_icmp_ge C 30 dX1_deputyAt_18 (by decide) (fun hbr => absurd hbr (by rw [hx]; exact fun q => nI_ge hd (by decide) q)) (fun _ => ?_)
  refine z_aload_n C dX1_deputyAt_21 0 rfl rfl ?_
  refine f_get1 C 1 (v := .ref (B.1 + 10)) (by decide) tw_169 rfl zk_8 zb_8 rfl dX1_deputyAt_22 ?_
  refine z_iload_n C dX1_deputyAt_25 1 rfl rfl ?_
  refine f_aaldL23 C zk_10 zb_10 (ix_in hx hd (by decide)) (r := (11 + d)) (ix_at hx hd (by decide) (by omega)) dX1_deputyAt_26 ?_
  refine z_goto C 31 dX1_deputyAt_27 (by decide) ?_
  refine z_aret C E rfl dX1_deputyAt_31 (Or.inr ⟨_, rfl⟩) rfl (Nat.le_refl _) ⟨rfl, rfl⟩
set_option maxRecDepth 100000 in
set_option maxHeartbeats 4000000 in
theorem c_X1_deputyAt8n (l : Launch) (B : zB) (s : zS) (t : zL) (x : Int32) (hx : x < 0 ∨ s 8 4 ≤ x) : zD l B mX1_deputyAt s t [.ref (B.1 + 8), .int x] (some (.null)) s t := by
  refine z_met (by decide) (Nat.le_of_ble_eq_true rfl) ?_
  intro X hl C E hnm
  show Zf X B mX1_deputyAt s t 0 [(0, .ref (B.1 + 8)), (1, .int x)] []
  refine z_iload_n C dX1_deputyAt_0 1 rfl rfl ?_
  refine z_if_lt C 30 dX1_deputyAt_1 (by decide) (fun h1 => ?_) (fun h1 => ?_)
  · refine z_null C dX1_deputyAt_30 ?_
    refine z_aret C E rfl dX1_deputyAt_31 (Or.inl rfl) rfl (Nat.le_refl _) ⟨rfl, rfl⟩
  · refine z_iload_n C dX1_deputyAt_4 1 rfl rfl ?_
    refine z_aload_n C dX1_deputyAt_5 0 rfl rfl ?_
    refine f_get1 C 4 (v := .int (s 8 4)) (by decide) tw_172 rfl zk_8 zb_8 rfl dX1_deputyAt_6 ?_
    refine z_icmp_ge C 30 dX1_deputyAt_9 (by decide) (fun _ => ?_) (fun hbr => absurd (hx.resolve_left h1) hbr)
    refine z_null C dX1_deputyAt_30 ?_
    refine z_aret C E rfl dX1_deputyAt_31 (Or.inl rfl) rfl (Nat.le_refl _) ⟨rfl, rfl⟩
set_option maxRecDepth 100000 in
set_option maxHeartbeats 4000000 in
theorem c_X1_deputyAt33s (l : Launch) (B : zB) (s : zS) (t : zL) (d : Nat) (hd : d < 6) (x : Int32) (hx : x = nI d) (hc : x < s 33 4) : zD l B mX1_deputyAt s t [.ref (B.1 + 33), .int x] (some (.ref (B.1 + (36 + d)))) s t := by
  refine z_met (by decide) (Nat.le_of_ble_eq_true rfl) ?_
  intro X hl C E hnm
  show Zf X B mX1_deputyAt s t 0 [(0, .ref (B.1 + 33)), (1, .int x)] []
  refine z_iload_n C dX1_deputyAt_0 1 rfl rfl ?_
  refine z_if_lt C 30 dX1_deputyAt_1 (by decide) (fun hbr => absurd hbr (by rw [hx]; exact nI_pos (by omega))) (fun _ => ?_)
  refine z_iload_n C dX1_deputyAt_4 1 rfl rfl ?_
  refine z_aload_n C dX1_deputyAt_5 0 rfl rfl ?_
  refine f_get1 C 4 (v := .int (s 33 4)) (by decide) tw_172 rfl zk_33 zb_33 rfl dX1_deputyAt_6 ?_
  refine z_icmp_ge C 30 dX1_deputyAt_9 (by decide) (fun hbr => absurd hbr (Int32.not_le.mpr hc)) (fun _ => ?_)
  refine z_iload_n C dX1_deputyAt_12 1 rfl rfl ?_
  refine z_aload_n C dX1_deputyAt_13 0 rfl rfl ?_
  refine f_get1 C 1 (v := .ref (B.1 + 35)) (by decide) tw_169 rfl zk_33 zb_33 rfl dX1_deputyAt_14 ?_
  refine f_alen23 C (v := 6) zk_35 zb_35 rfl dX1_deputyAt_17 ?_
  refine z_icmp_ge C 30 dX1_deputyAt_18 (by decide) (fun hbr => absurd hbr (by rw [hx]; exact fun q => nI_ge hd (by decide) q)) (fun _ => ?_)
  refine z_aload_n C dX1_deputyAt_21 0 rfl rfl ?_
  refine f_get1 C 1 (v := .ref (B.1 + 35)) (by decide) tw_169 rfl zk_33 zb_33 rfl dX1_deputyAt_22 ?_
  refine z_iload_n C dX1_deputyAt_25 1 rfl rfl ?_
  refine f_aaldL23 C zk_35 zb_35 (ix_in hx hd (by decide)) (r := (36 + d)) (ix_at hx hd (by decide) (by omega)) dX1_deputyAt_26 ?_
  refine z_goto C 31 dX1_deputyAt_27 (by decide) ?_
  refine z_aret C E rfl dX1_deputyAt_31 (Or.inr ⟨_, rfl⟩) rfl (Nat.le_refl _) ⟨rfl, rfl⟩
set_option maxRecDepth 100000 in
set_option maxHeartbeats 4000000 in
theorem c_X1_deputyAt33n (l : Launch) (B : zB) (s : zS) (t : zL) (x : Int32) (hx : x < 0 ∨ s 33 4 ≤ x) : zD l B mX1_deputyAt s t [.ref (B.1 + 33), .int x] (some (.null)) s t := by
  refine z_met (by decide) (Nat.le_of_ble_eq_true rfl) ?_
  intro X hl C E hnm
  show Zf X B mX1_deputyAt s t 0 [(0, .ref (B.1 + 33)), (1, .int x)] []
  refine z_iload_n C dX1_deputyAt_0 1 rfl rfl ?_
  refine z_if_lt C 30 dX1_deputyAt_1 (by decide) (fun h1 => ?_) (fun h1 => ?_)
  · refine z_null C dX1_deputyAt_30 ?_
    refine z_aret C E rfl dX1_deputyAt_31 (Or.inl rfl) rfl (Nat.le_refl _) ⟨rfl, rfl⟩
  · refine z_iload_n C dX1_deputyAt_4 1 rfl rfl ?_
    refine z_aload_n C dX1_deputyAt_5 0 rfl rfl ?_
    refine f_get1 C 4 (v := .int (s 33 4)) (by decide) tw_172 rfl zk_33 zb_33 rfl dX1_deputyAt_6 ?_
    refine z_icmp_ge C 30 dX1_deputyAt_9 (by decide) (fun _ => ?_) (fun hbr => absurd (hx.resolve_left h1) hbr)
    refine z_null C dX1_deputyAt_30 ?_
    refine z_aret C E rfl dX1_deputyAt_31 (Or.inl rfl) rfl (Nat.le_refl _) ⟨rfl, rfl⟩
abbrev mX1_noteAt : zM := (yX1_noteAt, cX1_noteAt, 2, (some (.object "VetoHouse$Note")), { frames := 0, cells := 0, slots := 0, locals := 0 })
set_option maxRecDepth 100000 in
set_option maxHeartbeats 4000000 in
theorem c_X1_noteAt8s (l : Launch) (B : zB) (s : zS) (t : zL) (d : Nat) (hd : d < 6) (x : Int32) (hx : x = nI d) (hc : x < s 8 5) : zD l B mX1_noteAt s t [.ref (B.1 + 8), .int x] (some (.ref (B.1 + (18 + d)))) s t := by
  refine z_met (by decide) (Nat.le_of_ble_eq_true rfl) ?_
  intro X hl C E hnm
  show Zf X B mX1_noteAt s t 0 [(0, .ref (B.1 + 8)), (1, .int x)] []
  refine z_iload_n C dX1_noteAt_0 1 rfl rfl ?_
  refine z_if_lt C 30 dX1_noteAt_1 (by decide) (fun hbr => absurd hbr (by rw [hx]; exact nI_pos (by omega))) (fun _ => ?_)
  refine z_iload_n C dX1_noteAt_4 1 rfl rfl ?_
  refine z_aload_n C dX1_noteAt_5 0 rfl rfl ?_
  refine f_get1 C 5 (v := .int (s 8 5)) (by decide) tw_174 rfl zk_8 zb_8 rfl dX1_noteAt_6 ?_
  refine z_icmp_ge C 30 dX1_noteAt_9 (by decide) (fun hbr => absurd hbr (Int32.not_le.mpr hc)) (fun _ => ?_)
  refine z_iload_n C dX1_noteAt_12 1 rfl rfl ?_
  refine z_aload_n C dX1_noteAt_13 0 rfl rfl ?_
  refine f_get1 C 2 (v := .ref (B.1 + 17)) (by decide) tw_170 rfl zk_8 zb_8 rfl dX1_noteAt_14 ?_
  refine f_alen25 C (v := 6) zk_17 zb_17 rfl dX1_noteAt_17 ?_
  refine z_icmp_ge C 30 dX1_noteAt_18 (by decide) (fun hbr => absurd hbr (by rw [hx]; exact fun q => nI_ge hd (by decide) q)) (fun _ => ?_)
  refine z_aload_n C dX1_noteAt_21 0 rfl rfl ?_
  refine f_get1 C 2 (v := .ref (B.1 + 17)) (by decide) tw_170 rfl zk_8 zb_8 rfl dX1_noteAt_22 ?_
  refine z_iload_n C dX1_noteAt_25 1 rfl rfl ?_
  refine f_aaldL25 C zk_17 zb_17 (ix_in hx hd (by decide)) (r := (18 + d)) (ix_at hx hd (by decide) (by omega)) dX1_noteAt_26 ?_
  refine z_goto C 31 dX1_noteAt_27 (by decide) ?_
  refine z_aret C E rfl dX1_noteAt_31 (Or.inr ⟨_, rfl⟩) rfl (Nat.le_refl _) ⟨rfl, rfl⟩
set_option maxRecDepth 100000 in
set_option maxHeartbeats 4000000 in
theorem c_X1_noteAt8n (l : Launch) (B : zB) (s : zS) (t : zL) (x : Int32) (hx : x < 0 ∨ s 8 5 ≤ x) : zD l B mX1_noteAt s t [.ref (B.1 + 8), .int x] (some (.null)) s t := by
  refine z_met (by decide) (Nat.le_of_ble_eq_true rfl) ?_
  intro X hl C E hnm
  show Zf X B mX1_noteAt s t 0 [(0, .ref (B.1 + 8)), (1, .int x)] []
  refine z_iload_n C dX1_noteAt_0 1 rfl rfl ?_
  refine z_if_lt C 30 dX1_noteAt_1 (by decide) (fun h1 => ?_) (fun h1 => ?_)
  · refine z_null C dX1_noteAt_30 ?_
    refine z_aret C E rfl dX1_noteAt_31 (Or.inl rfl) rfl (Nat.le_refl _) ⟨rfl, rfl⟩
  · refine z_iload_n C dX1_noteAt_4 1 rfl rfl ?_
    refine z_aload_n C dX1_noteAt_5 0 rfl rfl ?_
    refine f_get1 C 5 (v := .int (s 8 5)) (by decide) tw_174 rfl zk_8 zb_8 rfl dX1_noteAt_6 ?_
    refine z_icmp_ge C 30 dX1_noteAt_9 (by decide) (fun _ => ?_) (fun hbr => absurd (hx.resolve_left h1) hbr)
    refine z_null C dX1_noteAt_30 ?_
    refine z_aret C E rfl dX1_noteAt_31 (Or.inl rfl) rfl (Nat.le_refl _) ⟨rfl, rfl⟩
abbrev mX11_kindAt : zM := (yX11_kindAt, cX11_kindAt, 2, (some (.object "VetoHouse$Plain")), { frames := 1, cells := 0, slots := 0, locals := 21 })
set_option maxRecDepth 100000 in
set_option maxHeartbeats 4000000 in
theorem c_X11_kindAt0 (l : Launch) (B : zB) (s : zS) (t : zL)  : zD l B mX11_kindAt s t [.ref (B.1 + 0), .int 0] (some (.ref (B.1 + 2))) s t := by
  refine z_met (by decide) (Nat.le_of_ble_eq_true rfl) ?_
  intro X hl C E hnm
  show Zf X B mX11_kindAt s t 0 [(0, .ref (B.1 + 0)), (1, .int 0)] []
  refine z_aload_n C dX11_kindAt_0 0 rfl rfl ?_
  refine f_get11 C 0 (v := .ref (B.1 + 1)) (by decide) tw_225 rfl zk_0 zb_0 rfl dX11_kindAt_1 ?_
  refine z_iload_n C dX11_kindAt_4 1 rfl rfl ?_
  refine z_aload_n C dX11_kindAt_5 0 rfl rfl ?_
  refine f_get11 C 0 (v := .ref (B.1 + 1)) (by decide) tw_225 rfl zk_0 zb_0 rfl dX11_kindAt_6 ?_
  refine f_alen26 C (v := 6) zk_1 zb_1 rfl dX11_kindAt_9 ?_
  refine z_iconst C dX11_kindAt_10 ki_1 ?_
  refine z_isub C dX11_kindAt_11 ?_
  refine f_callSr C hl (As := [.int 0, .int (6 - 1)]) (rest := [.ref (B.1 + 1)]) (c_X11_within l B s t 0 (6 - 1)) (zCB (nA := 2) C rfl rfl tw_268 tw_1 tw_266 (by decide +kernel) ⟨Nat.le_of_ble_eq_true rfl, Nat.le_of_ble_eq_true rfl⟩) tw_267 rfl rfl (Nat.le_of_ble_eq_true rfl) dX11_kindAt_12 (Nat.zero_le _) ?_
  refine z_ifb_eq C 22 dX11_kindAt_15 (by decide) (fun hbr => absurd hbr (by decide)) (fun _ => ?_)
  refine z_iload_n C dX11_kindAt_18 1 rfl rfl ?_
  refine z_goto C 23 dX11_kindAt_19 (by decide) ?_
  refine f_aaldL26 C zk_1 zb_1 (by unfold vp_in; decide) (r := 2) (by decide) dX11_kindAt_23 ?_
  refine z_aret C E rfl dX11_kindAt_24 (Or.inr ⟨_, rfl⟩) rfl (Nat.le_refl _) ⟨rfl, rfl⟩
set_option maxRecDepth 100000 in
set_option maxHeartbeats 4000000 in
theorem c_X11_kindAt1 (l : Launch) (B : zB) (s : zS) (t : zL)  : zD l B mX11_kindAt s t [.ref (B.1 + 0), .int 1] (some (.ref (B.1 + 3))) s t := by
  refine z_met (by decide) (Nat.le_of_ble_eq_true rfl) ?_
  intro X hl C E hnm
  show Zf X B mX11_kindAt s t 0 [(0, .ref (B.1 + 0)), (1, .int 1)] []
  refine z_aload_n C dX11_kindAt_0 0 rfl rfl ?_
  refine f_get11 C 0 (v := .ref (B.1 + 1)) (by decide) tw_225 rfl zk_0 zb_0 rfl dX11_kindAt_1 ?_
  refine z_iload_n C dX11_kindAt_4 1 rfl rfl ?_
  refine z_aload_n C dX11_kindAt_5 0 rfl rfl ?_
  refine f_get11 C 0 (v := .ref (B.1 + 1)) (by decide) tw_225 rfl zk_0 zb_0 rfl dX11_kindAt_6 ?_
  refine f_alen26 C (v := 6) zk_1 zb_1 rfl dX11_kindAt_9 ?_
  refine z_iconst C dX11_kindAt_10 ki_1 ?_
  refine z_isub C dX11_kindAt_11 ?_
  refine f_callSr C hl (As := [.int 1, .int (6 - 1)]) (rest := [.ref (B.1 + 1)]) (c_X11_within l B s t 1 (6 - 1)) (zCB (nA := 2) C rfl rfl tw_268 tw_1 tw_266 (by decide +kernel) ⟨Nat.le_of_ble_eq_true rfl, Nat.le_of_ble_eq_true rfl⟩) tw_267 rfl rfl (Nat.le_of_ble_eq_true rfl) dX11_kindAt_12 (Nat.zero_le _) ?_
  refine z_ifb_eq C 22 dX11_kindAt_15 (by decide) (fun hbr => absurd hbr (by decide)) (fun _ => ?_)
  refine z_iload_n C dX11_kindAt_18 1 rfl rfl ?_
  refine z_goto C 23 dX11_kindAt_19 (by decide) ?_
  refine f_aaldL26 C zk_1 zb_1 (by unfold vp_in; decide) (r := 3) (by decide) dX11_kindAt_23 ?_
  refine z_aret C E rfl dX11_kindAt_24 (Or.inr ⟨_, rfl⟩) rfl (Nat.le_refl _) ⟨rfl, rfl⟩
set_option maxRecDepth 100000 in
set_option maxHeartbeats 4000000 in
theorem c_X11_kindAt2 (l : Launch) (B : zB) (s : zS) (t : zL)  : zD l B mX11_kindAt s t [.ref (B.1 + 0), .int 2] (some (.ref (B.1 + 4))) s t := by
  refine z_met (by decide) (Nat.le_of_ble_eq_true rfl) ?_
  intro X hl C E hnm
  show Zf X B mX11_kindAt s t 0 [(0, .ref (B.1 + 0)), (1, .int 2)] []
  refine z_aload_n C dX11_kindAt_0 0 rfl rfl ?_
  refine f_get11 C 0 (v := .ref (B.1 + 1)) (by decide) tw_225 rfl zk_0 zb_0 rfl dX11_kindAt_1 ?_
  refine z_iload_n C dX11_kindAt_4 1 rfl rfl ?_
  refine z_aload_n C dX11_kindAt_5 0 rfl rfl ?_
  refine f_get11 C 0 (v := .ref (B.1 + 1)) (by decide) tw_225 rfl zk_0 zb_0 rfl dX11_kindAt_6 ?_
  refine f_alen26 C (v := 6) zk_1 zb_1 rfl dX11_kindAt_9 ?_
  refine z_iconst C dX11_kindAt_10 ki_1 ?_
  refine z_isub C dX11_kindAt_11 ?_
  refine f_callSr C hl (As := [.int 2, .int (6 - 1)]) (rest := [.ref (B.1 + 1)]) (c_X11_within l B s t 2 (6 - 1)) (zCB (nA := 2) C rfl rfl tw_268 tw_1 tw_266 (by decide +kernel) ⟨Nat.le_of_ble_eq_true rfl, Nat.le_of_ble_eq_true rfl⟩) tw_267 rfl rfl (Nat.le_of_ble_eq_true rfl) dX11_kindAt_12 (Nat.zero_le _) ?_
  refine z_ifb_eq C 22 dX11_kindAt_15 (by decide) (fun hbr => absurd hbr (by decide)) (fun _ => ?_)
  refine z_iload_n C dX11_kindAt_18 1 rfl rfl ?_
  refine z_goto C 23 dX11_kindAt_19 (by decide) ?_
  refine f_aaldL26 C zk_1 zb_1 (by unfold vp_in; decide) (r := 4) (by decide) dX11_kindAt_23 ?_
  refine z_aret C E rfl dX11_kindAt_24 (Or.inr ⟨_, rfl⟩) rfl (Nat.le_refl _) ⟨rfl, rfl⟩
set_option maxRecDepth 100000 in
set_option maxHeartbeats 4000000 in
theorem c_X11_kindAt3 (l : Launch) (B : zB) (s : zS) (t : zL)  : zD l B mX11_kindAt s t [.ref (B.1 + 0), .int 3] (some (.ref (B.1 + 5))) s t := by
  refine z_met (by decide) (Nat.le_of_ble_eq_true rfl) ?_
  intro X hl C E hnm
  show Zf X B mX11_kindAt s t 0 [(0, .ref (B.1 + 0)), (1, .int 3)] []
  refine z_aload_n C dX11_kindAt_0 0 rfl rfl ?_
  refine f_get11 C 0 (v := .ref (B.1 + 1)) (by decide) tw_225 rfl zk_0 zb_0 rfl dX11_kindAt_1 ?_
  refine z_iload_n C dX11_kindAt_4 1 rfl rfl ?_
  refine z_aload_n C dX11_kindAt_5 0 rfl rfl ?_
  refine f_get11 C 0 (v := .ref (B.1 + 1)) (by decide) tw_225 rfl zk_0 zb_0 rfl dX11_kindAt_6 ?_
  refine f_alen26 C (v := 6) zk_1 zb_1 rfl dX11_kindAt_9 ?_
  refine z_iconst C dX11_kindAt_10 ki_1 ?_
  refine z_isub C dX11_kindAt_11 ?_
  refine f_callSr C hl (As := [.int 3, .int (6 - 1)]) (rest := [.ref (B.1 + 1)]) (c_X11_within l B s t 3 (6 - 1)) (zCB (nA := 2) C rfl rfl tw_268 tw_1 tw_266 (by decide +kernel) ⟨Nat.le_of_ble_eq_true rfl, Nat.le_of_ble_eq_true rfl⟩) tw_267 rfl rfl (Nat.le_of_ble_eq_true rfl) dX11_kindAt_12 (Nat.zero_le _) ?_
  refine z_ifb_eq C 22 dX11_kindAt_15 (by decide) (fun hbr => absurd hbr (by decide)) (fun _ => ?_)
  refine z_iload_n C dX11_kindAt_18 1 rfl rfl ?_
  refine z_goto C 23 dX11_kindAt_19 (by decide) ?_
  refine f_aaldL26 C zk_1 zb_1 (by unfold vp_in; decide) (r := 5) (by decide) dX11_kindAt_23 ?_
  refine z_aret C E rfl dX11_kindAt_24 (Or.inr ⟨_, rfl⟩) rfl (Nat.le_refl _) ⟨rfl, rfl⟩
set_option maxRecDepth 100000 in
set_option maxHeartbeats 4000000 in
theorem c_X11_kindAt4 (l : Launch) (B : zB) (s : zS) (t : zL)  : zD l B mX11_kindAt s t [.ref (B.1 + 0), .int 4] (some (.ref (B.1 + 6))) s t := by
  refine z_met (by decide) (Nat.le_of_ble_eq_true rfl) ?_
  intro X hl C E hnm
  show Zf X B mX11_kindAt s t 0 [(0, .ref (B.1 + 0)), (1, .int 4)] []
  refine z_aload_n C dX11_kindAt_0 0 rfl rfl ?_
  refine f_get11 C 0 (v := .ref (B.1 + 1)) (by decide) tw_225 rfl zk_0 zb_0 rfl dX11_kindAt_1 ?_
  refine z_iload_n C dX11_kindAt_4 1 rfl rfl ?_
  refine z_aload_n C dX11_kindAt_5 0 rfl rfl ?_
  refine f_get11 C 0 (v := .ref (B.1 + 1)) (by decide) tw_225 rfl zk_0 zb_0 rfl dX11_kindAt_6 ?_
  refine f_alen26 C (v := 6) zk_1 zb_1 rfl dX11_kindAt_9 ?_
  refine z_iconst C dX11_kindAt_10 ki_1 ?_
  refine z_isub C dX11_kindAt_11 ?_
  refine f_callSr C hl (As := [.int 4, .int (6 - 1)]) (rest := [.ref (B.1 + 1)]) (c_X11_within l B s t 4 (6 - 1)) (zCB (nA := 2) C rfl rfl tw_268 tw_1 tw_266 (by decide +kernel) ⟨Nat.le_of_ble_eq_true rfl, Nat.le_of_ble_eq_true rfl⟩) tw_267 rfl rfl (Nat.le_of_ble_eq_true rfl) dX11_kindAt_12 (Nat.zero_le _) ?_
  refine z_ifb_eq C 22 dX11_kindAt_15 (by decide) (fun hbr => absurd hbr (by decide)) (fun _ => ?_)
  refine z_iload_n C dX11_kindAt_18 1 rfl rfl ?_
  refine z_goto C 23 dX11_kindAt_19 (by decide) ?_
  refine f_aaldL26 C zk_1 zb_1 (by unfold vp_in; decide) (r := 6) (by decide) dX11_kindAt_23 ?_
  refine z_aret C E rfl dX11_kindAt_24 (Or.inr ⟨_, rfl⟩) rfl (Nat.le_refl _) ⟨rfl, rfl⟩
set_option maxRecDepth 100000 in
set_option maxHeartbeats 4000000 in
theorem c_X11_kindAt5 (l : Launch) (B : zB) (s : zS) (t : zL)  : zD l B mX11_kindAt s t [.ref (B.1 + 0), .int 5] (some (.ref (B.1 + 7))) s t := by
  refine z_met (by decide) (Nat.le_of_ble_eq_true rfl) ?_
  intro X hl C E hnm
  show Zf X B mX11_kindAt s t 0 [(0, .ref (B.1 + 0)), (1, .int 5)] []
  refine z_aload_n C dX11_kindAt_0 0 rfl rfl ?_
  refine f_get11 C 0 (v := .ref (B.1 + 1)) (by decide) tw_225 rfl zk_0 zb_0 rfl dX11_kindAt_1 ?_
  refine z_iload_n C dX11_kindAt_4 1 rfl rfl ?_
  refine z_aload_n C dX11_kindAt_5 0 rfl rfl ?_
  refine f_get11 C 0 (v := .ref (B.1 + 1)) (by decide) tw_225 rfl zk_0 zb_0 rfl dX11_kindAt_6 ?_
  refine f_alen26 C (v := 6) zk_1 zb_1 rfl dX11_kindAt_9 ?_
  refine z_iconst C dX11_kindAt_10 ki_1 ?_
  refine z_isub C dX11_kindAt_11 ?_
  refine f_callSr C hl (As := [.int 5, .int (6 - 1)]) (rest := [.ref (B.1 + 1)]) (c_X11_within l B s t 5 (6 - 1)) (zCB (nA := 2) C rfl rfl tw_268 tw_1 tw_266 (by decide +kernel) ⟨Nat.le_of_ble_eq_true rfl, Nat.le_of_ble_eq_true rfl⟩) tw_267 rfl rfl (Nat.le_of_ble_eq_true rfl) dX11_kindAt_12 (Nat.zero_le _) ?_
  refine z_ifb_eq C 22 dX11_kindAt_15 (by decide) (fun hbr => absurd hbr (by decide)) (fun _ => ?_)
  refine z_iload_n C dX11_kindAt_18 1 rfl rfl ?_
  refine z_goto C 23 dX11_kindAt_19 (by decide) ?_
  refine f_aaldL26 C zk_1 zb_1 (by unfold vp_in; decide) (r := 7) (by decide) dX11_kindAt_23 ?_
  refine z_aret C E rfl dX11_kindAt_24 (Or.inr ⟨_, rfl⟩) rfl (Nat.le_refl _) ⟨rfl, rfl⟩
abbrev mX11_wouldStop : zM := (yX11_wouldStop, cX11_wouldStop, 8, (some .boolean), { frames := 3, cells := 0, slots := 0, locals := 69 })
set_option maxRecDepth 100000 in
set_option maxHeartbeats 4000000 in
theorem c_X11_wouldStop0 (l : Launch) (B : zB) (s : zS) (t : zL) (lo ha bu d : Int32) (hb : r8 bu) : zD l B mX11_wouldStop s t [.ref (B.1 + 0), .int 0, .int lo, .int ha, .int bu, .int d] (some (.int (zi (wStop 0 lo ha bu d)))) s t := by
  refine z_met (by decide) (Nat.le_of_ble_eq_true rfl) ?_
  intro X hl C E hnm
  show Zf X B mX11_wouldStop s t 0 [(0, .ref (B.1 + 0)), (1, .int 0), (2, .int lo), (3, .int ha), (4, .int bu), (5, .int d)] []
  refine z_iload C dX11_wouldStop_0 4 rfl ?_
  refine z_if_ne C 7 dX11_wouldStop_2 (by decide) (fun h2 => ?_) (fun h2 => ?_)
  · refine z_aload_n C dX11_wouldStop_7 0 rfl rfl ?_
    refine z_iload_n C dX11_wouldStop_8 1 rfl rfl ?_
    refine f_callVr C hl (As := [.int 0]) (rest := []) (c_X11_kindAt0 l B s t) zb_0 (zg_11 zk_0) rfl (zCB (nA := 1) C rfl rfl tw_483 tw_1 tw_480 (by decide +kernel) ⟨Nat.le_of_ble_eq_true rfl, Nat.le_of_ble_eq_true rfl⟩) tw_482 tp_12 rfl rfl (Nat.le_of_ble_eq_true rfl) dX11_wouldStop_9 (Nat.zero_le _) ?_
    refine z_astore C [(6, .ref (B.1 + 2)), (0, .ref (B.1 + 0)), (1, .int 0), (2, .int lo), (3, .int ha), (4, .int bu), (5, .int d)] dX11_wouldStop_12 (by decide) rfl ?_
    refine z_iload_n C dX11_wouldStop_14 4 rfl rfl ?_
    refine z_iload C dX11_wouldStop_15 5 rfl ?_
    refine z_iand C dX11_wouldStop_17 ?_
    refine f_callSr C hl (As := [.int (ha &&& bu)]) (rest := []) (c_J6_bitCount_0f7a4 l B s t (ha &&& bu) (r8_and' hb)) (zCB (nA := 1) C rfl rfl tw_486 tw_19 tw_484 (by decide +kernel) ⟨Nat.le_of_ble_eq_true rfl, Nat.le_of_ble_eq_true rfl⟩) tw_485 rfl rfl (Nat.le_of_ble_eq_true rfl) dX11_wouldStop_18 (Nat.zero_le _) ?_
    refine z_istore C [(7, .int (wPop (ha &&& bu))), (6, .ref (B.1 + 2)), (0, .ref (B.1 + 0)), (1, .int 0), (2, .int lo), (3, .int ha), (4, .int bu), (5, .int d)] dX11_wouldStop_21 (by decide) rfl ?_
    refine z_aload C dX11_wouldStop_23 1 rfl ?_
    refine z_aload C dX11_wouldStop_25 1 rfl ?_
    refine z_iload_n C dX11_wouldStop_27 4 rfl rfl ?_
    refine z_iload C dX11_wouldStop_28 6 rfl ?_
    refine z_iand C dX11_wouldStop_30 ?_
    refine f_callSr C hl (As := [.int (lo &&& bu)]) (rest := [.ref (B.1 + 2), .ref (B.1 + 2)]) (c_J6_bitCount_0f7a4 l B s t (lo &&& bu) (r8_and' hb)) (zCB (nA := 1) C rfl rfl tw_486 tw_19 tw_484 (by decide +kernel) ⟨Nat.le_of_ble_eq_true rfl, Nat.le_of_ble_eq_true rfl⟩) tw_485 rfl rfl (Nat.le_of_ble_eq_true rfl) dX11_wouldStop_31 (Nat.zero_le _) ?_
    refine z_iload C dX11_wouldStop_34 0 rfl ?_
    refine f_callVr C hl (As := [.int (wPop (lo &&& bu)), .int (wPop (ha &&& bu))]) (rest := [.ref (B.1 + 2)]) (c_X5_joyBy l B s t 2 0 (wPop (lo &&& bu)) (wPop (ha &&& bu))) zb_2 (zg_5 zk_2) rfl (zCB (nA := 2) C rfl rfl tw_502 tw_2 tw_490 (by decide +kernel) ⟨Nat.le_of_ble_eq_true rfl, Nat.le_of_ble_eq_true rfl⟩) tw_491 tw_492 rfl rfl (Nat.le_of_ble_eq_true rfl) dX11_wouldStop_36 (Nat.zero_le _) ?_
    refine z_iload C dX11_wouldStop_39 0 rfl ?_
    refine z_iload C dX11_wouldStop_41 7 rfl ?_
    refine f_callVr C hl (As := [.int (2 * (wPop (lo &&& bu)) - 3 * (wPop (ha &&& bu))), .int (wPop (ha &&& bu)), .int d]) (rest := []) (c_X5_refuses l B s t 2 0 (2 * (wPop (lo &&& bu)) - 3 * (wPop (ha &&& bu))) (wPop (ha &&& bu)) d) zb_2 (zg_5 zk_2) rfl (zCB (nA := 3) C rfl rfl tw_523 tw_2 tw_503 (by decide +kernel) ⟨Nat.le_of_ble_eq_true rfl, Nat.le_of_ble_eq_true rfl⟩) tw_504 tw_505 rfl rfl (Nat.le_of_ble_eq_true rfl) dX11_wouldStop_43 (Nat.zero_le _) ?_
    refine z_zret C E rfl dX11_wouldStop_46 (zi_nar _) rfl (Nat.le_refl _) ⟨by simp [wStop, wRef, wJoy, h2, zi], rfl⟩
  · refine z_iconst C dX11_wouldStop_5 ki_0 ?_
    refine z_zret C E rfl dX11_wouldStop_6 rfl rfl (Nat.le_refl _) ⟨by simp [wStop, wRef, wJoy, h2, zi], rfl⟩
set_option maxRecDepth 100000 in
set_option maxHeartbeats 4000000 in
theorem c_X11_wouldStop1 (l : Launch) (B : zB) (s : zS) (t : zL) (lo ha bu d : Int32) (hb : r8 bu) : zD l B mX11_wouldStop s t [.ref (B.1 + 0), .int 1, .int lo, .int ha, .int bu, .int d] (some (.int (zi (wStop 1 lo ha bu d)))) s t := by
  refine z_met (by decide) (Nat.le_of_ble_eq_true rfl) ?_
  intro X hl C E hnm
  show Zf X B mX11_wouldStop s t 0 [(0, .ref (B.1 + 0)), (1, .int 1), (2, .int lo), (3, .int ha), (4, .int bu), (5, .int d)] []
  refine z_iload C dX11_wouldStop_0 4 rfl ?_
  refine z_if_ne C 7 dX11_wouldStop_2 (by decide) (fun h2 => ?_) (fun h2 => ?_)
  · refine z_aload_n C dX11_wouldStop_7 0 rfl rfl ?_
    refine z_iload_n C dX11_wouldStop_8 1 rfl rfl ?_
    refine f_callVr C hl (As := [.int 1]) (rest := []) (c_X11_kindAt1 l B s t) zb_0 (zg_11 zk_0) rfl (zCB (nA := 1) C rfl rfl tw_483 tw_1 tw_480 (by decide +kernel) ⟨Nat.le_of_ble_eq_true rfl, Nat.le_of_ble_eq_true rfl⟩) tw_482 tp_12 rfl rfl (Nat.le_of_ble_eq_true rfl) dX11_wouldStop_9 (Nat.zero_le _) ?_
    refine z_astore C [(6, .ref (B.1 + 3)), (0, .ref (B.1 + 0)), (1, .int 1), (2, .int lo), (3, .int ha), (4, .int bu), (5, .int d)] dX11_wouldStop_12 (by decide) rfl ?_
    refine z_iload_n C dX11_wouldStop_14 4 rfl rfl ?_
    refine z_iload C dX11_wouldStop_15 5 rfl ?_
    refine z_iand C dX11_wouldStop_17 ?_
    refine f_callSr C hl (As := [.int (ha &&& bu)]) (rest := []) (c_J6_bitCount_0f7a4 l B s t (ha &&& bu) (r8_and' hb)) (zCB (nA := 1) C rfl rfl tw_486 tw_19 tw_484 (by decide +kernel) ⟨Nat.le_of_ble_eq_true rfl, Nat.le_of_ble_eq_true rfl⟩) tw_485 rfl rfl (Nat.le_of_ble_eq_true rfl) dX11_wouldStop_18 (Nat.zero_le _) ?_
    refine z_istore C [(7, .int (wPop (ha &&& bu))), (6, .ref (B.1 + 3)), (0, .ref (B.1 + 0)), (1, .int 1), (2, .int lo), (3, .int ha), (4, .int bu), (5, .int d)] dX11_wouldStop_21 (by decide) rfl ?_
    refine z_aload C dX11_wouldStop_23 1 rfl ?_
    refine z_aload C dX11_wouldStop_25 1 rfl ?_
    refine z_iload_n C dX11_wouldStop_27 4 rfl rfl ?_
    refine z_iload C dX11_wouldStop_28 6 rfl ?_
    refine z_iand C dX11_wouldStop_30 ?_
    refine f_callSr C hl (As := [.int (lo &&& bu)]) (rest := [.ref (B.1 + 3), .ref (B.1 + 3)]) (c_J6_bitCount_0f7a4 l B s t (lo &&& bu) (r8_and' hb)) (zCB (nA := 1) C rfl rfl tw_486 tw_19 tw_484 (by decide +kernel) ⟨Nat.le_of_ble_eq_true rfl, Nat.le_of_ble_eq_true rfl⟩) tw_485 rfl rfl (Nat.le_of_ble_eq_true rfl) dX11_wouldStop_31 (Nat.zero_le _) ?_
    refine z_iload C dX11_wouldStop_34 0 rfl ?_
    refine f_callUr C hl (As := [.int (wPop (lo &&& bu)), .int (wPop (ha &&& bu))]) (rest := [.ref (B.1 + 3)]) (c_X5_joyBy l B s t 3 0 (wPop (lo &&& bu)) (wPop (ha &&& bu))) zb_3 (zg_7 zk_3) rfl (zCU (nA := 2) C rfl rfl tw_502 tw_2 tw_490 tw_493 tw_500 tw_491 tw_491 tw_502 (by decide +kernel) ⟨Nat.le_of_ble_eq_true rfl, Nat.le_of_ble_eq_true rfl⟩) rfl rfl (Nat.le_of_ble_eq_true rfl) dX11_wouldStop_36 (Nat.zero_le _) ?_
    refine z_iload C dX11_wouldStop_39 0 rfl ?_
    refine z_iload C dX11_wouldStop_41 7 rfl ?_
    refine f_callUr C hl (As := [.int (2 * (wPop (lo &&& bu)) - 3 * (wPop (ha &&& bu))), .int (wPop (ha &&& bu)), .int d]) (rest := []) (c_X7_refuses l B s t 3 (2 * (wPop (lo &&& bu)) - 3 * (wPop (ha &&& bu))) (wPop (ha &&& bu)) d zk_3 zb_3) zb_3 (zg_7 zk_3) rfl (zCU (nA := 3) C rfl rfl tw_512 tw_3 tw_503 tw_506 tw_521 tw_511 tw_504 tw_523 (by decide +kernel) ⟨Nat.le_of_ble_eq_true rfl, Nat.le_of_ble_eq_true rfl⟩) rfl rfl (Nat.le_of_ble_eq_true rfl) dX11_wouldStop_43 (Nat.zero_le _) ?_
    refine z_zret C E rfl dX11_wouldStop_46 (zi_nar _) rfl (Nat.le_refl _) ⟨by simp [wStop, wRef, wJoy, h2, zi], rfl⟩
  · refine z_iconst C dX11_wouldStop_5 ki_0 ?_
    refine z_zret C E rfl dX11_wouldStop_6 rfl rfl (Nat.le_refl _) ⟨by simp [wStop, wRef, wJoy, h2, zi], rfl⟩
set_option maxRecDepth 100000 in
set_option maxHeartbeats 4000000 in
theorem c_X11_wouldStop2 (l : Launch) (B : zB) (s : zS) (t : zL) (lo ha bu d : Int32) (hb : r8 bu) : zD l B mX11_wouldStop s t [.ref (B.1 + 0), .int 2, .int lo, .int ha, .int bu, .int d] (some (.int (zi (wStop 2 lo ha bu d)))) s t := by
  refine z_met (by decide) (Nat.le_of_ble_eq_true rfl) ?_
  intro X hl C E hnm
  show Zf X B mX11_wouldStop s t 0 [(0, .ref (B.1 + 0)), (1, .int 2), (2, .int lo), (3, .int ha), (4, .int bu), (5, .int d)] []
  refine z_iload C dX11_wouldStop_0 4 rfl ?_
  refine z_if_ne C 7 dX11_wouldStop_2 (by decide) (fun h2 => ?_) (fun h2 => ?_)
  · refine z_aload_n C dX11_wouldStop_7 0 rfl rfl ?_
    refine z_iload_n C dX11_wouldStop_8 1 rfl rfl ?_
    refine f_callVr C hl (As := [.int 2]) (rest := []) (c_X11_kindAt2 l B s t) zb_0 (zg_11 zk_0) rfl (zCB (nA := 1) C rfl rfl tw_483 tw_1 tw_480 (by decide +kernel) ⟨Nat.le_of_ble_eq_true rfl, Nat.le_of_ble_eq_true rfl⟩) tw_482 tp_12 rfl rfl (Nat.le_of_ble_eq_true rfl) dX11_wouldStop_9 (Nat.zero_le _) ?_
    refine z_astore C [(6, .ref (B.1 + 4)), (0, .ref (B.1 + 0)), (1, .int 2), (2, .int lo), (3, .int ha), (4, .int bu), (5, .int d)] dX11_wouldStop_12 (by decide) rfl ?_
    refine z_iload_n C dX11_wouldStop_14 4 rfl rfl ?_
    refine z_iload C dX11_wouldStop_15 5 rfl ?_
    refine z_iand C dX11_wouldStop_17 ?_
    refine f_callSr C hl (As := [.int (ha &&& bu)]) (rest := []) (c_J6_bitCount_0f7a4 l B s t (ha &&& bu) (r8_and' hb)) (zCB (nA := 1) C rfl rfl tw_486 tw_19 tw_484 (by decide +kernel) ⟨Nat.le_of_ble_eq_true rfl, Nat.le_of_ble_eq_true rfl⟩) tw_485 rfl rfl (Nat.le_of_ble_eq_true rfl) dX11_wouldStop_18 (Nat.zero_le _) ?_
    refine z_istore C [(7, .int (wPop (ha &&& bu))), (6, .ref (B.1 + 4)), (0, .ref (B.1 + 0)), (1, .int 2), (2, .int lo), (3, .int ha), (4, .int bu), (5, .int d)] dX11_wouldStop_21 (by decide) rfl ?_
    refine z_aload C dX11_wouldStop_23 1 rfl ?_
    refine z_aload C dX11_wouldStop_25 1 rfl ?_
    refine z_iload_n C dX11_wouldStop_27 4 rfl rfl ?_
    refine z_iload C dX11_wouldStop_28 6 rfl ?_
    refine z_iand C dX11_wouldStop_30 ?_
    refine f_callSr C hl (As := [.int (lo &&& bu)]) (rest := [.ref (B.1 + 4), .ref (B.1 + 4)]) (c_J6_bitCount_0f7a4 l B s t (lo &&& bu) (r8_and' hb)) (zCB (nA := 1) C rfl rfl tw_486 tw_19 tw_484 (by decide +kernel) ⟨Nat.le_of_ble_eq_true rfl, Nat.le_of_ble_eq_true rfl⟩) tw_485 rfl rfl (Nat.le_of_ble_eq_true rfl) dX11_wouldStop_31 (Nat.zero_le _) ?_
    refine z_iload C dX11_wouldStop_34 0 rfl ?_
    refine f_callUr C hl (As := [.int (wPop (lo &&& bu)), .int (wPop (ha &&& bu))]) (rest := [.ref (B.1 + 4)]) (c_X10_joyBy l B s t 4 (wPop (lo &&& bu)) (wPop (ha &&& bu)) zk_4 zb_4) zb_4 (zg_10 zk_4) rfl (zCU (nA := 2) C rfl rfl tw_497 tw_4 tw_490 tw_493 tw_501 tw_496 tw_491 tw_502 (by decide +kernel) ⟨Nat.le_of_ble_eq_true rfl, Nat.le_of_ble_eq_true rfl⟩) rfl rfl (Nat.le_of_ble_eq_true rfl) dX11_wouldStop_36 (Nat.zero_le _) ?_
    refine z_iload C dX11_wouldStop_39 0 rfl ?_
    refine z_iload C dX11_wouldStop_41 7 rfl ?_
    refine f_callUr C hl (As := [.int (2 * (wPop (lo &&& bu)) - 3 * (wPop (ha &&& bu)) + 2), .int (wPop (ha &&& bu)), .int d]) (rest := []) (c_X5_refuses l B s t 4 0 (2 * (wPop (lo &&& bu)) - 3 * (wPop (ha &&& bu)) + 2) (wPop (ha &&& bu)) d) zb_4 (zg_10 zk_4) rfl (zCU (nA := 3) C rfl rfl tw_523 tw_2 tw_503 tw_506 tw_522 tw_504 tw_504 tw_523 (by decide +kernel) ⟨Nat.le_of_ble_eq_true rfl, Nat.le_of_ble_eq_true rfl⟩) rfl rfl (Nat.le_of_ble_eq_true rfl) dX11_wouldStop_43 (Nat.zero_le _) ?_
    refine z_zret C E rfl dX11_wouldStop_46 (zi_nar _) rfl (Nat.le_refl _) ⟨by simp [wStop, wRef, wJoy, h2, zi], rfl⟩
  · refine z_iconst C dX11_wouldStop_5 ki_0 ?_
    refine z_zret C E rfl dX11_wouldStop_6 rfl rfl (Nat.le_refl _) ⟨by simp [wStop, wRef, wJoy, h2, zi], rfl⟩
set_option maxRecDepth 100000 in
set_option maxHeartbeats 4000000 in
theorem c_X11_wouldStop3 (l : Launch) (B : zB) (s : zS) (t : zL) (lo ha bu d : Int32) (hb : r8 bu) : zD l B mX11_wouldStop s t [.ref (B.1 + 0), .int 3, .int lo, .int ha, .int bu, .int d] (some (.int (zi (wStop 3 lo ha bu d)))) s t := by
  refine z_met (by decide) (Nat.le_of_ble_eq_true rfl) ?_
  intro X hl C E hnm
  show Zf X B mX11_wouldStop s t 0 [(0, .ref (B.1 + 0)), (1, .int 3), (2, .int lo), (3, .int ha), (4, .int bu), (5, .int d)] []
  refine z_iload C dX11_wouldStop_0 4 rfl ?_
  refine z_if_ne C 7 dX11_wouldStop_2 (by decide) (fun h2 => ?_) (fun h2 => ?_)
  · refine z_aload_n C dX11_wouldStop_7 0 rfl rfl ?_
    refine z_iload_n C dX11_wouldStop_8 1 rfl rfl ?_
    refine f_callVr C hl (As := [.int 3]) (rest := []) (c_X11_kindAt3 l B s t) zb_0 (zg_11 zk_0) rfl (zCB (nA := 1) C rfl rfl tw_483 tw_1 tw_480 (by decide +kernel) ⟨Nat.le_of_ble_eq_true rfl, Nat.le_of_ble_eq_true rfl⟩) tw_482 tp_12 rfl rfl (Nat.le_of_ble_eq_true rfl) dX11_wouldStop_9 (Nat.zero_le _) ?_
    refine z_astore C [(6, .ref (B.1 + 5)), (0, .ref (B.1 + 0)), (1, .int 3), (2, .int lo), (3, .int ha), (4, .int bu), (5, .int d)] dX11_wouldStop_12 (by decide) rfl ?_
    refine z_iload_n C dX11_wouldStop_14 4 rfl rfl ?_
    refine z_iload C dX11_wouldStop_15 5 rfl ?_
    refine z_iand C dX11_wouldStop_17 ?_
    refine f_callSr C hl (As := [.int (ha &&& bu)]) (rest := []) (c_J6_bitCount_0f7a4 l B s t (ha &&& bu) (r8_and' hb)) (zCB (nA := 1) C rfl rfl tw_486 tw_19 tw_484 (by decide +kernel) ⟨Nat.le_of_ble_eq_true rfl, Nat.le_of_ble_eq_true rfl⟩) tw_485 rfl rfl (Nat.le_of_ble_eq_true rfl) dX11_wouldStop_18 (Nat.zero_le _) ?_
    refine z_istore C [(7, .int (wPop (ha &&& bu))), (6, .ref (B.1 + 5)), (0, .ref (B.1 + 0)), (1, .int 3), (2, .int lo), (3, .int ha), (4, .int bu), (5, .int d)] dX11_wouldStop_21 (by decide) rfl ?_
    refine z_aload C dX11_wouldStop_23 1 rfl ?_
    refine z_aload C dX11_wouldStop_25 1 rfl ?_
    refine z_iload_n C dX11_wouldStop_27 4 rfl rfl ?_
    refine z_iload C dX11_wouldStop_28 6 rfl ?_
    refine z_iand C dX11_wouldStop_30 ?_
    refine f_callSr C hl (As := [.int (lo &&& bu)]) (rest := [.ref (B.1 + 5), .ref (B.1 + 5)]) (c_J6_bitCount_0f7a4 l B s t (lo &&& bu) (r8_and' hb)) (zCB (nA := 1) C rfl rfl tw_486 tw_19 tw_484 (by decide +kernel) ⟨Nat.le_of_ble_eq_true rfl, Nat.le_of_ble_eq_true rfl⟩) tw_485 rfl rfl (Nat.le_of_ble_eq_true rfl) dX11_wouldStop_31 (Nat.zero_le _) ?_
    refine z_iload C dX11_wouldStop_34 0 rfl ?_
    refine f_callUr C hl (As := [.int (wPop (lo &&& bu)), .int (wPop (ha &&& bu))]) (rest := [.ref (B.1 + 5)]) (c_X5_joyBy l B s t 5 0 (wPop (lo &&& bu)) (wPop (ha &&& bu))) zb_5 (zg_6 zk_5) rfl (zCU (nA := 2) C rfl rfl tw_502 tw_2 tw_490 tw_493 tw_499 tw_491 tw_491 tw_502 (by decide +kernel) ⟨Nat.le_of_ble_eq_true rfl, Nat.le_of_ble_eq_true rfl⟩) rfl rfl (Nat.le_of_ble_eq_true rfl) dX11_wouldStop_36 (Nat.zero_le _) ?_
    refine z_iload C dX11_wouldStop_39 0 rfl ?_
    refine z_iload C dX11_wouldStop_41 7 rfl ?_
    refine f_callUr C hl (As := [.int (2 * (wPop (lo &&& bu)) - 3 * (wPop (ha &&& bu))), .int (wPop (ha &&& bu)), .int d]) (rest := []) (c_X5_refuses l B s t 5 0 (2 * (wPop (lo &&& bu)) - 3 * (wPop (ha &&& bu))) (wPop (ha &&& bu)) d) zb_5 (zg_6 zk_5) rfl (zCU (nA := 3) C rfl rfl tw_523 tw_2 tw_503 tw_506 tw_520 tw_504 tw_504 tw_523 (by decide +kernel) ⟨Nat.le_of_ble_eq_true rfl, Nat.le_of_ble_eq_true rfl⟩) rfl rfl (Nat.le_of_ble_eq_true rfl) dX11_wouldStop_43 (Nat.zero_le _) ?_
    refine z_zret C E rfl dX11_wouldStop_46 (zi_nar _) rfl (Nat.le_refl _) ⟨by simp [wStop, wRef, wJoy, h2, zi], rfl⟩
  · refine z_iconst C dX11_wouldStop_5 ki_0 ?_
    refine z_zret C E rfl dX11_wouldStop_6 rfl rfl (Nat.le_refl _) ⟨by simp [wStop, wRef, wJoy, h2, zi], rfl⟩
set_option maxRecDepth 100000 in
set_option maxHeartbeats 4000000 in
theorem c_X11_wouldStop4 (l : Launch) (B : zB) (s : zS) (t : zL) (lo ha bu d : Int32) (hb : r8 bu) : zD l B mX11_wouldStop s t [.ref (B.1 + 0), .int 4, .int lo, .int ha, .int bu, .int d] (some (.int (zi (wStop 4 lo ha bu d)))) s t := by
  refine z_met (by decide) (Nat.le_of_ble_eq_true rfl) ?_
  intro X hl C E hnm
  show Zf X B mX11_wouldStop s t 0 [(0, .ref (B.1 + 0)), (1, .int 4), (2, .int lo), (3, .int ha), (4, .int bu), (5, .int d)] []
  refine z_iload C dX11_wouldStop_0 4 rfl ?_
  refine z_if_ne C 7 dX11_wouldStop_2 (by decide) (fun h2 => ?_) (fun h2 => ?_)
  · refine z_aload_n C dX11_wouldStop_7 0 rfl rfl ?_
    refine z_iload_n C dX11_wouldStop_8 1 rfl rfl ?_
    refine f_callVr C hl (As := [.int 4]) (rest := []) (c_X11_kindAt4 l B s t) zb_0 (zg_11 zk_0) rfl (zCB (nA := 1) C rfl rfl tw_483 tw_1 tw_480 (by decide +kernel) ⟨Nat.le_of_ble_eq_true rfl, Nat.le_of_ble_eq_true rfl⟩) tw_482 tp_12 rfl rfl (Nat.le_of_ble_eq_true rfl) dX11_wouldStop_9 (Nat.zero_le _) ?_
    refine z_astore C [(6, .ref (B.1 + 6)), (0, .ref (B.1 + 0)), (1, .int 4), (2, .int lo), (3, .int ha), (4, .int bu), (5, .int d)] dX11_wouldStop_12 (by decide) rfl ?_
    refine z_iload_n C dX11_wouldStop_14 4 rfl rfl ?_
    refine z_iload C dX11_wouldStop_15 5 rfl ?_
    refine z_iand C dX11_wouldStop_17 ?_
    refine f_callSr C hl (As := [.int (ha &&& bu)]) (rest := []) (c_J6_bitCount_0f7a4 l B s t (ha &&& bu) (r8_and' hb)) (zCB (nA := 1) C rfl rfl tw_486 tw_19 tw_484 (by decide +kernel) ⟨Nat.le_of_ble_eq_true rfl, Nat.le_of_ble_eq_true rfl⟩) tw_485 rfl rfl (Nat.le_of_ble_eq_true rfl) dX11_wouldStop_18 (Nat.zero_le _) ?_
    refine z_istore C [(7, .int (wPop (ha &&& bu))), (6, .ref (B.1 + 6)), (0, .ref (B.1 + 0)), (1, .int 4), (2, .int lo), (3, .int ha), (4, .int bu), (5, .int d)] dX11_wouldStop_21 (by decide) rfl ?_
    refine z_aload C dX11_wouldStop_23 1 rfl ?_
    refine z_aload C dX11_wouldStop_25 1 rfl ?_
    refine z_iload_n C dX11_wouldStop_27 4 rfl rfl ?_
    refine z_iload C dX11_wouldStop_28 6 rfl ?_
    refine z_iand C dX11_wouldStop_30 ?_
    refine f_callSr C hl (As := [.int (lo &&& bu)]) (rest := [.ref (B.1 + 6), .ref (B.1 + 6)]) (c_J6_bitCount_0f7a4 l B s t (lo &&& bu) (r8_and' hb)) (zCB (nA := 1) C rfl rfl tw_486 tw_19 tw_484 (by decide +kernel) ⟨Nat.le_of_ble_eq_true rfl, Nat.le_of_ble_eq_true rfl⟩) tw_485 rfl rfl (Nat.le_of_ble_eq_true rfl) dX11_wouldStop_31 (Nat.zero_le _) ?_
    refine z_iload C dX11_wouldStop_34 0 rfl ?_
    refine f_callUr C hl (As := [.int (wPop (lo &&& bu)), .int (wPop (ha &&& bu))]) (rest := [.ref (B.1 + 6)]) (c_X10_joyBy3 l B s t 6 (wPop (lo &&& bu)) (wPop (ha &&& bu)) zk_6 zb_6) zb_6 (zg_3 zk_6) rfl (zCU (nA := 2) C rfl rfl tw_497 tw_4 tw_490 tw_493 tw_495 tw_496 tw_491 tw_502 (by decide +kernel) ⟨Nat.le_of_ble_eq_true rfl, Nat.le_of_ble_eq_true rfl⟩) rfl rfl (Nat.le_of_ble_eq_true rfl) dX11_wouldStop_36 (Nat.zero_le _) ?_
    refine z_iload C dX11_wouldStop_39 0 rfl ?_
    refine z_iload C dX11_wouldStop_41 7 rfl ?_
    refine f_callUr C hl (As := [.int (2 * (wPop (lo &&& bu)) - 3 * (wPop (ha &&& bu)) + 2), .int (wPop (ha &&& bu)), .int d]) (rest := []) (c_X3_refuses l B s t 6 (2 * (wPop (lo &&& bu)) - 3 * (wPop (ha &&& bu)) + 2) (wPop (ha &&& bu)) d zk_6 zb_6) zb_6 (zg_3 zk_6) rfl (zCU (nA := 3) C rfl rfl tw_516 tw_6 tw_503 tw_506 tw_514 tw_515 tw_504 tw_523 (by decide +kernel) ⟨Nat.le_of_ble_eq_true rfl, Nat.le_of_ble_eq_true rfl⟩) rfl rfl (Nat.le_of_ble_eq_true rfl) dX11_wouldStop_43 (Nat.zero_le _) ?_
    refine z_zret C E rfl dX11_wouldStop_46 (zi_nar _) rfl (Nat.le_refl _) ⟨by simp [wStop, wRef, wJoy, h2, zi], rfl⟩
  · refine z_iconst C dX11_wouldStop_5 ki_0 ?_
    refine z_zret C E rfl dX11_wouldStop_6 rfl rfl (Nat.le_refl _) ⟨by simp [wStop, wRef, wJoy, h2, zi], rfl⟩
set_option maxRecDepth 100000 in
set_option maxHeartbeats 4000000 in
theorem c_X11_wouldStop5 (l : Launch) (B : zB) (s : zS) (t : zL) (lo ha bu d : Int32) (hb : r8 bu) : zD l B mX11_wouldStop s t [.ref (B.1 + 0), .int 5, .int lo, .int ha, .int bu, .int d] (some (.int (zi (wStop 5 lo ha bu d)))) s t := by
  refine z_met (by decide) (Nat.le_of_ble_eq_true rfl) ?_
  intro X hl C E hnm
  show Zf X B mX11_wouldStop s t 0 [(0, .ref (B.1 + 0)), (1, .int 5), (2, .int lo), (3, .int ha), (4, .int bu), (5, .int d)] []
  refine z_iload C dX11_wouldStop_0 4 rfl ?_
  refine z_if_ne C 7 dX11_wouldStop_2 (by decide) (fun h2 => ?_) (fun h2 => ?_)
  · refine z_aload_n C dX11_wouldStop_7 0 rfl rfl ?_
    refine z_iload_n C dX11_wouldStop_8 1 rfl rfl ?_
    refine f_callVr C hl (As := [.int 5]) (rest := []) (c_X11_kindAt5 l B s t) zb_0 (zg_11 zk_0) rfl (zCB (nA := 1) C rfl rfl tw_483 tw_1 tw_480 (by decide +kernel) ⟨Nat.le_of_ble_eq_true rfl, Nat.le_of_ble_eq_true rfl⟩) tw_482 tp_12 rfl rfl (Nat.le_of_ble_eq_true rfl) dX11_wouldStop_9 (Nat.zero_le _) ?_
    refine z_astore C [(6, .ref (B.1 + 7)), (0, .ref (B.1 + 0)), (1, .int 5), (2, .int lo), (3, .int ha), (4, .int bu), (5, .int d)] dX11_wouldStop_12 (by decide) rfl ?_
    refine z_iload_n C dX11_wouldStop_14 4 rfl rfl ?_
    refine z_iload C dX11_wouldStop_15 5 rfl ?_
    refine z_iand C dX11_wouldStop_17 ?_
    refine f_callSr C hl (As := [.int (ha &&& bu)]) (rest := []) (c_J6_bitCount_0f7a4 l B s t (ha &&& bu) (r8_and' hb)) (zCB (nA := 1) C rfl rfl tw_486 tw_19 tw_484 (by decide +kernel) ⟨Nat.le_of_ble_eq_true rfl, Nat.le_of_ble_eq_true rfl⟩) tw_485 rfl rfl (Nat.le_of_ble_eq_true rfl) dX11_wouldStop_18 (Nat.zero_le _) ?_
    refine z_istore C [(7, .int (wPop (ha &&& bu))), (6, .ref (B.1 + 7)), (0, .ref (B.1 + 0)), (1, .int 5), (2, .int lo), (3, .int ha), (4, .int bu), (5, .int d)] dX11_wouldStop_21 (by decide) rfl ?_
    refine z_aload C dX11_wouldStop_23 1 rfl ?_
    refine z_aload C dX11_wouldStop_25 1 rfl ?_
    refine z_iload_n C dX11_wouldStop_27 4 rfl rfl ?_
    refine z_iload C dX11_wouldStop_28 6 rfl ?_
    refine z_iand C dX11_wouldStop_30 ?_
    refine f_callSr C hl (As := [.int (lo &&& bu)]) (rest := [.ref (B.1 + 7), .ref (B.1 + 7)]) (c_J6_bitCount_0f7a4 l B s t (lo &&& bu) (r8_and' hb)) (zCB (nA := 1) C rfl rfl tw_486 tw_19 tw_484 (by decide +kernel) ⟨Nat.le_of_ble_eq_true rfl, Nat.le_of_ble_eq_true rfl⟩) tw_485 rfl rfl (Nat.le_of_ble_eq_true rfl) dX11_wouldStop_31 (Nat.zero_le _) ?_
    refine z_iload C dX11_wouldStop_34 0 rfl ?_
    refine f_callUr C hl (As := [.int (wPop (lo &&& bu)), .int (wPop (ha &&& bu))]) (rest := [.ref (B.1 + 7)]) (c_X5_joyBy l B s t 7 0 (wPop (lo &&& bu)) (wPop (ha &&& bu))) zb_7 (zg_2 zk_7) rfl (zCU (nA := 2) C rfl rfl tw_502 tw_2 tw_490 tw_493 tw_494 tw_491 tw_491 tw_502 (by decide +kernel) ⟨Nat.le_of_ble_eq_true rfl, Nat.le_of_ble_eq_true rfl⟩) rfl rfl (Nat.le_of_ble_eq_true rfl) dX11_wouldStop_36 (Nat.zero_le _) ?_
    refine z_iload C dX11_wouldStop_39 0 rfl ?_
    refine z_iload C dX11_wouldStop_41 7 rfl ?_
    refine f_callUr C hl (As := [.int (2 * (wPop (lo &&& bu)) - 3 * (wPop (ha &&& bu))), .int (wPop (ha &&& bu)), .int d]) (rest := []) (c_X2_refuses l B s t 7 (2 * (wPop (lo &&& bu)) - 3 * (wPop (ha &&& bu))) (wPop (ha &&& bu)) d zk_7 zb_7) zb_7 (zg_2 zk_7) rfl (zCU (nA := 3) C rfl rfl tw_509 tw_7 tw_503 tw_506 tw_507 tw_508 tw_504 tw_523 (by decide +kernel) ⟨Nat.le_of_ble_eq_true rfl, Nat.le_of_ble_eq_true rfl⟩) rfl rfl (Nat.le_of_ble_eq_true rfl) dX11_wouldStop_43 (Nat.zero_le _) ?_
    refine z_zret C E rfl dX11_wouldStop_46 (zi_nar _) rfl (Nat.le_refl _) ⟨by simp [wStop, wRef, wJoy, h2, zi], rfl⟩
  · refine z_iconst C dX11_wouldStop_5 ki_0 ?_
    refine z_zret C E rfl dX11_wouldStop_6 rfl rfl (Nat.le_refl _) ⟨by simp [wStop, wRef, wJoy, h2, zi], rfl⟩
theorem c_X11_wouldStop (l : Launch) (B : zB) (s : zS) (t : zL) (k lo ha bu d : Int32) (hk : ∃ c, c < 6 ∧ k = nI c) (hb : r8 bu) : zD l B mX11_wouldStop s t [.ref (B.1 + 0), .int k, .int lo, .int ha, .int bu, .int d] (some (.int (zi (wStop k lo ha bu d)))) s t := by
  obtain ⟨c, hc, rfl⟩ := hk
  rcases (show c = 0 ∨ c = 1 ∨ c = 2 ∨ c = 3 ∨ c = 4 ∨ c = 5 by omega) with rfl | rfl | rfl | rfl | rfl | rfl
  · exact c_X11_wouldStop0 l B s t lo ha bu d hb
  · exact c_X11_wouldStop1 l B s t lo ha bu d hb
  · exact c_X11_wouldStop2 l B s t lo ha bu d hb
  · exact c_X11_wouldStop3 l B s t lo ha bu d hb
  · exact c_X11_wouldStop4 l B s t lo ha bu d hb
  · exact c_X11_wouldStop5 l B s t lo ha bu d hb
abbrev mX11_costOf : zM := (yX11_costOf, cX11_costOf, 2, (some .int), { frames := 2, cells := 0, slots := 0, locals := 42 })
set_option maxRecDepth 100000 in
set_option maxHeartbeats 4000000 in
theorem c_X11_costOf0 (l : Launch) (B : zB) (s : zS) (t : zL) (o : Nat) (ho : zk o = 0) (lo : o < 124) (hk : s o 0 = 0) : zD l B mX11_costOf s t [.ref (B.1 + 0), .ref (B.1 + o)] (some (.int (wCost (s o 0) (s o 3)))) s t := by
  refine z_met (by decide) (Nat.le_of_ble_eq_true rfl) ?_
  intro X hl C E hnm
  show Zf X B mX11_costOf s t 0 [(0, .ref (B.1 + 0)), (1, .ref (B.1 + o))] []
  refine z_aload_n C dX11_costOf_0 0 rfl rfl ?_
  refine z_aload_n C dX11_costOf_1 1 rfl rfl ?_
  refine f_get0 C 0 (v := .int (s o 0)) (by decide) tw_119 rfl ho lo rfl dX11_costOf_2 ?_
  refine f_topi hk ?_
  refine f_callVr C hl (As := [.int 0]) (rest := []) (c_X11_kindAt0 l B s t) zb_0 (zg_11 zk_0) rfl (zCB (nA := 1) C rfl rfl tw_483 tw_1 tw_480 (by decide +kernel) ⟨Nat.le_of_ble_eq_true rfl, Nat.le_of_ble_eq_true rfl⟩) tw_482 tp_12 rfl rfl (Nat.le_of_ble_eq_true rfl) dX11_costOf_5 (Nat.zero_le _) ?_
  refine z_aload_n C dX11_costOf_8 1 rfl rfl ?_
  refine f_get0 C 3 (v := .int (s o 3)) (by decide) tw_128 rfl ho lo rfl dX11_costOf_9 ?_
  refine f_callVr C hl (As := [.int (s o 3)]) (rest := []) (c_X5_costAt l B s t 2 (s o 3)) zb_2 (zg_5 zk_2) rfl (zCB (nA := 1) C rfl rfl tw_557 tw_2 tw_540 (by decide +kernel) ⟨Nat.le_of_ble_eq_true rfl, Nat.le_of_ble_eq_true rfl⟩) tw_541 tw_542 rfl rfl (Nat.le_of_ble_eq_true rfl) dX11_costOf_12 (Nat.zero_le _) ?_
  refine z_iret C E rfl dX11_costOf_15 rfl (Nat.le_refl _) ⟨by simp [wCost, hk], rfl⟩
abbrev mX11_joyFor : zM := (yX11_joyFor, cX11_joyFor, 3, (some .int), { frames := 2, cells := 0, slots := 0, locals := 44 })
set_option maxRecDepth 100000 in
set_option maxHeartbeats 4000000 in
theorem c_X11_joyFor0 (l : Launch) (B : zB) (s : zS) (t : zL) (o : Nat) (ho : zk o = 0) (lo : o < 124) (hk : s o 0 = 0) (bu : Int32) (hb : r8 bu) : zD l B mX11_joyFor s t [.ref (B.1 + 0), .ref (B.1 + o), .int bu] (some (.int (wJoy (s o 0) (wPop (s o 1 &&& bu)) (wPop (s o 2 &&& bu))))) s t := by
  refine z_met (by decide) (Nat.le_of_ble_eq_true rfl) ?_
  intro X hl C E hnm
  show Zf X B mX11_joyFor s t 0 [(0, .ref (B.1 + 0)), (1, .ref (B.1 + o)), (2, .int bu)] []
  refine z_aload_n C dX11_joyFor_0 0 rfl rfl ?_
  refine z_aload_n C dX11_joyFor_1 1 rfl rfl ?_
  refine f_get0 C 0 (v := .int (s o 0)) (by decide) tw_119 rfl ho lo rfl dX11_joyFor_2 ?_
  refine f_topi hk ?_
  refine f_callVr C hl (As := [.int 0]) (rest := []) (c_X11_kindAt0 l B s t) zb_0 (zg_11 zk_0) rfl (zCB (nA := 1) C rfl rfl tw_483 tw_1 tw_480 (by decide +kernel) ⟨Nat.le_of_ble_eq_true rfl, Nat.le_of_ble_eq_true rfl⟩) tw_482 tp_12 rfl rfl (Nat.le_of_ble_eq_true rfl) dX11_joyFor_5 (Nat.zero_le _) ?_
  refine z_aload_n C dX11_joyFor_8 1 rfl rfl ?_
  refine f_get0 C 1 (v := .int (s o 1)) (by decide) tw_122 rfl ho lo rfl dX11_joyFor_9 ?_
  refine z_iload_n C dX11_joyFor_12 2 rfl rfl ?_
  refine z_iand C dX11_joyFor_13 ?_
  refine f_callSr C hl (As := [.int ((s o 1) &&& bu)]) (rest := [.ref (B.1 + 2)]) (c_J6_bitCount_0f7a4 l B s t ((s o 1) &&& bu) (r8_and' hb)) (zCB (nA := 1) C rfl rfl tw_486 tw_19 tw_484 (by decide +kernel) ⟨Nat.le_of_ble_eq_true rfl, Nat.le_of_ble_eq_true rfl⟩) tw_485 rfl rfl (Nat.le_of_ble_eq_true rfl) dX11_joyFor_14 (Nat.zero_le _) ?_
  refine z_aload_n C dX11_joyFor_17 1 rfl rfl ?_
  refine f_get0 C 2 (v := .int (s o 2)) (by decide) tw_125 rfl ho lo rfl dX11_joyFor_18 ?_
  refine z_iload_n C dX11_joyFor_21 2 rfl rfl ?_
  refine z_iand C dX11_joyFor_22 ?_
  refine f_callSr C hl (As := [.int ((s o 2) &&& bu)]) (rest := [.int (wPop ((s o 1) &&& bu)), .ref (B.1 + 2)]) (c_J6_bitCount_0f7a4 l B s t ((s o 2) &&& bu) (r8_and' hb)) (zCB (nA := 1) C rfl rfl tw_486 tw_19 tw_484 (by decide +kernel) ⟨Nat.le_of_ble_eq_true rfl, Nat.le_of_ble_eq_true rfl⟩) tw_485 rfl rfl (Nat.le_of_ble_eq_true rfl) dX11_joyFor_23 (Nat.zero_le _) ?_
  refine f_callVr C hl (As := [.int (wPop ((s o 1) &&& bu)), .int (wPop ((s o 2) &&& bu))]) (rest := []) (c_X5_joyBy l B s t 2 0 (wPop ((s o 1) &&& bu)) (wPop ((s o 2) &&& bu))) zb_2 (zg_5 zk_2) rfl (zCB (nA := 2) C rfl rfl tw_502 tw_2 tw_490 (by decide +kernel) ⟨Nat.le_of_ble_eq_true rfl, Nat.le_of_ble_eq_true rfl⟩) tw_491 tw_492 rfl rfl (Nat.le_of_ble_eq_true rfl) dX11_joyFor_26 (Nat.zero_le _) ?_
  refine z_iret C E rfl dX11_joyFor_29 rfl (Nat.le_refl _) ⟨by simp [wJoy, hk], rfl⟩
set_option maxRecDepth 100000 in
set_option maxHeartbeats 4000000 in
theorem c_X11_costOf1 (l : Launch) (B : zB) (s : zS) (t : zL) (o : Nat) (ho : zk o = 0) (lo : o < 124) (hk : s o 0 = 1) : zD l B mX11_costOf s t [.ref (B.1 + 0), .ref (B.1 + o)] (some (.int (wCost (s o 0) (s o 3)))) s t := by
  refine z_met (by decide) (Nat.le_of_ble_eq_true rfl) ?_
  intro X hl C E hnm
  show Zf X B mX11_costOf s t 0 [(0, .ref (B.1 + 0)), (1, .ref (B.1 + o))] []
  refine z_aload_n C dX11_costOf_0 0 rfl rfl ?_
  refine z_aload_n C dX11_costOf_1 1 rfl rfl ?_
  refine f_get0 C 0 (v := .int (s o 0)) (by decide) tw_119 rfl ho lo rfl dX11_costOf_2 ?_
  refine f_topi hk ?_
  refine f_callVr C hl (As := [.int 1]) (rest := []) (c_X11_kindAt1 l B s t) zb_0 (zg_11 zk_0) rfl (zCB (nA := 1) C rfl rfl tw_483 tw_1 tw_480 (by decide +kernel) ⟨Nat.le_of_ble_eq_true rfl, Nat.le_of_ble_eq_true rfl⟩) tw_482 tp_12 rfl rfl (Nat.le_of_ble_eq_true rfl) dX11_costOf_5 (Nat.zero_le _) ?_
  refine z_aload_n C dX11_costOf_8 1 rfl rfl ?_
  refine f_get0 C 3 (v := .int (s o 3)) (by decide) tw_128 rfl ho lo rfl dX11_costOf_9 ?_
  refine f_callUr C hl (As := [.int (s o 3)]) (rest := []) (c_X5_costAt l B s t 3 (s o 3)) zb_3 (zg_7 zk_3) rfl (zCU (nA := 1) C rfl rfl tw_557 tw_2 tw_540 tw_543 tw_555 tw_541 tw_541 tw_557 (by decide +kernel) ⟨Nat.le_of_ble_eq_true rfl, Nat.le_of_ble_eq_true rfl⟩) rfl rfl (Nat.le_of_ble_eq_true rfl) dX11_costOf_12 (Nat.zero_le _) ?_
  refine z_iret C E rfl dX11_costOf_15 rfl (Nat.le_refl _) ⟨by simp [wCost, hk], rfl⟩
set_option maxRecDepth 100000 in
set_option maxHeartbeats 4000000 in
theorem c_X11_joyFor1 (l : Launch) (B : zB) (s : zS) (t : zL) (o : Nat) (ho : zk o = 0) (lo : o < 124) (hk : s o 0 = 1) (bu : Int32) (hb : r8 bu) : zD l B mX11_joyFor s t [.ref (B.1 + 0), .ref (B.1 + o), .int bu] (some (.int (wJoy (s o 0) (wPop (s o 1 &&& bu)) (wPop (s o 2 &&& bu))))) s t := by
  refine z_met (by decide) (Nat.le_of_ble_eq_true rfl) ?_
  intro X hl C E hnm
  show Zf X B mX11_joyFor s t 0 [(0, .ref (B.1 + 0)), (1, .ref (B.1 + o)), (2, .int bu)] []
  refine z_aload_n C dX11_joyFor_0 0 rfl rfl ?_
  refine z_aload_n C dX11_joyFor_1 1 rfl rfl ?_
  refine f_get0 C 0 (v := .int (s o 0)) (by decide) tw_119 rfl ho lo rfl dX11_joyFor_2 ?_
  refine f_topi hk ?_
  refine f_callVr C hl (As := [.int 1]) (rest := []) (c_X11_kindAt1 l B s t) zb_0 (zg_11 zk_0) rfl (zCB (nA := 1) C rfl rfl tw_483 tw_1 tw_480 (by decide +kernel) ⟨Nat.le_of_ble_eq_true rfl, Nat.le_of_ble_eq_true rfl⟩) tw_482 tp_12 rfl rfl (Nat.le_of_ble_eq_true rfl) dX11_joyFor_5 (Nat.zero_le _) ?_
  refine z_aload_n C dX11_joyFor_8 1 rfl rfl ?_
  refine f_get0 C 1 (v := .int (s o 1)) (by decide) tw_122 rfl ho lo rfl dX11_joyFor_9 ?_
  refine z_iload_n C dX11_joyFor_12 2 rfl rfl ?_
  refine z_iand C dX11_joyFor_13 ?_
  refine f_callSr C hl (As := [.int ((s o 1) &&& bu)]) (rest := [.ref (B.1 + 3)]) (c_J6_bitCount_0f7a4 l B s t ((s o 1) &&& bu) (r8_and' hb)) (zCB (nA := 1) C rfl rfl tw_486 tw_19 tw_484 (by decide +kernel) ⟨Nat.le_of_ble_eq_true rfl, Nat.le_of_ble_eq_true rfl⟩) tw_485 rfl rfl (Nat.le_of_ble_eq_true rfl) dX11_joyFor_14 (Nat.zero_le _) ?_
  refine z_aload_n C dX11_joyFor_17 1 rfl rfl ?_
  refine f_get0 C 2 (v := .int (s o 2)) (by decide) tw_125 rfl ho lo rfl dX11_joyFor_18 ?_
  refine z_iload_n C dX11_joyFor_21 2 rfl rfl ?_
  refine z_iand C dX11_joyFor_22 ?_
  refine f_callSr C hl (As := [.int ((s o 2) &&& bu)]) (rest := [.int (wPop ((s o 1) &&& bu)), .ref (B.1 + 3)]) (c_J6_bitCount_0f7a4 l B s t ((s o 2) &&& bu) (r8_and' hb)) (zCB (nA := 1) C rfl rfl tw_486 tw_19 tw_484 (by decide +kernel) ⟨Nat.le_of_ble_eq_true rfl, Nat.le_of_ble_eq_true rfl⟩) tw_485 rfl rfl (Nat.le_of_ble_eq_true rfl) dX11_joyFor_23 (Nat.zero_le _) ?_
  refine f_callUr C hl (As := [.int (wPop ((s o 1) &&& bu)), .int (wPop ((s o 2) &&& bu))]) (rest := []) (c_X5_joyBy l B s t 3 0 (wPop ((s o 1) &&& bu)) (wPop ((s o 2) &&& bu))) zb_3 (zg_7 zk_3) rfl (zCU (nA := 2) C rfl rfl tw_502 tw_2 tw_490 tw_493 tw_500 tw_491 tw_491 tw_502 (by decide +kernel) ⟨Nat.le_of_ble_eq_true rfl, Nat.le_of_ble_eq_true rfl⟩) rfl rfl (Nat.le_of_ble_eq_true rfl) dX11_joyFor_26 (Nat.zero_le _) ?_
  refine z_iret C E rfl dX11_joyFor_29 rfl (Nat.le_refl _) ⟨by simp [wJoy, hk], rfl⟩
set_option maxRecDepth 100000 in
set_option maxHeartbeats 4000000 in
theorem c_X11_costOf2 (l : Launch) (B : zB) (s : zS) (t : zL) (o : Nat) (ho : zk o = 0) (lo : o < 124) (hk : s o 0 = 2) : zD l B mX11_costOf s t [.ref (B.1 + 0), .ref (B.1 + o)] (some (.int (wCost (s o 0) (s o 3)))) s t := by
  refine z_met (by decide) (Nat.le_of_ble_eq_true rfl) ?_
  intro X hl C E hnm
  show Zf X B mX11_costOf s t 0 [(0, .ref (B.1 + 0)), (1, .ref (B.1 + o))] []
  refine z_aload_n C dX11_costOf_0 0 rfl rfl ?_
  refine z_aload_n C dX11_costOf_1 1 rfl rfl ?_
  refine f_get0 C 0 (v := .int (s o 0)) (by decide) tw_119 rfl ho lo rfl dX11_costOf_2 ?_
  refine f_topi hk ?_
  refine f_callVr C hl (As := [.int 2]) (rest := []) (c_X11_kindAt2 l B s t) zb_0 (zg_11 zk_0) rfl (zCB (nA := 1) C rfl rfl tw_483 tw_1 tw_480 (by decide +kernel) ⟨Nat.le_of_ble_eq_true rfl, Nat.le_of_ble_eq_true rfl⟩) tw_482 tp_12 rfl rfl (Nat.le_of_ble_eq_true rfl) dX11_costOf_5 (Nat.zero_le _) ?_
  refine z_aload_n C dX11_costOf_8 1 rfl rfl ?_
  refine f_get0 C 3 (v := .int (s o 3)) (by decide) tw_128 rfl ho lo rfl dX11_costOf_9 ?_
  refine f_callUr C hl (As := [.int (s o 3)]) (rest := []) (c_X5_costAt l B s t 4 (s o 3)) zb_4 (zg_10 zk_4) rfl (zCU (nA := 1) C rfl rfl tw_557 tw_2 tw_540 tw_543 tw_556 tw_541 tw_541 tw_557 (by decide +kernel) ⟨Nat.le_of_ble_eq_true rfl, Nat.le_of_ble_eq_true rfl⟩) rfl rfl (Nat.le_of_ble_eq_true rfl) dX11_costOf_12 (Nat.zero_le _) ?_
  refine z_iret C E rfl dX11_costOf_15 rfl (Nat.le_refl _) ⟨by simp [wCost, hk], rfl⟩
set_option maxRecDepth 100000 in
set_option maxHeartbeats 4000000 in
theorem c_X11_joyFor2 (l : Launch) (B : zB) (s : zS) (t : zL) (o : Nat) (ho : zk o = 0) (lo : o < 124) (hk : s o 0 = 2) (bu : Int32) (hb : r8 bu) : zD l B mX11_joyFor s t [.ref (B.1 + 0), .ref (B.1 + o), .int bu] (some (.int (wJoy (s o 0) (wPop (s o 1 &&& bu)) (wPop (s o 2 &&& bu))))) s t := by
  refine z_met (by decide) (Nat.le_of_ble_eq_true rfl) ?_
  intro X hl C E hnm
  show Zf X B mX11_joyFor s t 0 [(0, .ref (B.1 + 0)), (1, .ref (B.1 + o)), (2, .int bu)] []
  refine z_aload_n C dX11_joyFor_0 0 rfl rfl ?_
  refine z_aload_n C dX11_joyFor_1 1 rfl rfl ?_
  refine f_get0 C 0 (v := .int (s o 0)) (by decide) tw_119 rfl ho lo rfl dX11_joyFor_2 ?_
  refine f_topi hk ?_
  refine f_callVr C hl (As := [.int 2]) (rest := []) (c_X11_kindAt2 l B s t) zb_0 (zg_11 zk_0) rfl (zCB (nA := 1) C rfl rfl tw_483 tw_1 tw_480 (by decide +kernel) ⟨Nat.le_of_ble_eq_true rfl, Nat.le_of_ble_eq_true rfl⟩) tw_482 tp_12 rfl rfl (Nat.le_of_ble_eq_true rfl) dX11_joyFor_5 (Nat.zero_le _) ?_
  refine z_aload_n C dX11_joyFor_8 1 rfl rfl ?_
  refine f_get0 C 1 (v := .int (s o 1)) (by decide) tw_122 rfl ho lo rfl dX11_joyFor_9 ?_
  refine z_iload_n C dX11_joyFor_12 2 rfl rfl ?_
  refine z_iand C dX11_joyFor_13 ?_
  refine f_callSr C hl (As := [.int ((s o 1) &&& bu)]) (rest := [.ref (B.1 + 4)]) (c_J6_bitCount_0f7a4 l B s t ((s o 1) &&& bu) (r8_and' hb)) (zCB (nA := 1) C rfl rfl tw_486 tw_19 tw_484 (by decide +kernel) ⟨Nat.le_of_ble_eq_true rfl, Nat.le_of_ble_eq_true rfl⟩) tw_485 rfl rfl (Nat.le_of_ble_eq_true rfl) dX11_joyFor_14 (Nat.zero_le _) ?_
  refine z_aload_n C dX11_joyFor_17 1 rfl rfl ?_
  refine f_get0 C 2 (v := .int (s o 2)) (by decide) tw_125 rfl ho lo rfl dX11_joyFor_18 ?_
  refine z_iload_n C dX11_joyFor_21 2 rfl rfl ?_
  refine z_iand C dX11_joyFor_22 ?_
  refine f_callSr C hl (As := [.int ((s o 2) &&& bu)]) (rest := [.int (wPop ((s o 1) &&& bu)), .ref (B.1 + 4)]) (c_J6_bitCount_0f7a4 l B s t ((s o 2) &&& bu) (r8_and' hb)) (zCB (nA := 1) C rfl rfl tw_486 tw_19 tw_484 (by decide +kernel) ⟨Nat.le_of_ble_eq_true rfl, Nat.le_of_ble_eq_true rfl⟩) tw_485 rfl rfl (Nat.le_of_ble_eq_true rfl) dX11_joyFor_23 (Nat.zero_le _) ?_
  refine f_callUr C hl (As := [.int (wPop ((s o 1) &&& bu)), .int (wPop ((s o 2) &&& bu))]) (rest := []) (c_X10_joyBy l B s t 4 (wPop ((s o 1) &&& bu)) (wPop ((s o 2) &&& bu)) zk_4 zb_4) zb_4 (zg_10 zk_4) rfl (zCU (nA := 2) C rfl rfl tw_497 tw_4 tw_490 tw_493 tw_501 tw_496 tw_491 tw_502 (by decide +kernel) ⟨Nat.le_of_ble_eq_true rfl, Nat.le_of_ble_eq_true rfl⟩) rfl rfl (Nat.le_of_ble_eq_true rfl) dX11_joyFor_26 (Nat.zero_le _) ?_
  refine z_iret C E rfl dX11_joyFor_29 rfl (Nat.le_refl _) ⟨by simp [wJoy, hk], rfl⟩
set_option maxRecDepth 100000 in
set_option maxHeartbeats 4000000 in
theorem c_X11_costOf3 (l : Launch) (B : zB) (s : zS) (t : zL) (o : Nat) (ho : zk o = 0) (lo : o < 124) (hk : s o 0 = 3) : zD l B mX11_costOf s t [.ref (B.1 + 0), .ref (B.1 + o)] (some (.int (wCost (s o 0) (s o 3)))) s t := by
  refine z_met (by decide) (Nat.le_of_ble_eq_true rfl) ?_
  intro X hl C E hnm
  show Zf X B mX11_costOf s t 0 [(0, .ref (B.1 + 0)), (1, .ref (B.1 + o))] []
  refine z_aload_n C dX11_costOf_0 0 rfl rfl ?_
  refine z_aload_n C dX11_costOf_1 1 rfl rfl ?_
  refine f_get0 C 0 (v := .int (s o 0)) (by decide) tw_119 rfl ho lo rfl dX11_costOf_2 ?_
  refine f_topi hk ?_
  refine f_callVr C hl (As := [.int 3]) (rest := []) (c_X11_kindAt3 l B s t) zb_0 (zg_11 zk_0) rfl (zCB (nA := 1) C rfl rfl tw_483 tw_1 tw_480 (by decide +kernel) ⟨Nat.le_of_ble_eq_true rfl, Nat.le_of_ble_eq_true rfl⟩) tw_482 tp_12 rfl rfl (Nat.le_of_ble_eq_true rfl) dX11_costOf_5 (Nat.zero_le _) ?_
  refine z_aload_n C dX11_costOf_8 1 rfl rfl ?_
  refine f_get0 C 3 (v := .int (s o 3)) (by decide) tw_128 rfl ho lo rfl dX11_costOf_9 ?_
  refine f_callUr C hl (As := [.int (s o 3)]) (rest := []) (c_X6_costAt l B s t 5 (s o 3) zk_5 zb_5) zb_5 (zg_6 zk_5) rfl (zCU (nA := 1) C rfl rfl tw_553 tw_5 tw_540 tw_543 tw_551 tw_552 tw_541 tw_557 (by decide +kernel) ⟨Nat.le_of_ble_eq_true rfl, Nat.le_of_ble_eq_true rfl⟩) rfl rfl (Nat.le_of_ble_eq_true rfl) dX11_costOf_12 (Nat.zero_le _) ?_
  refine z_iret C E rfl dX11_costOf_15 rfl (Nat.le_refl _) ⟨by simp [wCost, hk], rfl⟩
set_option maxRecDepth 100000 in
set_option maxHeartbeats 4000000 in
theorem c_X11_joyFor3 (l : Launch) (B : zB) (s : zS) (t : zL) (o : Nat) (ho : zk o = 0) (lo : o < 124) (hk : s o 0 = 3) (bu : Int32) (hb : r8 bu) : zD l B mX11_joyFor s t [.ref (B.1 + 0), .ref (B.1 + o), .int bu] (some (.int (wJoy (s o 0) (wPop (s o 1 &&& bu)) (wPop (s o 2 &&& bu))))) s t := by
  refine z_met (by decide) (Nat.le_of_ble_eq_true rfl) ?_
  intro X hl C E hnm
  show Zf X B mX11_joyFor s t 0 [(0, .ref (B.1 + 0)), (1, .ref (B.1 + o)), (2, .int bu)] []
  refine z_aload_n C dX11_joyFor_0 0 rfl rfl ?_
  refine z_aload_n C dX11_joyFor_1 1 rfl rfl ?_
  refine f_get0 C 0 (v := .int (s o 0)) (by decide) tw_119 rfl ho lo rfl dX11_joyFor_2 ?_
  refine f_topi hk ?_
  refine f_callVr C hl (As := [.int 3]) (rest := []) (c_X11_kindAt3 l B s t) zb_0 (zg_11 zk_0) rfl (zCB (nA := 1) C rfl rfl tw_483 tw_1 tw_480 (by decide +kernel) ⟨Nat.le_of_ble_eq_true rfl, Nat.le_of_ble_eq_true rfl⟩) tw_482 tp_12 rfl rfl (Nat.le_of_ble_eq_true rfl) dX11_joyFor_5 (Nat.zero_le _) ?_
  refine z_aload_n C dX11_joyFor_8 1 rfl rfl ?_
  refine f_get0 C 1 (v := .int (s o 1)) (by decide) tw_122 rfl ho lo rfl dX11_joyFor_9 ?_
  refine z_iload_n C dX11_joyFor_12 2 rfl rfl ?_
  refine z_iand C dX11_joyFor_13 ?_
  refine f_callSr C hl (As := [.int ((s o 1) &&& bu)]) (rest := [.ref (B.1 + 5)]) (c_J6_bitCount_0f7a4 l B s t ((s o 1) &&& bu) (r8_and' hb)) (zCB (nA := 1) C rfl rfl tw_486 tw_19 tw_484 (by decide +kernel) ⟨Nat.le_of_ble_eq_true rfl, Nat.le_of_ble_eq_true rfl⟩) tw_485 rfl rfl (Nat.le_of_ble_eq_true rfl) dX11_joyFor_14 (Nat.zero_le _) ?_
  refine z_aload_n C dX11_joyFor_17 1 rfl rfl ?_
  refine f_get0 C 2 (v := .int (s o 2)) (by decide) tw_125 rfl ho lo rfl dX11_joyFor_18 ?_
  refine z_iload_n C dX11_joyFor_21 2 rfl rfl ?_
  refine z_iand C dX11_joyFor_22 ?_
  refine f_callSr C hl (As := [.int ((s o 2) &&& bu)]) (rest := [.int (wPop ((s o 1) &&& bu)), .ref (B.1 + 5)]) (c_J6_bitCount_0f7a4 l B s t ((s o 2) &&& bu) (r8_and' hb)) (zCB (nA := 1) C rfl rfl tw_486 tw_19 tw_484 (by decide +kernel) ⟨Nat.le_of_ble_eq_true rfl, Nat.le_of_ble_eq_true rfl⟩) tw_485 rfl rfl (Nat.le_of_ble_eq_true rfl) dX11_joyFor_23 (Nat.zero_le _) ?_
  refine f_callUr C hl (As := [.int (wPop ((s o 1) &&& bu)), .int (wPop ((s o 2) &&& bu))]) (rest := []) (c_X5_joyBy l B s t 5 0 (wPop ((s o 1) &&& bu)) (wPop ((s o 2) &&& bu))) zb_5 (zg_6 zk_5) rfl (zCU (nA := 2) C rfl rfl tw_502 tw_2 tw_490 tw_493 tw_499 tw_491 tw_491 tw_502 (by decide +kernel) ⟨Nat.le_of_ble_eq_true rfl, Nat.le_of_ble_eq_true rfl⟩) rfl rfl (Nat.le_of_ble_eq_true rfl) dX11_joyFor_26 (Nat.zero_le _) ?_
  refine z_iret C E rfl dX11_joyFor_29 rfl (Nat.le_refl _) ⟨by simp [wJoy, hk], rfl⟩
set_option maxRecDepth 100000 in
set_option maxHeartbeats 4000000 in
theorem c_X11_costOf4 (l : Launch) (B : zB) (s : zS) (t : zL) (o : Nat) (ho : zk o = 0) (lo : o < 124) (hk : s o 0 = 4) : zD l B mX11_costOf s t [.ref (B.1 + 0), .ref (B.1 + o)] (some (.int (wCost (s o 0) (s o 3)))) s t := by
  refine z_met (by decide) (Nat.le_of_ble_eq_true rfl) ?_
  intro X hl C E hnm
  show Zf X B mX11_costOf s t 0 [(0, .ref (B.1 + 0)), (1, .ref (B.1 + o))] []
  refine z_aload_n C dX11_costOf_0 0 rfl rfl ?_
  refine z_aload_n C dX11_costOf_1 1 rfl rfl ?_
  refine f_get0 C 0 (v := .int (s o 0)) (by decide) tw_119 rfl ho lo rfl dX11_costOf_2 ?_
  refine f_topi hk ?_
  refine f_callVr C hl (As := [.int 4]) (rest := []) (c_X11_kindAt4 l B s t) zb_0 (zg_11 zk_0) rfl (zCB (nA := 1) C rfl rfl tw_483 tw_1 tw_480 (by decide +kernel) ⟨Nat.le_of_ble_eq_true rfl, Nat.le_of_ble_eq_true rfl⟩) tw_482 tp_12 rfl rfl (Nat.le_of_ble_eq_true rfl) dX11_costOf_5 (Nat.zero_le _) ?_
  refine z_aload_n C dX11_costOf_8 1 rfl rfl ?_
  refine f_get0 C 3 (v := .int (s o 3)) (by decide) tw_128 rfl ho lo rfl dX11_costOf_9 ?_
  refine f_callUr C hl (As := [.int (s o 3)]) (rest := []) (c_X5_costAt l B s t 6 (s o 3)) zb_6 (zg_3 zk_6) rfl (zCU (nA := 1) C rfl rfl tw_557 tw_2 tw_540 tw_543 tw_550 tw_541 tw_541 tw_557 (by decide +kernel) ⟨Nat.le_of_ble_eq_true rfl, Nat.le_of_ble_eq_true rfl⟩) rfl rfl (Nat.le_of_ble_eq_true rfl) dX11_costOf_12 (Nat.zero_le _) ?_
  refine z_iret C E rfl dX11_costOf_15 rfl (Nat.le_refl _) ⟨by simp [wCost, hk], rfl⟩
set_option maxRecDepth 100000 in
set_option maxHeartbeats 4000000 in
theorem c_X11_joyFor4 (l : Launch) (B : zB) (s : zS) (t : zL) (o : Nat) (ho : zk o = 0) (lo : o < 124) (hk : s o 0 = 4) (bu : Int32) (hb : r8 bu) : zD l B mX11_joyFor s t [.ref (B.1 + 0), .ref (B.1 + o), .int bu] (some (.int (wJoy (s o 0) (wPop (s o 1 &&& bu)) (wPop (s o 2 &&& bu))))) s t := by
  refine z_met (by decide) (Nat.le_of_ble_eq_true rfl) ?_
  intro X hl C E hnm
  show Zf X B mX11_joyFor s t 0 [(0, .ref (B.1 + 0)), (1, .ref (B.1 + o)), (2, .int bu)] []
  refine z_aload_n C dX11_joyFor_0 0 rfl rfl ?_
  refine z_aload_n C dX11_joyFor_1 1 rfl rfl ?_
  refine f_get0 C 0 (v := .int (s o 0)) (by decide) tw_119 rfl ho lo rfl dX11_joyFor_2 ?_
  refine f_topi hk ?_
  refine f_callVr C hl (As := [.int 4]) (rest := []) (c_X11_kindAt4 l B s t) zb_0 (zg_11 zk_0) rfl (zCB (nA := 1) C rfl rfl tw_483 tw_1 tw_480 (by decide +kernel) ⟨Nat.le_of_ble_eq_true rfl, Nat.le_of_ble_eq_true rfl⟩) tw_482 tp_12 rfl rfl (Nat.le_of_ble_eq_true rfl) dX11_joyFor_5 (Nat.zero_le _) ?_
  refine z_aload_n C dX11_joyFor_8 1 rfl rfl ?_
  refine f_get0 C 1 (v := .int (s o 1)) (by decide) tw_122 rfl ho lo rfl dX11_joyFor_9 ?_
  refine z_iload_n C dX11_joyFor_12 2 rfl rfl ?_
  refine z_iand C dX11_joyFor_13 ?_
  refine f_callSr C hl (As := [.int ((s o 1) &&& bu)]) (rest := [.ref (B.1 + 6)]) (c_J6_bitCount_0f7a4 l B s t ((s o 1) &&& bu) (r8_and' hb)) (zCB (nA := 1) C rfl rfl tw_486 tw_19 tw_484 (by decide +kernel) ⟨Nat.le_of_ble_eq_true rfl, Nat.le_of_ble_eq_true rfl⟩) tw_485 rfl rfl (Nat.le_of_ble_eq_true rfl) dX11_joyFor_14 (Nat.zero_le _) ?_
  refine z_aload_n C dX11_joyFor_17 1 rfl rfl ?_
  refine f_get0 C 2 (v := .int (s o 2)) (by decide) tw_125 rfl ho lo rfl dX11_joyFor_18 ?_
  refine z_iload_n C dX11_joyFor_21 2 rfl rfl ?_
  refine z_iand C dX11_joyFor_22 ?_
  refine f_callSr C hl (As := [.int ((s o 2) &&& bu)]) (rest := [.int (wPop ((s o 1) &&& bu)), .ref (B.1 + 6)]) (c_J6_bitCount_0f7a4 l B s t ((s o 2) &&& bu) (r8_and' hb)) (zCB (nA := 1) C rfl rfl tw_486 tw_19 tw_484 (by decide +kernel) ⟨Nat.le_of_ble_eq_true rfl, Nat.le_of_ble_eq_true rfl⟩) tw_485 rfl rfl (Nat.le_of_ble_eq_true rfl) dX11_joyFor_23 (Nat.zero_le _) ?_
  refine f_callUr C hl (As := [.int (wPop ((s o 1) &&& bu)), .int (wPop ((s o 2) &&& bu))]) (rest := []) (c_X10_joyBy3 l B s t 6 (wPop ((s o 1) &&& bu)) (wPop ((s o 2) &&& bu)) zk_6 zb_6) zb_6 (zg_3 zk_6) rfl (zCU (nA := 2) C rfl rfl tw_497 tw_4 tw_490 tw_493 tw_495 tw_496 tw_491 tw_502 (by decide +kernel) ⟨Nat.le_of_ble_eq_true rfl, Nat.le_of_ble_eq_true rfl⟩) rfl rfl (Nat.le_of_ble_eq_true rfl) dX11_joyFor_26 (Nat.zero_le _) ?_
  refine z_iret C E rfl dX11_joyFor_29 rfl (Nat.le_refl _) ⟨by simp [wJoy, hk], rfl⟩
set_option maxRecDepth 100000 in
set_option maxHeartbeats 4000000 in
theorem c_X11_costOf5 (l : Launch) (B : zB) (s : zS) (t : zL) (o : Nat) (ho : zk o = 0) (lo : o < 124) (hk : s o 0 = 5) : zD l B mX11_costOf s t [.ref (B.1 + 0), .ref (B.1 + o)] (some (.int (wCost (s o 0) (s o 3)))) s t := by
  refine z_met (by decide) (Nat.le_of_ble_eq_true rfl) ?_
  intro X hl C E hnm
  show Zf X B mX11_costOf s t 0 [(0, .ref (B.1 + 0)), (1, .ref (B.1 + o))] []
  refine z_aload_n C dX11_costOf_0 0 rfl rfl ?_
  refine z_aload_n C dX11_costOf_1 1 rfl rfl ?_
  refine f_get0 C 0 (v := .int (s o 0)) (by decide) tw_119 rfl ho lo rfl dX11_costOf_2 ?_
  refine f_topi hk ?_
  refine f_callVr C hl (As := [.int 5]) (rest := []) (c_X11_kindAt5 l B s t) zb_0 (zg_11 zk_0) rfl (zCB (nA := 1) C rfl rfl tw_483 tw_1 tw_480 (by decide +kernel) ⟨Nat.le_of_ble_eq_true rfl, Nat.le_of_ble_eq_true rfl⟩) tw_482 tp_12 rfl rfl (Nat.le_of_ble_eq_true rfl) dX11_costOf_5 (Nat.zero_le _) ?_
  refine z_aload_n C dX11_costOf_8 1 rfl rfl ?_
  refine f_get0 C 3 (v := .int (s o 3)) (by decide) tw_128 rfl ho lo rfl dX11_costOf_9 ?_
  refine f_callUr C hl (As := [.int (s o 3)]) (rest := []) (c_X2_costAt l B s t 7 (s o 3) zk_7 zb_7) zb_7 (zg_2 zk_7) rfl (zCU (nA := 1) C rfl rfl tw_546 tw_7 tw_540 tw_543 tw_544 tw_545 tw_541 tw_557 (by decide +kernel) ⟨Nat.le_of_ble_eq_true rfl, Nat.le_of_ble_eq_true rfl⟩) rfl rfl (Nat.le_of_ble_eq_true rfl) dX11_costOf_12 (Nat.zero_le _) ?_
  refine z_iret C E rfl dX11_costOf_15 rfl (Nat.le_refl _) ⟨by simp [wCost, hk], rfl⟩
set_option maxRecDepth 100000 in
set_option maxHeartbeats 4000000 in
theorem c_X11_joyFor5 (l : Launch) (B : zB) (s : zS) (t : zL) (o : Nat) (ho : zk o = 0) (lo : o < 124) (hk : s o 0 = 5) (bu : Int32) (hb : r8 bu) : zD l B mX11_joyFor s t [.ref (B.1 + 0), .ref (B.1 + o), .int bu] (some (.int (wJoy (s o 0) (wPop (s o 1 &&& bu)) (wPop (s o 2 &&& bu))))) s t := by
  refine z_met (by decide) (Nat.le_of_ble_eq_true rfl) ?_
  intro X hl C E hnm
  show Zf X B mX11_joyFor s t 0 [(0, .ref (B.1 + 0)), (1, .ref (B.1 + o)), (2, .int bu)] []
  refine z_aload_n C dX11_joyFor_0 0 rfl rfl ?_
  refine z_aload_n C dX11_joyFor_1 1 rfl rfl ?_
  refine f_get0 C 0 (v := .int (s o 0)) (by decide) tw_119 rfl ho lo rfl dX11_joyFor_2 ?_
  refine f_topi hk ?_
  refine f_callVr C hl (As := [.int 5]) (rest := []) (c_X11_kindAt5 l B s t) zb_0 (zg_11 zk_0) rfl (zCB (nA := 1) C rfl rfl tw_483 tw_1 tw_480 (by decide +kernel) ⟨Nat.le_of_ble_eq_true rfl, Nat.le_of_ble_eq_true rfl⟩) tw_482 tp_12 rfl rfl (Nat.le_of_ble_eq_true rfl) dX11_joyFor_5 (Nat.zero_le _) ?_
  refine z_aload_n C dX11_joyFor_8 1 rfl rfl ?_
  refine f_get0 C 1 (v := .int (s o 1)) (by decide) tw_122 rfl ho lo rfl dX11_joyFor_9 ?_
  refine z_iload_n C dX11_joyFor_12 2 rfl rfl ?_
  refine z_iand C dX11_joyFor_13 ?_
  refine f_callSr C hl (As := [.int ((s o 1) &&& bu)]) (rest := [.ref (B.1 + 7)]) (c_J6_bitCount_0f7a4 l B s t ((s o 1) &&& bu) (r8_and' hb)) (zCB (nA := 1) C rfl rfl tw_486 tw_19 tw_484 (by decide +kernel) ⟨Nat.le_of_ble_eq_true rfl, Nat.le_of_ble_eq_true rfl⟩) tw_485 rfl rfl (Nat.le_of_ble_eq_true rfl) dX11_joyFor_14 (Nat.zero_le _) ?_
  refine z_aload_n C dX11_joyFor_17 1 rfl rfl ?_
  refine f_get0 C 2 (v := .int (s o 2)) (by decide) tw_125 rfl ho lo rfl dX11_joyFor_18 ?_
  refine z_iload_n C dX11_joyFor_21 2 rfl rfl ?_
  refine z_iand C dX11_joyFor_22 ?_
  refine f_callSr C hl (As := [.int ((s o 2) &&& bu)]) (rest := [.int (wPop ((s o 1) &&& bu)), .ref (B.1 + 7)]) (c_J6_bitCount_0f7a4 l B s t ((s o 2) &&& bu) (r8_and' hb)) (zCB (nA := 1) C rfl rfl tw_486 tw_19 tw_484 (by decide +kernel) ⟨Nat.le_of_ble_eq_true rfl, Nat.le_of_ble_eq_true rfl⟩) tw_485 rfl rfl (Nat.le_of_ble_eq_true rfl) dX11_joyFor_23 (Nat.zero_le _) ?_
  refine f_callUr C hl (As := [.int (wPop ((s o 1) &&& bu)), .int (wPop ((s o 2) &&& bu))]) (rest := []) (c_X5_joyBy l B s t 7 0 (wPop ((s o 1) &&& bu)) (wPop ((s o 2) &&& bu))) zb_7 (zg_2 zk_7) rfl (zCU (nA := 2) C rfl rfl tw_502 tw_2 tw_490 tw_493 tw_494 tw_491 tw_491 tw_502 (by decide +kernel) ⟨Nat.le_of_ble_eq_true rfl, Nat.le_of_ble_eq_true rfl⟩) rfl rfl (Nat.le_of_ble_eq_true rfl) dX11_joyFor_26 (Nat.zero_le _) ?_
  refine z_iret C E rfl dX11_joyFor_29 rfl (Nat.le_refl _) ⟨by simp [wJoy, hk], rfl⟩
theorem c_X11_costOf (l : Launch) (B : zB) (s : zS) (t : zL) (o : Nat) (ho : zk o = 0) (lo : o < 124) (hk : ∃ c, c < 6 ∧ s o 0 = nI c) : zD l B mX11_costOf s t [.ref (B.1 + 0), .ref (B.1 + o)] (some (.int (wCost (s o 0) (s o 3)))) s t := by
  obtain ⟨c, hc, e⟩ := hk
  rcases (show c = 0 ∨ c = 1 ∨ c = 2 ∨ c = 3 ∨ c = 4 ∨ c = 5 by omega) with rfl | rfl | rfl | rfl | rfl | rfl
  · exact c_X11_costOf0 l B s t o ho lo e
  · exact c_X11_costOf1 l B s t o ho lo e
  · exact c_X11_costOf2 l B s t o ho lo e
  · exact c_X11_costOf3 l B s t o ho lo e
  · exact c_X11_costOf4 l B s t o ho lo e
  · exact c_X11_costOf5 l B s t o ho lo e
theorem c_X11_joyFor (l : Launch) (B : zB) (s : zS) (t : zL) (o : Nat) (ho : zk o = 0) (lo : o < 124) (hk : ∃ c, c < 6 ∧ s o 0 = nI c) (bu : Int32) (hb : r8 bu) : zD l B mX11_joyFor s t [.ref (B.1 + 0), .ref (B.1 + o), .int bu] (some (.int (wJoy (s o 0) (wPop (s o 1 &&& bu)) (wPop (s o 2 &&& bu))))) s t := by
  obtain ⟨c, hc, e⟩ := hk
  rcases (show c = 0 ∨ c = 1 ∨ c = 2 ∨ c = 3 ∨ c = 4 ∨ c = 5 by omega) with rfl | rfl | rfl | rfl | rfl | rfl
  · exact c_X11_joyFor0 l B s t o ho lo e bu hb
  · exact c_X11_joyFor1 l B s t o ho lo e bu hb
  · exact c_X11_joyFor2 l B s t o ho lo e bu hb
  · exact c_X11_joyFor3 l B s t o ho lo e bu hb
  · exact c_X11_joyFor4 l B s t o ho lo e bu hb
  · exact c_X11_joyFor5 l B s t o ho lo e bu hb
abbrev mX11_stoppers : zM := (yX11_stoppers, cX11_stoppers, 7, (some .int), { frames := 4, cells := 0, slots := 0, locals := 96 })
set_option maxRecDepth 100000 in
set_option maxHeartbeats 4000000 in
theorem l_X11_stoppers {l : Launch} {B : zB} {s : zS} {t : zL} {X : zX} (hl : X.2.1 = l) (C : zC X B mX11_stoppers) (o : Nat) (ho : zk o = 8) (lo : o < 124) (bu : Int32) (hb : r8 bu) (N : Nat) (hN : s 8 4 = nI N) (h6 : N ≤ 6) (hK : ∀ d, d < N → ∃ c, c < 6 ∧ s (11 + d) 0 = nI c) (E : zE X B mX11_stoppers 124 0 0 (zR B (some (.int (wWho (fun d => s (11 + d) 0) (fun d => s (11 + d) 1) (fun d => s (11 + d) 2) (s o 3 ||| s o 4) (s o 0) bu N))) s t)) : ∀ (m : Nat) (i : Nat) (a : Int32), i + m = N → a = wWho (fun d => s (11 + d) 0) (fun d => s (11 + d) 1) (fun d => s (11 + d) 2) (s o 3 ||| s o 4) (s o 0) bu i → Zf X B mX11_stoppers s t 16 [(5, .int (nI i)), (4, .int a), (3, .int (s o 3 ||| s o 4)), (0, .ref (B.1 + 0)), (1, .ref (B.1 + o)), (2, .int bu)] [] := by
  intro m
  induction m with
  | zero =>
    intro i a hi ha
    obtain rfl : i = N := by omega
    refine z_iload C dX11_stoppers_16 0 rfl ?_
    refine z_aload_n C dX11_stoppers_18 3 rfl rfl ?_
    refine f_get11 C 1 (v := .ref (B.1 + 8)) (by decide) tw_226 rfl zk_0 zb_0 rfl dX11_stoppers_19 ?_
    refine f_get1 C 4 (v := .int (s 8 4)) (by decide) tw_173 rfl zk_8 zb_8 rfl dX11_stoppers_22 ?_
    refine f_topi hN ?_
    refine z_icmp_ge C 97 dX11_stoppers_25 (by decide) (fun _ => ?_) (fun hbr => absurd (Int32.le_refl _) hbr)
    refine z_iload C dX11_stoppers_97 1 rfl ?_
    refine z_iret C E rfl dX11_stoppers_99 rfl (Nat.le_refl _) ⟨by rw [ha], rfl⟩
  | succ m ih =>
    intro i a hi0 ha
    have hi : i < N := by omega
    refine z_iload C dX11_stoppers_16 0 rfl ?_
    refine z_aload_n C dX11_stoppers_18 3 rfl rfl ?_
    refine f_get11 C 1 (v := .ref (B.1 + 8)) (by decide) tw_226 rfl zk_0 zb_0 rfl dX11_stoppers_19 ?_
    refine f_get1 C 4 (v := .int (s 8 4)) (by decide) tw_173 rfl zk_8 zb_8 rfl dX11_stoppers_22 ?_
    refine f_topi hN ?_
    refine z_icmp_ge C 97 dX11_stoppers_25 (by decide) (fun hbr => absurd hbr (nI_ge hi (by omega))) (fun _ => ?_)
    refine z_aload_n C dX11_stoppers_28 3 rfl rfl ?_
    refine f_get11 C 1 (v := .ref (B.1 + 8)) (by decide) tw_226 rfl zk_0 zb_0 rfl dX11_stoppers_29 ?_
    refine z_iload C dX11_stoppers_32 0 rfl ?_
    refine f_callVr C hl (As := [.int (nI i)]) (rest := []) (c_X1_deputyAt8s l B s t i (by omega) (nI i) rfl (by rw [hN]; exact nI_lt hi (by omega))) zb_8 (zg_1 zk_8) rfl (zCB (nA := 1) C rfl rfl tw_424 tw_8 tw_474 (by decide +kernel) ⟨Nat.le_of_ble_eq_true rfl, Nat.le_of_ble_eq_true rfl⟩) tw_422 tw_423 rfl rfl (Nat.le_of_ble_eq_true rfl) dX11_stoppers_34 (Nat.zero_le _) ?_
    refine z_astore C [(6, .ref (B.1 + (11 + i))), (5, .int (nI i)), (4, .int a), (3, .int (s o 3 ||| s o 4)), (0, .ref (B.1 + 0)), (1, .ref (B.1 + o)), (2, .int bu)] dX11_stoppers_37 (by decide) rfl ?_
    refine z_aload C dX11_stoppers_39 0 rfl ?_
    refine z_ifnull C dX11_stoppers_41 ?_
    refine z_iload_n C dX11_stoppers_44 3 rfl rfl ?_
    refine z_iload C dX11_stoppers_45 1 rfl ?_
    refine f_callSr C hl (As := [.int (nI i)]) (rest := [.int (s o 3 ||| s o 4)]) (c_X11_bitOf l B s t (nI i)) (zCB (nA := 1) C rfl rfl tw_431 tw_1 tw_475 (by decide +kernel) ⟨Nat.le_of_ble_eq_true rfl, Nat.le_of_ble_eq_true rfl⟩) tw_430 rfl rfl (Nat.le_of_ble_eq_true rfl) dX11_stoppers_47 (Nat.zero_le _) ?_
    refine z_iand C dX11_stoppers_50 ?_
    refine z_if_ne C 91 dX11_stoppers_51 (by decide) (fun h51 => ?_) (fun h51 => ?_)
    · refine z_iinc C [(5, .int (nI (i + 1))), (6, .ref (B.1 + (11 + i))), (4, .int a), (3, .int (s o 3 ||| s o 4)), (0, .ref (B.1 + 0)), (1, .ref (B.1 + o)), (2, .int bu)] dX11_stoppers_91 1 rfl (nI_inc i) (by decide) rfl ?_
      refine z_goto C 16 dX11_stoppers_94 (by decide) ?_
      exact z_lv [0, 2, 3, 4, 5, 6] rfl (ih (i + 1) _ (by omega) (by simp [wWho, ha, h51]))
    · refine z_aload_n C dX11_stoppers_54 4 rfl rfl ?_
      refine z_aload C dX11_stoppers_55 0 rfl ?_
      refine f_get0 C 0 (v := .int (s (11 + i) 0)) (by decide) tw_119 rfl (zk_dep i (by omega)) (by omega) rfl dX11_stoppers_57 ?_
      refine z_aload C dX11_stoppers_60 0 rfl ?_
      refine f_get0 C 1 (v := .int (s (11 + i) 1)) (by decide) tw_122 rfl (zk_dep i (by omega)) (by omega) rfl dX11_stoppers_62 ?_
      refine z_aload C dX11_stoppers_65 0 rfl ?_
      refine f_get0 C 2 (v := .int (s (11 + i) 2)) (by decide) tw_125 rfl (zk_dep i (by omega)) (by omega) rfl dX11_stoppers_67 ?_
      refine z_iload_n C dX11_stoppers_70 6 rfl rfl ?_
      refine z_aload_n C dX11_stoppers_71 5 rfl rfl ?_
      refine f_get8 C 0 (v := .int (s o 0)) (by decide) tw_84 rfl ho lo rfl dX11_stoppers_72 ?_
      refine f_callVr C hl (As := [.int (s (11 + i) 0), .int (s (11 + i) 1), .int (s (11 + i) 2), .int bu, .int (s o 0)]) (rest := []) (c_X11_wouldStop l B s t (s (11 + i) 0) (s (11 + i) 1) (s (11 + i) 2) bu (s o 0) (hK i hi) hb) zb_0 (zg_11 zk_0) rfl (zCB (nA := 5) C rfl rfl tw_479 tw_1 tw_476 (by decide +kernel) ⟨Nat.le_of_ble_eq_true rfl, Nat.le_of_ble_eq_true rfl⟩) tw_478 tp_11 rfl rfl (Nat.le_of_ble_eq_true rfl) dX11_stoppers_75 (Nat.zero_le _) ?_
      refine z_ifb_eq C 91 dX11_stoppers_78 (by decide) (fun h78 => ?_) (fun h78 => ?_)
      · refine z_iinc C [(5, .int (nI (i + 1))), (6, .ref (B.1 + (11 + i))), (4, .int a), (3, .int (s o 3 ||| s o 4)), (0, .ref (B.1 + 0)), (1, .ref (B.1 + o)), (2, .int bu)] dX11_stoppers_91 1 rfl (nI_inc i) (by decide) rfl ?_
        refine z_goto C 16 dX11_stoppers_94 (by decide) ?_
        exact z_lv [0, 2, 3, 4, 5, 6] rfl (ih (i + 1) _ (by omega) (by simp [wWho, ha, h51, h78]))
      · refine z_iload C dX11_stoppers_81 2 rfl ?_
        refine z_iload C dX11_stoppers_83 1 rfl ?_
        refine f_callSr C hl (As := [.int (nI i)]) (rest := [.int a]) (c_X11_bitOf l B s t (nI i)) (zCB (nA := 1) C rfl rfl tw_431 tw_1 tw_475 (by decide +kernel) ⟨Nat.le_of_ble_eq_true rfl, Nat.le_of_ble_eq_true rfl⟩) tw_430 rfl rfl (Nat.le_of_ble_eq_true rfl) dX11_stoppers_85 (Nat.zero_le _) ?_
        refine z_ior C dX11_stoppers_88 ?_
        refine z_istore C [(4, .int (a ||| (wBit (nI i)))), (6, .ref (B.1 + (11 + i))), (5, .int (nI i)), (3, .int (s o 3 ||| s o 4)), (0, .ref (B.1 + 0)), (1, .ref (B.1 + o)), (2, .int bu)] dX11_stoppers_89 (by decide) rfl ?_
        refine z_iinc C [(5, .int (nI (i + 1))), (4, .int (a ||| (wBit (nI i)))), (6, .ref (B.1 + (11 + i))), (3, .int (s o 3 ||| s o 4)), (0, .ref (B.1 + 0)), (1, .ref (B.1 + o)), (2, .int bu)] dX11_stoppers_91 2 rfl (nI_inc i) (by decide) rfl ?_
        refine z_goto C 16 dX11_stoppers_94 (by decide) ?_
        exact z_lv [0, 1, 3, 4, 5, 6] rfl (ih (i + 1) _ (by omega) (by simp [wWho, ha, h51, h78]))
set_option maxRecDepth 100000 in
set_option maxHeartbeats 4000000 in
theorem c_X11_stoppers (l : Launch) (B : zB) (s : zS) (t : zL) (o : Nat) (ho : zk o = 8) (lo : o < 124) (bu : Int32) (hb : r8 bu) (N : Nat) (hN : s 8 4 = nI N) (h6 : N ≤ 6) (hK : ∀ d, d < N → ∃ c, c < 6 ∧ s (11 + d) 0 = nI c) : zD l B mX11_stoppers s t [.ref (B.1 + 0), .ref (B.1 + o), .int bu] (some (.int (wWho (fun d => s (11 + d) 0) (fun d => s (11 + d) 1) (fun d => s (11 + d) 2) (s o 3 ||| s o 4) (s o 0) bu N))) s t := by
  refine z_met (by decide) (Nat.le_of_ble_eq_true rfl) ?_
  intro X hl C E hnm
  show Zf X B mX11_stoppers s t 0 [(0, .ref (B.1 + 0)), (1, .ref (B.1 + o)), (2, .int bu)] []
  refine z_aload_n C dX11_stoppers_0 1 rfl rfl ?_
  refine f_get8 C 3 (v := .int (s o 3)) (by decide) tw_92 rfl ho lo rfl dX11_stoppers_1 ?_
  refine z_aload_n C dX11_stoppers_4 1 rfl rfl ?_
  refine f_get8 C 4 (v := .int (s o 4)) (by decide) tw_94 rfl ho lo rfl dX11_stoppers_5 ?_
  refine z_ior C dX11_stoppers_8 ?_
  refine z_istore_n C [(3, .int ((s o 3) ||| (s o 4))), (0, .ref (B.1 + 0)), (1, .ref (B.1 + o)), (2, .int bu)] dX11_stoppers_9 rfl (by decide) rfl ?_
  refine z_iconst C dX11_stoppers_10 ki_0 ?_
  refine z_istore C [(4, .int 0), (3, .int ((s o 3) ||| (s o 4))), (0, .ref (B.1 + 0)), (1, .ref (B.1 + o)), (2, .int bu)] dX11_stoppers_11 (by decide) rfl ?_
  refine z_iconst C dX11_stoppers_13 ki_0 ?_
  refine z_istore C [(5, .int 0), (4, .int 0), (3, .int ((s o 3) ||| (s o 4))), (0, .ref (B.1 + 0)), (1, .ref (B.1 + o)), (2, .int bu)] dX11_stoppers_14 (by decide) rfl ?_
  exact z_lv [0, 1, 2, 3, 4, 5] rfl (l_X11_stoppers hl C o ho lo bu hb N hN h6 hK E N 0 0 (by omega) rfl)
abbrev mX11_costOfAll : zM := (yX11_costOfAll, cX11_costOfAll, 5, (some .int), { frames := 3, cells := 0, slots := 0, locals := 63 })
set_option maxRecDepth 100000 in
set_option maxHeartbeats 4000000 in
theorem l_X11_costOfAll {l : Launch} {B : zB} {s : zS} {t : zL} {X : zX} (hl : X.2.1 = l) (C : zC X B mX11_costOfAll) (who : Int32) (N : Nat) (hN : s 8 4 = nI N) (h6 : N ≤ 6) (hK : ∀ d, d < N → ∃ c, c < 6 ∧ s (11 + d) 0 = nI c) (E : zE X B mX11_costOfAll 124 0 0 (zR B (some (.int (wSum (fun d => s (11 + d) 0) (fun d => s (11 + d) 3) who N))) s t)) : ∀ (m : Nat) (i : Nat) (a : Int32), i + m = N → a = wSum (fun d => s (11 + d) 0) (fun d => s (11 + d) 3) who i → Zf X B mX11_costOfAll s t 4 [(3, .int (nI i)), (2, .int a), (0, .ref (B.1 + 0)), (1, .int who)] [] := by
  intro m
  induction m with
  | zero =>
    intro i a hi ha
    obtain rfl : i = N := by omega
    refine z_iload_n C dX11_costOfAll_4 0 rfl rfl ?_
    refine z_aload_n C dX11_costOfAll_5 2 rfl rfl ?_
    refine f_get11 C 1 (v := .ref (B.1 + 8)) (by decide) tw_226 rfl zk_0 zb_0 rfl dX11_costOfAll_6 ?_
    refine f_get1 C 4 (v := .int (s 8 4)) (by decide) tw_173 rfl zk_8 zb_8 rfl dX11_costOfAll_9 ?_
    refine f_topi hN ?_
    refine z_icmp_ge C 54 dX11_costOfAll_12 (by decide) (fun _ => ?_) (fun hbr => absurd (Int32.le_refl _) hbr)
    refine z_iload_n C dX11_costOfAll_54 1 rfl rfl ?_
    refine z_iret C E rfl dX11_costOfAll_55 rfl (Nat.le_refl _) ⟨by rw [ha], rfl⟩
  | succ m ih =>
    intro i a hi0 ha
    have hi : i < N := by omega
    refine z_iload_n C dX11_costOfAll_4 0 rfl rfl ?_
    refine z_aload_n C dX11_costOfAll_5 2 rfl rfl ?_
    refine f_get11 C 1 (v := .ref (B.1 + 8)) (by decide) tw_226 rfl zk_0 zb_0 rfl dX11_costOfAll_6 ?_
    refine f_get1 C 4 (v := .int (s 8 4)) (by decide) tw_173 rfl zk_8 zb_8 rfl dX11_costOfAll_9 ?_
    refine f_topi hN ?_
    refine z_icmp_ge C 54 dX11_costOfAll_12 (by decide) (fun hbr => absurd hbr (nI_ge hi (by omega))) (fun _ => ?_)
    refine z_aload_n C dX11_costOfAll_15 2 rfl rfl ?_
    refine f_get11 C 1 (v := .ref (B.1 + 8)) (by decide) tw_226 rfl zk_0 zb_0 rfl dX11_costOfAll_16 ?_
    refine z_iload_n C dX11_costOfAll_19 0 rfl rfl ?_
    refine f_callVr C hl (As := [.int (nI i)]) (rest := []) (c_X1_deputyAt8s l B s t i (by omega) (nI i) rfl (by rw [hN]; exact nI_lt hi (by omega))) zb_8 (zg_1 zk_8) rfl (zCB (nA := 1) C rfl rfl tw_424 tw_8 tw_474 (by decide +kernel) ⟨Nat.le_of_ble_eq_true rfl, Nat.le_of_ble_eq_true rfl⟩) tw_422 tw_423 rfl rfl (Nat.le_of_ble_eq_true rfl) dX11_costOfAll_20 (Nat.zero_le _) ?_
    refine z_astore C [(4, .ref (B.1 + (11 + i))), (3, .int (nI i)), (2, .int a), (0, .ref (B.1 + 0)), (1, .int who)] dX11_costOfAll_23 (by decide) rfl ?_
    refine z_aload C dX11_costOfAll_25 0 rfl ?_
    refine z_ifnull C dX11_costOfAll_27 ?_
    refine z_iload_n C dX11_costOfAll_30 4 rfl rfl ?_
    refine z_iload_n C dX11_costOfAll_31 1 rfl rfl ?_
    refine f_callSr C hl (As := [.int (nI i)]) (rest := [.int who]) (c_X11_bitOf l B s t (nI i)) (zCB (nA := 1) C rfl rfl tw_431 tw_1 tw_475 (by decide +kernel) ⟨Nat.le_of_ble_eq_true rfl, Nat.le_of_ble_eq_true rfl⟩) tw_430 rfl rfl (Nat.le_of_ble_eq_true rfl) dX11_costOfAll_32 (Nat.zero_le _) ?_
    refine z_iand C dX11_costOfAll_35 ?_
    refine z_if_eq C 48 dX11_costOfAll_36 (by decide) (fun h36 => ?_) (fun h36 => ?_)
    · refine z_iinc C [(3, .int (nI (i + 1))), (4, .ref (B.1 + (11 + i))), (2, .int a), (0, .ref (B.1 + 0)), (1, .int who)] dX11_costOfAll_48 1 rfl (nI_inc i) (by decide) rfl ?_
      refine z_goto C 4 dX11_costOfAll_51 (by decide) ?_
      exact z_lv [0, 2, 3, 4] rfl (ih (i + 1) _ (by omega) (by simp [wSum, ha, h36]))
    · refine z_iload_n C dX11_costOfAll_39 2 rfl rfl ?_
      refine z_aload_n C dX11_costOfAll_40 3 rfl rfl ?_
      refine z_aload C dX11_costOfAll_41 0 rfl ?_
      refine f_callVr C hl (As := [.ref (B.1 + (11 + i))]) (rest := [.int a]) (c_X11_costOf l B s t (11 + i) (zk_dep i (by omega)) (by omega) (hK i hi)) zb_0 (zg_11 zk_0) rfl (zCB (nA := 1) C rfl rfl tw_539 tw_1 tw_536 (by decide +kernel) ⟨Nat.le_of_ble_eq_true rfl, Nat.le_of_ble_eq_true rfl⟩) tw_538 tp_13 rfl rfl (Nat.le_of_ble_eq_true rfl) dX11_costOfAll_43 (Nat.zero_le _) ?_
      refine z_iadd C dX11_costOfAll_46 ?_
      refine z_istore_n C [(2, .int (a + (wCost (s (11 + i) 0) (s (11 + i) 3)))), (4, .ref (B.1 + (11 + i))), (3, .int (nI i)), (0, .ref (B.1 + 0)), (1, .int who)] dX11_costOfAll_47 rfl (by decide) rfl ?_
      refine z_iinc C [(3, .int (nI (i + 1))), (2, .int (a + (wCost (s (11 + i) 0) (s (11 + i) 3)))), (4, .ref (B.1 + (11 + i))), (0, .ref (B.1 + 0)), (1, .int who)] dX11_costOfAll_48 2 rfl (nI_inc i) (by decide) rfl ?_
      refine z_goto C 4 dX11_costOfAll_51 (by decide) ?_
      exact z_lv [0, 1, 3, 4] rfl (ih (i + 1) _ (by omega) (by simp [wSum, ha, h36]))
set_option maxRecDepth 100000 in
set_option maxHeartbeats 4000000 in
theorem c_X11_costOfAll (l : Launch) (B : zB) (s : zS) (t : zL) (who : Int32) (N : Nat) (hN : s 8 4 = nI N) (h6 : N ≤ 6) (hK : ∀ d, d < N → ∃ c, c < 6 ∧ s (11 + d) 0 = nI c) : zD l B mX11_costOfAll s t [.ref (B.1 + 0), .int who] (some (.int (wSum (fun d => s (11 + d) 0) (fun d => s (11 + d) 3) who N))) s t := by
  refine z_met (by decide) (Nat.le_of_ble_eq_true rfl) ?_
  intro X hl C E hnm
  show Zf X B mX11_costOfAll s t 0 [(0, .ref (B.1 + 0)), (1, .int who)] []
  refine z_iconst C dX11_costOfAll_0 ki_0 ?_
  refine z_istore_n C [(2, .int 0), (0, .ref (B.1 + 0)), (1, .int who)] dX11_costOfAll_1 rfl (by decide) rfl ?_
  refine z_iconst C dX11_costOfAll_2 ki_0 ?_
  refine z_istore_n C [(3, .int 0), (2, .int 0), (0, .ref (B.1 + 0)), (1, .int who)] dX11_costOfAll_3 rfl (by decide) rfl ?_
  exact z_lv [0, 1, 2, 3] rfl (l_X11_costOfAll hl C who N hN h6 hK E N 0 0 (by omega) rfl)
abbrev mX11_gladOf : zM := (yX11_gladOf, cX11_gladOf, 5, (some .int), { frames := 3, cells := 0, slots := 0, locals := 66 })
/-- how many have joy of it, of the first n -/
def wGlad (K L H : Nat → Int32) (bu : Int32) : Nat → Int32
  | 0 => 0
  | n + 1 => wGlad K L H bu n + zi (decide (0 < wJoy (K n) (wPop (L n &&& bu)) (wPop (H n &&& bu))))
set_option maxRecDepth 100000 in
set_option maxHeartbeats 4000000 in
theorem l_X11_gladOf {l : Launch} {B : zB} {s : zS} {t : zL} {X : zX} (hl : X.2.1 = l) (C : zC X B mX11_gladOf) (bu : Int32) (hb : r8 bu) (N : Nat) (hN : s 8 4 = nI N) (h6 : N ≤ 6) (hK : ∀ d, d < N → ∃ c, c < 6 ∧ s (11 + d) 0 = nI c) (E : zE X B mX11_gladOf 124 0 0 (zR B (some (.int (wGlad (fun d => s (11 + d) 0) (fun d => s (11 + d) 1) (fun d => s (11 + d) 2) bu N))) s t)) : ∀ (m : Nat) (i : Nat) (a : Int32), i + m = N → a = wGlad (fun d => s (11 + d) 0) (fun d => s (11 + d) 1) (fun d => s (11 + d) 2) bu i → Zf X B mX11_gladOf s t 4 [(3, .int (nI i)), (2, .int a), (0, .ref (B.1 + 0)), (1, .int bu)] [] := by
  intro m
  induction m with
  | zero =>
    intro i a hi ha
    obtain rfl : i = N := by omega
    refine z_iload_n C dX11_gladOf_4 0 rfl rfl ?_
    refine z_aload_n C dX11_gladOf_5 2 rfl rfl ?_
    refine f_get11 C 1 (v := .ref (B.1 + 8)) (by decide) tw_226 rfl zk_0 zb_0 rfl dX11_gladOf_6 ?_
    refine f_get1 C 4 (v := .int (s 8 4)) (by decide) tw_173 rfl zk_8 zb_8 rfl dX11_gladOf_9 ?_
    refine f_topi hN ?_
    refine z_icmp_ge C 57 dX11_gladOf_12 (by decide) (fun _ => ?_) (fun hbr => absurd (Int32.le_refl _) hbr)
    refine z_iload_n C dX11_gladOf_57 1 rfl rfl ?_
    refine z_iret C E rfl dX11_gladOf_58 rfl (Nat.le_refl _) ⟨by rw [ha], rfl⟩
  | succ m ih =>
    intro i a hi0 ha
    have hi : i < N := by omega
    refine z_iload_n C dX11_gladOf_4 0 rfl rfl ?_
    refine z_aload_n C dX11_gladOf_5 2 rfl rfl ?_
    refine f_get11 C 1 (v := .ref (B.1 + 8)) (by decide) tw_226 rfl zk_0 zb_0 rfl dX11_gladOf_6 ?_
    refine f_get1 C 4 (v := .int (s 8 4)) (by decide) tw_173 rfl zk_8 zb_8 rfl dX11_gladOf_9 ?_
    refine f_topi hN ?_
    refine z_icmp_ge C 57 dX11_gladOf_12 (by decide) (fun hbr => absurd hbr (nI_ge hi (by omega))) (fun _ => ?_)
    refine z_aload_n C dX11_gladOf_15 2 rfl rfl ?_
    refine f_get11 C 1 (v := .ref (B.1 + 8)) (by decide) tw_226 rfl zk_0 zb_0 rfl dX11_gladOf_16 ?_
    refine z_iload_n C dX11_gladOf_19 0 rfl rfl ?_
    refine f_callVr C hl (As := [.int (nI i)]) (rest := []) (c_X1_deputyAt8s l B s t i (by omega) (nI i) rfl (by rw [hN]; exact nI_lt hi (by omega))) zb_8 (zg_1 zk_8) rfl (zCB (nA := 1) C rfl rfl tw_424 tw_8 tw_474 (by decide +kernel) ⟨Nat.le_of_ble_eq_true rfl, Nat.le_of_ble_eq_true rfl⟩) tw_422 tw_423 rfl rfl (Nat.le_of_ble_eq_true rfl) dX11_gladOf_20 (Nat.zero_le _) ?_
    refine z_astore C [(4, .ref (B.1 + (11 + i))), (3, .int (nI i)), (2, .int a), (0, .ref (B.1 + 0)), (1, .int bu)] dX11_gladOf_23 (by decide) rfl ?_
    refine z_iload_n C dX11_gladOf_25 2 rfl rfl ?_
    refine z_aload C dX11_gladOf_26 0 rfl ?_
    refine z_ifnull C dX11_gladOf_28 ?_
    refine z_aload_n C dX11_gladOf_31 3 rfl rfl ?_
    refine z_aload C dX11_gladOf_32 0 rfl ?_
    refine z_iload_n C dX11_gladOf_34 4 rfl rfl ?_
    refine f_callVr C hl (As := [.ref (B.1 + (11 + i)), .int bu]) (rest := [.int a]) (c_X11_joyFor l B s t (11 + i) (zk_dep i (by omega)) (by omega) (hK i hi) bu hb) zb_0 (zg_11 zk_0) rfl (zCB (nA := 2) C rfl rfl tw_584 tw_1 tw_581 (by decide +kernel) ⟨Nat.le_of_ble_eq_true rfl, Nat.le_of_ble_eq_true rfl⟩) tw_583 tp_14 rfl rfl (Nat.le_of_ble_eq_true rfl) dX11_gladOf_35 (Nat.zero_le _) ?_
    refine z_if_le C 45 dX11_gladOf_38 (by decide) (fun h38 => ?_) (fun h38 => ?_)
    · refine z_iconst C dX11_gladOf_45 ki_0 ?_
      refine f_callSr C hl (As := [.int 0]) (rest := [.int a]) (c_X11_oneIf l B s t false) (zCB (nA := 1) C rfl rfl tw_576 tw_1 tw_574 (by decide +kernel) ⟨Nat.le_of_ble_eq_true rfl, Nat.le_of_ble_eq_true rfl⟩) tw_575 rfl rfl (Nat.le_of_ble_eq_true rfl) dX11_gladOf_46 (Nat.zero_le _) ?_
      refine z_iadd C dX11_gladOf_49 ?_
      refine z_istore_n C [(2, .int (a + (zi false))), (4, .ref (B.1 + (11 + i))), (3, .int (nI i)), (0, .ref (B.1 + 0)), (1, .int bu)] dX11_gladOf_50 rfl (by decide) rfl ?_
      refine z_iinc C [(3, .int (nI (i + 1))), (2, .int (a + (zi false))), (4, .ref (B.1 + (11 + i))), (0, .ref (B.1 + 0)), (1, .int bu)] dX11_gladOf_51 2 rfl (nI_inc i) (by decide) rfl ?_
      refine z_goto C 4 dX11_gladOf_54 (by decide) ?_
      exact z_lv [0, 1, 3, 4] rfl (ih (i + 1) _ (by omega) (by simp_all [wGlad, zi]))
    · refine z_iconst C dX11_gladOf_41 ki_1 ?_
      refine z_goto C 46 dX11_gladOf_42 (by decide) ?_
      refine f_callSr C hl (As := [.int 1]) (rest := [.int a]) (c_X11_oneIf l B s t true) (zCB (nA := 1) C rfl rfl tw_576 tw_1 tw_574 (by decide +kernel) ⟨Nat.le_of_ble_eq_true rfl, Nat.le_of_ble_eq_true rfl⟩) tw_575 rfl rfl (Nat.le_of_ble_eq_true rfl) dX11_gladOf_46 (Nat.zero_le _) ?_
      refine z_iadd C dX11_gladOf_49 ?_
      refine z_istore_n C [(2, .int (a + (zi true))), (4, .ref (B.1 + (11 + i))), (3, .int (nI i)), (0, .ref (B.1 + 0)), (1, .int bu)] dX11_gladOf_50 rfl (by decide) rfl ?_
      refine z_iinc C [(3, .int (nI (i + 1))), (2, .int (a + (zi true))), (4, .ref (B.1 + (11 + i))), (0, .ref (B.1 + 0)), (1, .int bu)] dX11_gladOf_51 2 rfl (nI_inc i) (by decide) rfl ?_
      refine z_goto C 4 dX11_gladOf_54 (by decide) ?_
      exact z_lv [0, 1, 3, 4] rfl (ih (i + 1) _ (by omega) (by simp_all [wGlad, zi]))
set_option maxRecDepth 100000 in
set_option maxHeartbeats 4000000 in
theorem c_X11_gladOf (l : Launch) (B : zB) (s : zS) (t : zL) (bu : Int32) (hb : r8 bu) (N : Nat) (hN : s 8 4 = nI N) (h6 : N ≤ 6) (hK : ∀ d, d < N → ∃ c, c < 6 ∧ s (11 + d) 0 = nI c) : zD l B mX11_gladOf s t [.ref (B.1 + 0), .int bu] (some (.int (wGlad (fun d => s (11 + d) 0) (fun d => s (11 + d) 1) (fun d => s (11 + d) 2) bu N))) s t := by
  refine z_met (by decide) (Nat.le_of_ble_eq_true rfl) ?_
  intro X hl C E hnm
  show Zf X B mX11_gladOf s t 0 [(0, .ref (B.1 + 0)), (1, .int bu)] []
  refine z_iconst C dX11_gladOf_0 ki_0 ?_
  refine z_istore_n C [(2, .int 0), (0, .ref (B.1 + 0)), (1, .int bu)] dX11_gladOf_1 rfl (by decide) rfl ?_
  refine z_iconst C dX11_gladOf_2 ki_0 ?_
  refine z_istore_n C [(3, .int 0), (2, .int 0), (0, .ref (B.1 + 0)), (1, .int bu)] dX11_gladOf_3 rfl (by decide) rfl ?_
  exact z_lv [0, 1, 2, 3] rfl (l_X11_gladOf hl C bu hb N hN h6 hK E N 0 0 (by omega) rfl)
end
section
theorem zz_end : True := trivial
end
