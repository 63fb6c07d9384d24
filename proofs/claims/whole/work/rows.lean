section
-- ===== PART A: goes FIRST, ahead of the names: the tables' words, and 'selects' of the private methods out of them =====
/-- a private method of a class that the tables say can be made, by its rows of tables_1 -/
def lw_okq (q : MethodName × Nat) : Prop := (q.1.cls ≠ "java/lang/invoke/MethodHandle" ∧ q.1.cls ≠ "java/lang/invoke/VarHandle") ∧ Cond.instantiable q.1.cls q.2 ∈ tables_1 ∧ Cond.privateMethod q.1 ∈ tables_1 ∧ Cond.instanceMethod q.1 ∈ tables_1
theorem lw_p0 : lw_okq (⟨"BoltsByOrder", "tell", "(I)I"⟩, 7) := ⟨⟨by decide +kernel, by decide +kernel⟩, List.mem_of_getElem? (i := 17) (by decide +kernel), List.mem_of_getElem? (i := 227) (by decide +kernel), List.mem_of_getElem? (i := 228) (by decide +kernel)⟩
theorem lw_p1 : lw_okq (⟨"BoltsByOrder", "isRod", "(I)Z"⟩, 7) := ⟨⟨by decide +kernel, by decide +kernel⟩, List.mem_of_getElem? (i := 17) (by decide +kernel), List.mem_of_getElem? (i := 271) (by decide +kernel), List.mem_of_getElem? (i := 272) (by decide +kernel)⟩
theorem lw_p2 : lw_okq (⟨"BoltsByOrder$Plain", "strike", "(I)V"⟩, 7) := ⟨⟨by decide +kernel, by decide +kernel⟩, List.mem_of_getElem? (i := 25) (by decide +kernel), List.mem_of_getElem? (i := 372) (by decide +kernel), List.mem_of_getElem? (i := 373) (by decide +kernel)⟩
theorem lw_p3 : lw_okq (⟨"BoltsByOrder", "raiseGhost", "()V"⟩, 7) := ⟨⟨by decide +kernel, by decide +kernel⟩, List.mem_of_getElem? (i := 17) (by decide +kernel), List.mem_of_getElem? (i := 428) (by decide +kernel), List.mem_of_getElem? (i := 429) (by decide +kernel)⟩
theorem lw_p4 : lw_okq (⟨"BoltsByOrder", "leadGhostToBolt", "()I"⟩, 7) := ⟨⟨by decide +kernel, by decide +kernel⟩, List.mem_of_getElem? (i := 17) (by decide +kernel), List.mem_of_getElem? (i := 448) (by decide +kernel), List.mem_of_getElem? (i := 449) (by decide +kernel)⟩
theorem lw_p5 : lw_okq (⟨"BoltsByOrder", "isGhostStruck", "(II)Z"⟩, 7) := ⟨⟨by decide +kernel, by decide +kernel⟩, List.mem_of_getElem? (i := 17) (by decide +kernel), List.mem_of_getElem? (i := 468) (by decide +kernel), List.mem_of_getElem? (i := 469) (by decide +kernel)⟩
theorem lw_p6 : lw_okq (⟨"BoltsByOrder", "clocksOfBolts", "(II)I"⟩, 7) := ⟨⟨by decide +kernel, by decide +kernel⟩, List.mem_of_getElem? (i := 17) (by decide +kernel), List.mem_of_getElem? (i := 492) (by decide +kernel), List.mem_of_getElem? (i := 493) (by decide +kernel)⟩
theorem lw_p7 : lw_okq (⟨"BoltsByOrder$PlainText", "goToToken", "()V"⟩, 5) := ⟨⟨by decide +kernel, by decide +kernel⟩, List.mem_of_getElem? (i := 130) (by decide +kernel), List.mem_of_getElem? (i := 564) (by decide +kernel), List.mem_of_getElem? (i := 565) (by decide +kernel)⟩
theorem lw_p8 : lw_okq (⟨"BoltsByOrder$PlainText", "numberTold", "()I"⟩, 5) := ⟨⟨by decide +kernel, by decide +kernel⟩, List.mem_of_getElem? (i := 130) (by decide +kernel), List.mem_of_getElem? (i := 571) (by decide +kernel), List.mem_of_getElem? (i := 572) (by decide +kernel)⟩
theorem lw_p9 : lw_okq (⟨"BoltsByOrder$PlainText", "layItem", "(LBoltsByOrder$Plain;)Z"⟩, 5) := ⟨⟨by decide +kernel, by decide +kernel⟩, List.mem_of_getElem? (i := 130) (by decide +kernel), List.mem_of_getElem? (i := 575) (by decide +kernel), List.mem_of_getElem? (i := 576) (by decide +kernel)⟩
theorem lw_p10 : lw_okq (⟨"BoltsByOrder$PlainText", "kindTold", "()I"⟩, 5) := ⟨⟨by decide +kernel, by decide +kernel⟩, List.mem_of_getElem? (i := 130) (by decide +kernel), List.mem_of_getElem? (i := 579) (by decide +kernel), List.mem_of_getElem? (i := 580) (by decide +kernel)⟩
theorem lw_p11 : lw_okq (⟨"BoltsByOrder$PlainText", "isWord", "(Ljava/lang/String;)Z"⟩, 5) := ⟨⟨by decide +kernel, by decide +kernel⟩, List.mem_of_getElem? (i := 130) (by decide +kernel), List.mem_of_getElem? (i := 584) (by decide +kernel), List.mem_of_getElem? (i := 585) (by decide +kernel)⟩
theorem lw_p12 : lw_okq (⟨"BoltsByOrder$PlainText", "layRod", "(LBoltsByOrder$Plain;I)Z"⟩, 5) := ⟨⟨by decide +kernel, by decide +kernel⟩, List.mem_of_getElem? (i := 130) (by decide +kernel), List.mem_of_getElem? (i := 642) (by decide +kernel), List.mem_of_getElem? (i := 643) (by decide +kernel)⟩
theorem lw_p13 : lw_okq (⟨"BoltsByOrder$PlainText", "takeWord", "(Ljava/lang/String;)Z"⟩, 5) := ⟨⟨by decide +kernel, by decide +kernel⟩, List.mem_of_getElem? (i := 130) (by decide +kernel), List.mem_of_getElem? (i := 648) (by decide +kernel), List.mem_of_getElem? (i := 649) (by decide +kernel)⟩
theorem lw_p14 : lw_okq (⟨"BoltsByOrder$PlainText", "isNumber", "(II)Z"⟩, 5) := ⟨⟨by decide +kernel, by decide +kernel⟩, List.mem_of_getElem? (i := 130) (by decide +kernel), List.mem_of_getElem? (i := 652) (by decide +kernel), List.mem_of_getElem? (i := 653) (by decide +kernel)⟩
theorem lw_p15 : lw_okq (⟨"BoltsByOrder$PlainText", "takeNumber", "()I"⟩, 5) := ⟨⟨by decide +kernel, by decide +kernel⟩, List.mem_of_getElem? (i := 130) (by decide +kernel), List.mem_of_getElem? (i := 657) (by decide +kernel), List.mem_of_getElem? (i := 658) (by decide +kernel)⟩
def lw_privs_1 : List (MethodName × Nat) := [(⟨"BoltsByOrder", "tell", "(I)I"⟩, 7), (⟨"BoltsByOrder", "isRod", "(I)Z"⟩, 7), (⟨"BoltsByOrder$Plain", "strike", "(I)V"⟩, 7), (⟨"BoltsByOrder", "raiseGhost", "()V"⟩, 7), (⟨"BoltsByOrder", "leadGhostToBolt", "()I"⟩, 7), (⟨"BoltsByOrder", "isGhostStruck", "(II)Z"⟩, 7), (⟨"BoltsByOrder", "clocksOfBolts", "(II)I"⟩, 7), (⟨"BoltsByOrder$PlainText", "goToToken", "()V"⟩, 5), (⟨"BoltsByOrder$PlainText", "numberTold", "()I"⟩, 5), (⟨"BoltsByOrder$PlainText", "layItem", "(LBoltsByOrder$Plain;)Z"⟩, 5), (⟨"BoltsByOrder$PlainText", "kindTold", "()I"⟩, 5), (⟨"BoltsByOrder$PlainText", "isWord", "(Ljava/lang/String;)Z"⟩, 5), (⟨"BoltsByOrder$PlainText", "layRod", "(LBoltsByOrder$Plain;I)Z"⟩, 5), (⟨"BoltsByOrder$PlainText", "takeWord", "(Ljava/lang/String;)Z"⟩, 5), (⟨"BoltsByOrder$PlainText", "isNumber", "(II)Z"⟩, 5), (⟨"BoltsByOrder$PlainText", "takeNumber", "()I"⟩, 5)]
theorem lw_r1 : ∀ q ∈ lw_privs_1, lw_okq q := List.forall_mem_cons.mpr ⟨lw_p0, List.forall_mem_cons.mpr ⟨lw_p1, List.forall_mem_cons.mpr ⟨lw_p2, List.forall_mem_cons.mpr ⟨lw_p3, List.forall_mem_cons.mpr ⟨lw_p4, List.forall_mem_cons.mpr ⟨lw_p5, List.forall_mem_cons.mpr ⟨lw_p6, List.forall_mem_cons.mpr ⟨lw_p7, List.forall_mem_cons.mpr ⟨lw_p8, List.forall_mem_cons.mpr ⟨lw_p9, List.forall_mem_cons.mpr ⟨lw_p10, List.forall_mem_cons.mpr ⟨lw_p11, List.forall_mem_cons.mpr ⟨lw_p12, List.forall_mem_cons.mpr ⟨lw_p13, List.forall_mem_cons.mpr ⟨lw_p14, List.forall_mem_cons.mpr ⟨lw_p15, fun _ h => absurd h List.not_mem_nil⟩⟩⟩⟩⟩⟩⟩⟩⟩⟩⟩⟩⟩⟩⟩⟩
theorem lw_p16 : lw_okq (⟨"BoltsByOrder$PlainText", "layCloud", "(LBoltsByOrder$Cloud;)Z"⟩, 5) := ⟨⟨by decide +kernel, by decide +kernel⟩, List.mem_of_getElem? (i := 130) (by decide +kernel), List.mem_of_getElem? (i := 666) (by decide +kernel), List.mem_of_getElem? (i := 667) (by decide +kernel)⟩
theorem lw_p17 : lw_okq (⟨"BoltsByOrder$PlainText", "takeCloudPart", "(LBoltsByOrder$Cloud;I)Z"⟩, 5) := ⟨⟨by decide +kernel, by decide +kernel⟩, List.mem_of_getElem? (i := 130) (by decide +kernel), List.mem_of_getElem? (i := 670) (by decide +kernel), List.mem_of_getElem? (i := 671) (by decide +kernel)⟩
theorem lw_p18 : lw_okq (⟨"BoltsByOrder", "findingOfSheet", "(I)I"⟩, 7) := ⟨⟨by decide +kernel, by decide +kernel⟩, List.mem_of_getElem? (i := 17) (by decide +kernel), List.mem_of_getElem? (i := 702) (by decide +kernel), List.mem_of_getElem? (i := 703) (by decide +kernel)⟩
theorem lw_p19 : lw_okq (⟨"BoltsByOrder", "findingOfBook", "(II)I"⟩, 7) := ⟨⟨by decide +kernel, by decide +kernel⟩, List.mem_of_getElem? (i := 17) (by decide +kernel), List.mem_of_getElem? (i := 735) (by decide +kernel), List.mem_of_getElem? (i := 736) (by decide +kernel)⟩
theorem lw_p20 : lw_okq (⟨"BoltsByOrder", "isBooked", "(LBoltsByOrder$Sheet;I)Z"⟩, 7) := ⟨⟨by decide +kernel, by decide +kernel⟩, List.mem_of_getElem? (i := 17) (by decide +kernel), List.mem_of_getElem? (i := 744) (by decide +kernel), List.mem_of_getElem? (i := 745) (by decide +kernel)⟩
theorem lw_p21 : lw_okq (⟨"BoltsByOrderModel", "finds", "(I)I"⟩, 24) := ⟨⟨by decide +kernel, by decide +kernel⟩, List.mem_of_getElem? (i := 775) (by decide +kernel), List.mem_of_getElem? (i := 865) (by decide +kernel), List.mem_of_getElem? (i := 866) (by decide +kernel)⟩
theorem lw_p22 : lw_okq (⟨"BoltsByOrderModel", "addRod", "(IIIII)V"⟩, 24) := ⟨⟨by decide +kernel, by decide +kernel⟩, List.mem_of_getElem? (i := 775) (by decide +kernel), List.mem_of_getElem? (i := 881) (by decide +kernel), List.mem_of_getElem? (i := 882) (by decide +kernel)⟩
theorem lw_p23 : lw_okq (⟨"BoltsByOrderModel", "puts", "(III)V"⟩, 24) := ⟨⟨by decide +kernel, by decide +kernel⟩, List.mem_of_getElem? (i := 775) (by decide +kernel), List.mem_of_getElem? (i := 885) (by decide +kernel), List.mem_of_getElem? (i := 886) (by decide +kernel)⟩
theorem lw_p24 : lw_okq (⟨"BoltsByOrderModel", "isRod", "(I)Z"⟩, 24) := ⟨⟨by decide +kernel, by decide +kernel⟩, List.mem_of_getElem? (i := 775) (by decide +kernel), List.mem_of_getElem? (i := 893) (by decide +kernel), List.mem_of_getElem? (i := 894) (by decide +kernel)⟩
theorem lw_p25 : lw_okq (⟨"BoltsByOrderModel", "draws", "(II)I"⟩, 24) := ⟨⟨by decide +kernel, by decide +kernel⟩, List.mem_of_getElem? (i := 775) (by decide +kernel), List.mem_of_getElem? (i := 897) (by decide +kernel), List.mem_of_getElem? (i := 898) (by decide +kernel)⟩
theorem lw_p26 : lw_okq (⟨"BoltsByOrderModel", "its", "(II)I"⟩, 24) := ⟨⟨by decide +kernel, by decide +kernel⟩, List.mem_of_getElem? (i := 775) (by decide +kernel), List.mem_of_getElem? (i := 901) (by decide +kernel), List.mem_of_getElem? (i := 902) (by decide +kernel)⟩
theorem lw_p27 : lw_okq (⟨"BoltsByOrderModel", "owes", "(II)I"⟩, 24) := ⟨⟨by decide +kernel, by decide +kernel⟩, List.mem_of_getElem? (i := 775) (by decide +kernel), List.mem_of_getElem? (i := 908) (by decide +kernel), List.mem_of_getElem? (i := 909) (by decide +kernel)⟩
theorem lw_p28 : lw_okq (⟨"BoltsByOrderModel", "isPaid", "(I)Z"⟩, 24) := ⟨⟨by decide +kernel, by decide +kernel⟩, List.mem_of_getElem? (i := 775) (by decide +kernel), List.mem_of_getElem? (i := 912) (by decide +kernel), List.mem_of_getElem? (i := 913) (by decide +kernel)⟩
theorem lw_p29 : lw_okq (⟨"BoltsByOrderModel", "clock", "()I"⟩, 24) := ⟨⟨by decide +kernel, by decide +kernel⟩, List.mem_of_getElem? (i := 775) (by decide +kernel), List.mem_of_getElem? (i := 916) (by decide +kernel), List.mem_of_getElem? (i := 917) (by decide +kernel)⟩
theorem lw_p30 : lw_okq (⟨"BoltsByOrderModel", "paidMany", "(I)I"⟩, 24) := ⟨⟨by decide +kernel, by decide +kernel⟩, List.mem_of_getElem? (i := 775) (by decide +kernel), List.mem_of_getElem? (i := 920) (by decide +kernel), List.mem_of_getElem? (i := 921) (by decide +kernel)⟩
theorem lw_p31 : lw_okq (⟨"BoltsByOrderModel", "comesDown", "(I)V"⟩, 24) := ⟨⟨by decide +kernel, by decide +kernel⟩, List.mem_of_getElem? (i := 775) (by decide +kernel), List.mem_of_getElem? (i := 945) (by decide +kernel), List.mem_of_getElem? (i := 946) (by decide +kernel)⟩
def lw_privs_2 : List (MethodName × Nat) := [(⟨"BoltsByOrder$PlainText", "layCloud", "(LBoltsByOrder$Cloud;)Z"⟩, 5), (⟨"BoltsByOrder$PlainText", "takeCloudPart", "(LBoltsByOrder$Cloud;I)Z"⟩, 5), (⟨"BoltsByOrder", "findingOfSheet", "(I)I"⟩, 7), (⟨"BoltsByOrder", "findingOfBook", "(II)I"⟩, 7), (⟨"BoltsByOrder", "isBooked", "(LBoltsByOrder$Sheet;I)Z"⟩, 7), (⟨"BoltsByOrderModel", "finds", "(I)I"⟩, 24), (⟨"BoltsByOrderModel", "addRod", "(IIIII)V"⟩, 24), (⟨"BoltsByOrderModel", "puts", "(III)V"⟩, 24), (⟨"BoltsByOrderModel", "isRod", "(I)Z"⟩, 24), (⟨"BoltsByOrderModel", "draws", "(II)I"⟩, 24), (⟨"BoltsByOrderModel", "its", "(II)I"⟩, 24), (⟨"BoltsByOrderModel", "owes", "(II)I"⟩, 24), (⟨"BoltsByOrderModel", "isPaid", "(I)Z"⟩, 24), (⟨"BoltsByOrderModel", "clock", "()I"⟩, 24), (⟨"BoltsByOrderModel", "paidMany", "(I)I"⟩, 24), (⟨"BoltsByOrderModel", "comesDown", "(I)V"⟩, 24)]
theorem lw_r2 : ∀ q ∈ lw_privs_2, lw_okq q := List.forall_mem_cons.mpr ⟨lw_p16, List.forall_mem_cons.mpr ⟨lw_p17, List.forall_mem_cons.mpr ⟨lw_p18, List.forall_mem_cons.mpr ⟨lw_p19, List.forall_mem_cons.mpr ⟨lw_p20, List.forall_mem_cons.mpr ⟨lw_p21, List.forall_mem_cons.mpr ⟨lw_p22, List.forall_mem_cons.mpr ⟨lw_p23, List.forall_mem_cons.mpr ⟨lw_p24, List.forall_mem_cons.mpr ⟨lw_p25, List.forall_mem_cons.mpr ⟨lw_p26, List.forall_mem_cons.mpr ⟨lw_p27, List.forall_mem_cons.mpr ⟨lw_p28, List.forall_mem_cons.mpr ⟨lw_p29, List.forall_mem_cons.mpr ⟨lw_p30, List.forall_mem_cons.mpr ⟨lw_p31, fun _ h => absurd h List.not_mem_nil⟩⟩⟩⟩⟩⟩⟩⟩⟩⟩⟩⟩⟩⟩⟩⟩
theorem lw_p32 : lw_okq (⟨"BoltsByOrderModel", "passes", "(I)V"⟩, 24) := ⟨⟨by decide +kernel, by decide +kernel⟩, List.mem_of_getElem? (i := 775) (by decide +kernel), List.mem_of_getElem? (i := 958) (by decide +kernel), List.mem_of_getElem? (i := 959) (by decide +kernel)⟩
theorem lw_p33 : lw_okq (⟨"BoltsByOrderModel", "oneHour", "()V"⟩, 24) := ⟨⟨by decide +kernel, by decide +kernel⟩, List.mem_of_getElem? (i := 775) (by decide +kernel), List.mem_of_getElem? (i := 962) (by decide +kernel), List.mem_of_getElem? (i := 963) (by decide +kernel)⟩
theorem lw_p34 : lw_okq (⟨"BoltsByOrderModel", "doesBreak", "()Z"⟩, 24) := ⟨⟨by decide +kernel, by decide +kernel⟩, List.mem_of_getElem? (i := 775) (by decide +kernel), List.mem_of_getElem? (i := 966) (by decide +kernel), List.mem_of_getElem? (i := 967) (by decide +kernel)⟩
theorem lw_p35 : lw_okq (⟨"BoltsByOrderModel", "bolt", "()V"⟩, 24) := ⟨⟨by decide +kernel, by decide +kernel⟩, List.mem_of_getElem? (i := 775) (by decide +kernel), List.mem_of_getElem? (i := 970) (by decide +kernel), List.mem_of_getElem? (i := 971) (by decide +kernel)⟩
theorem lw_p36 : lw_okq (⟨"BoltsByOrderModel", "struckAt", "(I)I"⟩, 24) := ⟨⟨by decide +kernel, by decide +kernel⟩, List.mem_of_getElem? (i := 775) (by decide +kernel), List.mem_of_getElem? (i := 974) (by decide +kernel), List.mem_of_getElem? (i := 975) (by decide +kernel)⟩
theorem lw_p37 : lw_okq (⟨"BoltsByOrderModel", "sumOf", "(I)I"⟩, 24) := ⟨⟨by decide +kernel, by decide +kernel⟩, List.mem_of_getElem? (i := 775) (by decide +kernel), List.mem_of_getElem? (i := 979) (by decide +kernel), List.mem_of_getElem? (i := 980) (by decide +kernel)⟩
theorem lw_p38 : lw_okq (⟨"BoltsByOrderModel", "paidOnes", "()I"⟩, 24) := ⟨⟨by decide +kernel, by decide +kernel⟩, List.mem_of_getElem? (i := 775) (by decide +kernel), List.mem_of_getElem? (i := 996) (by decide +kernel), List.mem_of_getElem? (i := 997) (by decide +kernel)⟩
theorem lw_p39 : lw_okq (⟨"BoltsByOrderModel", "onOf", "(III)I"⟩, 24) := ⟨⟨by decide +kernel, by decide +kernel⟩, List.mem_of_getElem? (i := 775) (by decide +kernel), List.mem_of_getElem? (i := 1004) (by decide +kernel), List.mem_of_getElem? (i := 1005) (by decide +kernel)⟩
theorem lw_p40 : lw_okq (⟨"BoltsByOrderModel", "moveAll", "(Z[I)V"⟩, 24) := ⟨⟨by decide +kernel, by decide +kernel⟩, List.mem_of_getElem? (i := 775) (by decide +kernel), List.mem_of_getElem? (i := 1008) (by decide +kernel), List.mem_of_getElem? (i := 1009) (by decide +kernel)⟩
theorem lw_p41 : lw_okq (⟨"BoltsByOrderModel", "findNext", "()Z"⟩, 24) := ⟨⟨by decide +kernel, by decide +kernel⟩, List.mem_of_getElem? (i := 775) (by decide +kernel), List.mem_of_getElem? (i := 1016) (by decide +kernel), List.mem_of_getElem? (i := 1017) (by decide +kernel)⟩
theorem lw_p42 : lw_okq (⟨"BoltsByOrderModel", "isStruckBy", "(II)Z"⟩, 24) := ⟨⟨by decide +kernel, by decide +kernel⟩, List.mem_of_getElem? (i := 775) (by decide +kernel), List.mem_of_getElem? (i := 1033) (by decide +kernel), List.mem_of_getElem? (i := 1034) (by decide +kernel)⟩
theorem lw_p43 : lw_okq (⟨"BoltsByOrderModel", "clocksOf", "(II)I"⟩, 24) := ⟨⟨by decide +kernel, by decide +kernel⟩, List.mem_of_getElem? (i := 775) (by decide +kernel), List.mem_of_getElem? (i := 1057) (by decide +kernel), List.mem_of_getElem? (i := 1058) (by decide +kernel)⟩
theorem lw_p44 : lw_okq (⟨"BoltsByOrderModel", "fewest", "(I)I"⟩, 24) := ⟨⟨by decide +kernel, by decide +kernel⟩, List.mem_of_getElem? (i := 775) (by decide +kernel), List.mem_of_getElem? (i := 1065) (by decide +kernel), List.mem_of_getElem? (i := 1066) (by decide +kernel)⟩
theorem lw_p45 : lw_okq (⟨"BoltsByOrderModel", "drawAll", "()I"⟩, 24) := ⟨⟨by decide +kernel, by decide +kernel⟩, List.mem_of_getElem? (i := 775) (by decide +kernel), List.mem_of_getElem? (i := 1084) (by decide +kernel), List.mem_of_getElem? (i := 1085) (by decide +kernel)⟩
theorem lw_p46 : lw_okq (⟨"BoltsByOrderModel", "advance", "()V"⟩, 24) := ⟨⟨by decide +kernel, by decide +kernel⟩, List.mem_of_getElem? (i := 775) (by decide +kernel), List.mem_of_getElem? (i := 1107) (by decide +kernel), List.mem_of_getElem? (i := 1108) (by decide +kernel)⟩
theorem lw_p47 : lw_okq (⟨"BoltsByOrderModel", "byteAt", "(I)I"⟩, 24) := ⟨⟨by decide +kernel, by decide +kernel⟩, List.mem_of_getElem? (i := 775) (by decide +kernel), List.mem_of_getElem? (i := 1111) (by decide +kernel), List.mem_of_getElem? (i := 1112) (by decide +kernel)⟩
def lw_privs_3 : List (MethodName × Nat) := [(⟨"BoltsByOrderModel", "passes", "(I)V"⟩, 24), (⟨"BoltsByOrderModel", "oneHour", "()V"⟩, 24), (⟨"BoltsByOrderModel", "doesBreak", "()Z"⟩, 24), (⟨"BoltsByOrderModel", "bolt", "()V"⟩, 24), (⟨"BoltsByOrderModel", "struckAt", "(I)I"⟩, 24), (⟨"BoltsByOrderModel", "sumOf", "(I)I"⟩, 24), (⟨"BoltsByOrderModel", "paidOnes", "()I"⟩, 24), (⟨"BoltsByOrderModel", "onOf", "(III)I"⟩, 24), (⟨"BoltsByOrderModel", "moveAll", "(Z[I)V"⟩, 24), (⟨"BoltsByOrderModel", "findNext", "()Z"⟩, 24), (⟨"BoltsByOrderModel", "isStruckBy", "(II)Z"⟩, 24), (⟨"BoltsByOrderModel", "clocksOf", "(II)I"⟩, 24), (⟨"BoltsByOrderModel", "fewest", "(I)I"⟩, 24), (⟨"BoltsByOrderModel", "drawAll", "()I"⟩, 24), (⟨"BoltsByOrderModel", "advance", "()V"⟩, 24), (⟨"BoltsByOrderModel", "byteAt", "(I)I"⟩, 24)]
theorem lw_r3 : ∀ q ∈ lw_privs_3, lw_okq q := List.forall_mem_cons.mpr ⟨lw_p32, List.forall_mem_cons.mpr ⟨lw_p33, List.forall_mem_cons.mpr ⟨lw_p34, List.forall_mem_cons.mpr ⟨lw_p35, List.forall_mem_cons.mpr ⟨lw_p36, List.forall_mem_cons.mpr ⟨lw_p37, List.forall_mem_cons.mpr ⟨lw_p38, List.forall_mem_cons.mpr ⟨lw_p39, List.forall_mem_cons.mpr ⟨lw_p40, List.forall_mem_cons.mpr ⟨lw_p41, List.forall_mem_cons.mpr ⟨lw_p42, List.forall_mem_cons.mpr ⟨lw_p43, List.forall_mem_cons.mpr ⟨lw_p44, List.forall_mem_cons.mpr ⟨lw_p45, List.forall_mem_cons.mpr ⟨lw_p46, List.forall_mem_cons.mpr ⟨lw_p47, fun _ h => absurd h List.not_mem_nil⟩⟩⟩⟩⟩⟩⟩⟩⟩⟩⟩⟩⟩⟩⟩⟩
theorem lw_p48 : lw_okq (⟨"BoltsByOrderModel", "wantItem", "()V"⟩, 24) := ⟨⟨by decide +kernel, by decide +kernel⟩, List.mem_of_getElem? (i := 775) (by decide +kernel), List.mem_of_getElem? (i := 1124) (by decide +kernel), List.mem_of_getElem? (i := 1125) (by decide +kernel)⟩
theorem lw_p49 : lw_okq (⟨"BoltsByOrderModel", "kindHere", "()I"⟩, 24) := ⟨⟨by decide +kernel, by decide +kernel⟩, List.mem_of_getElem? (i := 775) (by decide +kernel), List.mem_of_getElem? (i := 1128) (by decide +kernel), List.mem_of_getElem? (i := 1129) (by decide +kernel)⟩
theorem lw_p50 : lw_okq (⟨"BoltsByOrderModel", "isWord", "(J)Z"⟩, 24) := ⟨⟨by decide +kernel, by decide +kernel⟩, List.mem_of_getElem? (i := 775) (by decide +kernel), List.mem_of_getElem? (i := 1133) (by decide +kernel), List.mem_of_getElem? (i := 1134) (by decide +kernel)⟩
theorem lw_p51 : lw_okq (⟨"BoltsByOrderModel", "wantRod", "(I)V"⟩, 24) := ⟨⟨by decide +kernel, by decide +kernel⟩, List.mem_of_getElem? (i := 775) (by decide +kernel), List.mem_of_getElem? (i := 1142) (by decide +kernel), List.mem_of_getElem? (i := 1143) (by decide +kernel)⟩
theorem lw_p52 : lw_okq (⟨"BoltsByOrderModel", "wantNumber", "(II)I"⟩, 24) := ⟨⟨by decide +kernel, by decide +kernel⟩, List.mem_of_getElem? (i := 775) (by decide +kernel), List.mem_of_getElem? (i := 1147) (by decide +kernel), List.mem_of_getElem? (i := 1148) (by decide +kernel)⟩
theorem lw_p53 : lw_okq (⟨"BoltsByOrderModel", "mayWant", "(JIII)I"⟩, 24) := ⟨⟨by decide +kernel, by decide +kernel⟩, List.mem_of_getElem? (i := 775) (by decide +kernel), List.mem_of_getElem? (i := 1152) (by decide +kernel), List.mem_of_getElem? (i := 1153) (by decide +kernel)⟩
theorem lw_p54 : lw_okq (⟨"BoltsByOrderModel", "wantCloud", "()V"⟩, 24) := ⟨⟨by decide +kernel, by decide +kernel⟩, List.mem_of_getElem? (i := 775) (by decide +kernel), List.mem_of_getElem? (i := 1159) (by decide +kernel), List.mem_of_getElem? (i := 1160) (by decide +kernel)⟩
theorem lw_p55 : lw_okq (⟨"BoltsByOrderModel", "wantRule", "(III)V"⟩, 24) := ⟨⟨by decide +kernel, by decide +kernel⟩, List.mem_of_getElem? (i := 775) (by decide +kernel), List.mem_of_getElem? (i := 1168) (by decide +kernel), List.mem_of_getElem? (i := 1169) (by decide +kernel)⟩
theorem lw_p56 : lw_okq (⟨"BoltsByOrderModel", "isPart", "(III)Z"⟩, 24) := ⟨⟨by decide +kernel, by decide +kernel⟩, List.mem_of_getElem? (i := 775) (by decide +kernel), List.mem_of_getElem? (i := 1193) (by decide +kernel), List.mem_of_getElem? (i := 1194) (by decide +kernel)⟩
theorem lw_p57 : lw_okq (⟨"BoltsByOrderModel", "badSheet", "(I)I"⟩, 24) := ⟨⟨by decide +kernel, by decide +kernel⟩, List.mem_of_getElem? (i := 775) (by decide +kernel), List.mem_of_getElem? (i := 1201) (by decide +kernel), List.mem_of_getElem? (i := 1202) (by decide +kernel)⟩
theorem lw_p58 : lw_okq (⟨"BoltsByOrderModel", "isSo", "(II)Z"⟩, 24) := ⟨⟨by decide +kernel, by decide +kernel⟩, List.mem_of_getElem? (i := 775) (by decide +kernel), List.mem_of_getElem? (i := 1214) (by decide +kernel), List.mem_of_getElem? (i := 1215) (by decide +kernel)⟩
theorem lw_p59 : lw_okq (⟨"BoltsByOrderModel", "paidAll", "()I"⟩, 24) := ⟨⟨by decide +kernel, by decide +kernel⟩, List.mem_of_getElem? (i := 775) (by decide +kernel), List.mem_of_getElem? (i := 1234) (by decide +kernel), List.mem_of_getElem? (i := 1235) (by decide +kernel)⟩
def lw_privs_4 : List (MethodName × Nat) := [(⟨"BoltsByOrderModel", "wantItem", "()V"⟩, 24), (⟨"BoltsByOrderModel", "kindHere", "()I"⟩, 24), (⟨"BoltsByOrderModel", "isWord", "(J)Z"⟩, 24), (⟨"BoltsByOrderModel", "wantRod", "(I)V"⟩, 24), (⟨"BoltsByOrderModel", "wantNumber", "(II)I"⟩, 24), (⟨"BoltsByOrderModel", "mayWant", "(JIII)I"⟩, 24), (⟨"BoltsByOrderModel", "wantCloud", "()V"⟩, 24), (⟨"BoltsByOrderModel", "wantRule", "(III)V"⟩, 24), (⟨"BoltsByOrderModel", "isPart", "(III)Z"⟩, 24), (⟨"BoltsByOrderModel", "badSheet", "(I)I"⟩, 24), (⟨"BoltsByOrderModel", "isSo", "(II)Z"⟩, 24), (⟨"BoltsByOrderModel", "paidAll", "()I"⟩, 24)]
theorem lw_r4 : ∀ q ∈ lw_privs_4, lw_okq q := List.forall_mem_cons.mpr ⟨lw_p48, List.forall_mem_cons.mpr ⟨lw_p49, List.forall_mem_cons.mpr ⟨lw_p50, List.forall_mem_cons.mpr ⟨lw_p51, List.forall_mem_cons.mpr ⟨lw_p52, List.forall_mem_cons.mpr ⟨lw_p53, List.forall_mem_cons.mpr ⟨lw_p54, List.forall_mem_cons.mpr ⟨lw_p55, List.forall_mem_cons.mpr ⟨lw_p56, List.forall_mem_cons.mpr ⟨lw_p57, List.forall_mem_cons.mpr ⟨lw_p58, List.forall_mem_cons.mpr ⟨lw_p59, fun _ h => absurd h List.not_mem_nil⟩⟩⟩⟩⟩⟩⟩⟩⟩⟩⟩⟩
def lw_privs : List (MethodName × Nat) := lw_privs_1 ++ (lw_privs_2 ++ (lw_privs_3 ++ (lw_privs_4)))
def lw_tbl : List Cond := k2_sels lw_privs ++ tables_1
theorem lw_privs_ok : ∀ q ∈ lw_privs, lw_okq q := by
  show ∀ q ∈ lw_privs_1 ++ (lw_privs_2 ++ (lw_privs_3 ++ (lw_privs_4))), lw_okq q
  exact List.forall_mem_append.mpr ⟨lw_r1, List.forall_mem_append.mpr ⟨lw_r2, List.forall_mem_append.mpr ⟨lw_r3, lw_r4⟩⟩⟩

/-- the words that stay true under what is resolved: any method may ask for all of them -/
def gt : List Cond := lw_tbl.filter goodWord
theorem gt_at (i : Nat) {w : Cond} (h : lw_tbl[i]? = some w) (g : goodWord w = true) : w ∈ gt := List.mem_filter.mpr ⟨List.mem_of_getElem? h, g⟩
theorem gt_good {w : Cond} (h : w ∈ gt) : (w.onTables && w.keeps) = true ∨ ∃ ty, w = .arrayClass ty := good_of_word (List.mem_filter.mp h).2
theorem gt_tbl {w : Cond} (h : w ∈ gt) : w ∈ lw_tbl := (List.mem_filter.mp h).1
end
section
def RX0 : String := "BoltsByOrder$Cloud"
def TX0 : u_T := fun k => match k with
  | 0 => ("BoltsByOrder$Cloud", "place", "I", false)
  | 1 => ("BoltsByOrder$Cloud", "charge", "I", false)
  | 2 => ("BoltsByOrder$Cloud", "drift", "I", false)
  | 3 => ("BoltsByOrder$Cloud", "grows", "I", false)
  | _ => ("BoltsByOrder$Cloud", "breaks", "I", false)
def tyX0 : Nat → FieldType := fun k => match k with
  | 0 => .int
  | 1 => .int
  | 2 => .int
  | 3 => .int
  | _ => .int
theorem nmX0 : ∀ a, a < 5 → ∀ b, b < 5 → a ≠ b → (TX0 a).2.1 ≠ (TX0 b).2.1 := by decide +kernel
theorem tyX0_ok : ∀ k, k < 5 → parseFieldDescriptor (TX0 k).2.2.1 = some (tyX0 k) := by decide +kernel
def RX1 : String := "BoltsByOrder$Plain"
def TX1 : u_T := fun k => match k with
  | 0 => ("BoltsByOrder$Plain", "cloud", "LBoltsByOrder$Cloud;", true)
  | 1 => ("BoltsByOrder$Plain", "rods", "[LBoltsByOrder$Rod;", true)
  | 2 => ("BoltsByOrder$Plain", "rodCount", "I", false)
  | 3 => ("BoltsByOrder$Plain", "hour", "I", false)
  | 4 => ("BoltsByOrder$Plain", "strays", "I", false)
  | 5 => ("BoltsByOrder$Plain", "z", "I", false)
  | _ => ("BoltsByOrder$Plain", "targets", "[I", true)
def tyX1 : Nat → FieldType := fun k => match k with
  | 0 => .object "BoltsByOrder$Cloud"
  | 1 => .array (.object "BoltsByOrder$Rod")
  | 2 => .int
  | 3 => .int
  | 4 => .int
  | 5 => .int
  | _ => .array .int
theorem nmX1 : ∀ a, a < 7 → ∀ b, b < 7 → a ≠ b → (TX1 a).2.1 ≠ (TX1 b).2.1 := by decide +kernel
theorem tyX1_ok : ∀ k, k < 7 → parseFieldDescriptor (TX1 k).2.2.1 = some (tyX1 k) := by decide +kernel
def RX2 : String := "BoltsByOrder$PlainText"
def TX2 : u_T := fun k => match k with
  | 0 => ("BoltsByOrder$PlainText", "tape", "LBoltsByOrder$Tape;", true)
  | 1 => ("BoltsByOrder$PlainText", "sort", "I", false)
  | 2 => ("BoltsByOrder$PlainText", "start", "I", false)
  | 3 => ("BoltsByOrder$PlainText", "end", "I", false)
  | _ => ("BoltsByOrder$PlainText", "value", "I", false)
def tyX2 : Nat → FieldType := fun k => match k with
  | 0 => .object "BoltsByOrder$Tape"
  | 1 => .int
  | 2 => .int
  | 3 => .int
  | _ => .int
theorem nmX2 : ∀ a, a < 5 → ∀ b, b < 5 → a ≠ b → (TX2 a).2.1 ≠ (TX2 b).2.1 := by decide +kernel
theorem tyX2_ok : ∀ k, k < 5 → parseFieldDescriptor (TX2 k).2.2.1 = some (tyX2 k) := by decide +kernel
def RX3 : String := "BoltsByOrder$Rod"
def TX3 : u_T := fun k => match k with
  | 0 => ("BoltsByOrder$Rod", "kind", "I", false)
  | 1 => ("BoltsByOrder$Rod", "place", "I", false)
  | 2 => ("BoltsByOrder$Rod", "height", "I", false)
  | 3 => ("BoltsByOrder$Rod", "from", "I", false)
  | 4 => ("BoltsByOrder$Rod", "to", "I", false)
  | 5 => ("BoltsByOrder$Rod", "bill", "I", false)
  | _ => ("BoltsByOrder$Rod", "bolts", "I", false)
def tyX3 : Nat → FieldType := fun k => match k with
  | 0 => .int
  | 1 => .int
  | 2 => .int
  | 3 => .int
  | 4 => .int
  | 5 => .int
  | _ => .int
theorem nmX3 : ∀ a, a < 7 → ∀ b, b < 7 → a ≠ b → (TX3 a).2.1 ≠ (TX3 b).2.1 := by decide +kernel
theorem tyX3_ok : ∀ k, k < 7 → parseFieldDescriptor (TX3 k).2.2.1 = some (tyX3 k) := by decide +kernel
def RX4 : String := "BoltsByOrder$Sheet"
def TX4 : u_T := fun k => match k with
  | 0 => ("BoltsByOrder$Sheet", "numbers", "[J", true)
  | 1 => ("BoltsByOrder$Sheet", "bits", "I", false)
  | _ => ("BoltsByOrder$Sheet", "size", "I", false)
def tyX4 : Nat → FieldType := fun k => match k with
  | 0 => .array .long
  | 1 => .int
  | _ => .int
theorem nmX4 : ∀ a, a < 3 → ∀ b, b < 3 → a ≠ b → (TX4 a).2.1 ≠ (TX4 b).2.1 := by decide +kernel
theorem tyX4_ok : ∀ k, k < 3 → parseFieldDescriptor (TX4 k).2.2.1 = some (tyX4 k) := by decide +kernel
def RX5 : String := "BoltsByOrder$Tape"
def TX5 : u_T := fun k => match k with
  | 0 => ("BoltsByOrder$Tape", "bytes", "[I", true)
  | _ => ("BoltsByOrder$Tape", "size", "I", false)
def tyX5 : Nat → FieldType := fun k => match k with
  | 0 => .array .int
  | _ => .int
theorem nmX5 : ∀ a, a < 2 → ∀ b, b < 2 → a ≠ b → (TX5 a).2.1 ≠ (TX5 b).2.1 := by decide +kernel
theorem tyX5_ok : ∀ k, k < 2 → parseFieldDescriptor (TX5 k).2.2.1 = some (tyX5 k) := by decide +kernel
def RX6 : String := "BoltsByOrder"
def TX6 : u_T := fun k => match k with
  | 0 => ("BoltsByOrder", "real", "LBoltsByOrder$Plain;", true)
  | 1 => ("BoltsByOrder", "ghost", "LBoltsByOrder$Plain;", true)
  | 2 => ("BoltsByOrder", "kept", "LBoltsByOrder$Plain;", true)
  | 3 => ("BoltsByOrder", "isKept", "Z", false)
  | 4 => ("BoltsByOrder", "text", "LBoltsByOrder$PlainText;", true)
  | 5 => ("BoltsByOrder", "sheets", "[LBoltsByOrder$Sheet;", true)
  | _ => ("BoltsByOrder", "told", "[I", true)
def tyX6 : Nat → FieldType := fun k => match k with
  | 0 => .object "BoltsByOrder$Plain"
  | 1 => .object "BoltsByOrder$Plain"
  | 2 => .object "BoltsByOrder$Plain"
  | 3 => .boolean
  | 4 => .object "BoltsByOrder$PlainText"
  | 5 => .array (.object "BoltsByOrder$Sheet")
  | _ => .array .int
theorem nmX6 : ∀ a, a < 7 → ∀ b, b < 7 → a ≠ b → (TX6 a).2.1 ≠ (TX6 b).2.1 := by decide +kernel
theorem tyX6_ok : ∀ k, k < 7 → parseFieldDescriptor (TX6 k).2.2.1 = some (tyX6 k) := by decide +kernel
def RX7 : String := "BoltsByOrderModel"
def TX7 : u_T := fun k => match k with
  | 0 => ("BoltsByOrderModel", "row", "[I", true)
  | 1 => ("BoltsByOrderModel", "found", "[I", true)
  | 2 => ("BoltsByOrderModel", "tried", "[I", true)
  | 3 => ("BoltsByOrderModel", "nextIn", "I", false)
  | 4 => ("BoltsByOrderModel", "nextRod", "I", false)
  | 5 => ("BoltsByOrderModel", "nextCharge", "I", false)
  | 6 => ("BoltsByOrderModel", "nextPlace", "I", false)
  | 7 => ("BoltsByOrderModel", "whole", "[I", true)
  | 8 => ("BoltsByOrderModel", "coverFrom", "I", false)
  | 9 => ("BoltsByOrderModel", "tape", "[I", true)
  | 10 => ("BoltsByOrderModel", "tapeMany", "I", false)
  | 11 => ("BoltsByOrderModel", "sort", "I", false)
  | 12 => ("BoltsByOrderModel", "begins", "I", false)
  | 13 => ("BoltsByOrderModel", "tokenEnds", "I", false)
  | 14 => ("BoltsByOrderModel", "word", "J", false)
  | 15 => ("BoltsByOrderModel", "value", "I", false)
  | 16 => ("BoltsByOrderModel", "good", "Z", false)
  | 17 => ("BoltsByOrderModel", "bitsOf", "[I", true)
  | 18 => ("BoltsByOrderModel", "sizeOf", "[I", true)
  | 19 => ("BoltsByOrderModel", "sheets", "[J", true)
  | 20 => ("BoltsByOrderModel", "lent", "[J", true)
  | 21 => ("BoltsByOrderModel", "image", "[I", true)
  | 22 => ("BoltsByOrderModel", "before", "[I", true)
  | _ => ("BoltsByOrderModel", "isKept", "Z", false)
def tyX7 : Nat → FieldType := fun k => match k with
  | 0 => .array .int
  | 1 => .array .int
  | 2 => .array .int
  | 3 => .int
  | 4 => .int
  | 5 => .int
  | 6 => .int
  | 7 => .array .int
  | 8 => .int
  | 9 => .array .int
  | 10 => .int
  | 11 => .int
  | 12 => .int
  | 13 => .int
  | 14 => .long
  | 15 => .int
  | 16 => .boolean
  | 17 => .array .int
  | 18 => .array .int
  | 19 => .array .long
  | 20 => .array .long
  | 21 => .array .int
  | 22 => .array .int
  | _ => .boolean
theorem nmX7 : ∀ a, a < 24 → ∀ b, b < 24 → a ≠ b → (TX7 a).2.1 ≠ (TX7 b).2.1 := by decide +kernel
theorem tyX7_ok : ∀ k, k < 24 → parseFieldDescriptor (TX7 k).2.2.1 = some (tyX7 k) := by decide +kernel
def RJ6 : String := "java/lang/Integer"
def RJ9 : String := "java/lang/Math"
def RJ0 : String := "java/lang/String"
def RJ1 : String := "java/lang/StringLatin1"
def RJ2 : String := "java/lang/StringUTF16"
def RJ10 : String := "java/lang/System"
def RJ3 : String := "jdk/internal/util/Preconditions"
abbrev vwCl : List vw_C := [(RX0, TX0, 5), (RX1, TX1, 7), (RX2, TX2, 5), (RX3, TX3, 7), (RX4, TX4, 3), (RX5, TX5, 2), (RX6, TX6, 7), (RX7, TX7, 24)]
abbrev MT : Type := String × MethodName × ByteArray × Nat × Option FieldType × Nat × Nat
abbrev cX0_init : ByteArray := prog_2_method_1_code
def yX0_init : MethodName := ⟨RX0, "<init>", "()V"⟩
abbrev mX0_init : MT := (RX0, yX0_init, cX0_init, 1, none, 1, 20)
abbrev cX0_mayBe : ByteArray := prog_2_method_2_code
def yX0_mayBe : MethodName := ⟨RX0, "mayBe", "(II)Z"⟩
abbrev mX0_mayBe : MT := (RX0, yX0_mayBe, cX0_mayBe, 2, (some .boolean), 1, 22)
abbrev cX0_takeFrom : ByteArray := prog_2_method_3_code
def yX0_takeFrom : MethodName := ⟨RX0, "takeFrom", "(LBoltsByOrder$Cloud;)V"⟩
abbrev mX0_takeFrom : MT := (RX0, yX0_takeFrom, cX0_takeFrom, 2, none, 0, 0)
abbrev cX0_part : ByteArray := prog_2_method_4_code
def yX0_part : MethodName := ⟨RX0, "part", "(I)I"⟩
abbrev mX0_part : MT := (RX0, yX0_part, cX0_part, 2, (some .int), 0, 0)
abbrev cX0_setPart : ByteArray := prog_2_method_5_code
def yX0_setPart : MethodName := ⟨RX0, "setPart", "(II)V"⟩
abbrev mX0_setPart : MT := (RX0, yX0_setPart, cX0_setPart, 3, none, 0, 0)
abbrev cX0_isBreaking : ByteArray := prog_2_method_6_code
def yX0_isBreaking : MethodName := ⟨RX0, "isBreaking", "()Z"⟩
abbrev mX0_isBreaking : MT := (RX0, yX0_isBreaking, cX0_isBreaking, 1, (some .boolean), 0, 0)
abbrev cX0_passHour : ByteArray := prog_2_method_7_code
def yX0_passHour : MethodName := ⟨RX0, "passHour", "()V"⟩
abbrev mX0_passHour : MT := (RX0, yX0_passHour, cX0_passHour, 1, none, 3, 63)
abbrev cX0_goOn : ByteArray := prog_2_method_8_code
def yX0_goOn : MethodName := ⟨RX0, "goOn", "()V"⟩
abbrev mX0_goOn : MT := (RX0, yX0_goOn, cX0_goOn, 2, none, 2, 42)
abbrev cX1_init : ByteArray := prog_3_method_1_code
def yX1_init : MethodName := ⟨RX1, "<init>", "()V"⟩
abbrev mX1_init : MT := (RX1, yX1_init, cX1_init, 2, none, 2, 40)
abbrev cX1_takeFrom : ByteArray := prog_3_method_2_code
def yX1_takeFrom : MethodName := ⟨RX1, "takeFrom", "(LBoltsByOrder$Plain;)V"⟩
abbrev mX1_takeFrom : MT := (RX1, yX1_takeFrom, cX1_takeFrom, 3, none, 1, 21)
abbrev cX1_isFull : ByteArray := prog_3_method_3_code
def yX1_isFull : MethodName := ⟨RX1, "isFull", "()Z"⟩
abbrev mX1_isFull : MT := (RX1, yX1_isFull, cX1_isFull, 1, (some .boolean), 0, 0)
abbrev cX1_add : ByteArray := prog_3_method_4_code
def yX1_add : MethodName := ⟨RX1, "add", "(II)LBoltsByOrder$Rod;"⟩
abbrev mX1_add : MT := (RX1, yX1_add, cX1_add, 4, (some (.object "BoltsByOrder$Rod")), 1, 22)
abbrev cX1_takeDown : ByteArray := prog_3_method_5_code
def yX1_takeDown : MethodName := ⟨RX1, "takeDown", "(I)V"⟩
abbrev mX1_takeDown : MT := (RX1, yX1_takeDown, cX1_takeDown, 4, none, 0, 0)
abbrev cX1_clock : ByteArray := prog_3_method_6_code
def yX1_clock : MethodName := ⟨RX1, "clock", "()I"⟩
abbrev mX1_clock : MT := (RX1, yX1_clock, cX1_clock, 1, (some .int), 0, 0)
abbrev cX1_targetFrom : ByteArray := prog_3_method_7_code
def yX1_targetFrom : MethodName := ⟨RX1, "targetFrom", "(I)I"⟩
abbrev mX1_targetFrom : MT := (RX1, yX1_targetFrom, cX1_targetFrom, 6, (some .int), 2, 45)
abbrev cX1_aim : ByteArray := prog_3_method_8_code
def yX1_aim : MethodName := ⟨RX1, "aim", "()V"⟩
abbrev mX1_aim : MT := (RX1, yX1_aim, cX1_aim, 2, none, 3, 70)
abbrev cX1_boltStrikes : ByteArray := prog_3_method_9_code
def yX1_boltStrikes : MethodName := ⟨RX1, "boltStrikes", "(I)Z"⟩
abbrev mX1_boltStrikes : MT := (RX1, yX1_boltStrikes, cX1_boltStrikes, 2, (some .boolean), 1, 20)
abbrev cX1_goHour : ByteArray := prog_3_method_10_code
def yX1_goHour : MethodName := ⟨RX1, "goHour", "()V"⟩
abbrev mX1_goHour : MT := (RX1, yX1_goHour, cX1_goHour, 1, none, 4, 88)
abbrev cX1_strike : ByteArray := prog_3_method_11_code
def yX1_strike : MethodName := ⟨RX1, "strike", "(I)V"⟩
abbrev mX1_strike : MT := (RX1, yX1_strike, cX1_strike, 4, none, 3, 65)
abbrev cX1_goHours : ByteArray := prog_3_method_12_code
def yX1_goHours : MethodName := ⟨RX1, "goHours", "(I)V"⟩
abbrev mX1_goHours : MT := (RX1, yX1_goHours, cX1_goHours, 3, none, 5, 108)
abbrev cX1_drawDrift : ByteArray := prog_3_method_13_code
def yX1_drawDrift : MethodName := ⟨RX1, "drawDrift", "()V"⟩
abbrev mX1_drawDrift : MT := (RX1, yX1_drawDrift, cX1_drawDrift, 1, none, 0, 0)
abbrev cX1_partsOfAll : ByteArray := prog_3_method_14_code
def yX1_partsOfAll : MethodName := ⟨RX1, "partsOfAll", "(I)I"⟩
abbrev mX1_partsOfAll : MT := (RX1, yX1_partsOfAll, cX1_partsOfAll, 4, (some .int), 1, 21)
abbrev cX1_paidHoursOfAll : ByteArray := prog_3_method_15_code
def yX1_paidHoursOfAll : MethodName := ⟨RX1, "paidHoursOfAll", "()I"⟩
abbrev mX1_paidHoursOfAll : MT := (RX1, yX1_paidHoursOfAll, cX1_paidHoursOfAll, 3, (some .int), 1, 20)
abbrev cX1_drawsOfAll : ByteArray := prog_3_method_16_code
def yX1_drawsOfAll : MethodName := ⟨RX1, "drawsOfAll", "()I"⟩
abbrev mX1_drawsOfAll : MT := (RX1, yX1_drawsOfAll, cX1_drawsOfAll, 3, (some .int), 2, 45)
abbrev cX1_forked : ByteArray := prog_3_method_17_code
def yX1_forked : MethodName := ⟨RX1, "forked", "(I)I"⟩
abbrev mX1_forked : MT := (RX1, yX1_forked, cX1_forked, 2, (some .int), 2, 45)
abbrev cX1_paidRods : ByteArray := prog_3_method_18_code
def yX1_paidRods : MethodName := ⟨RX1, "paidRods", "()I"⟩
abbrev mX1_paidRods : MT := (RX1, yX1_paidRods, cX1_paidRods, 3, (some .int), 2, 41)
abbrev cX2_init : ByteArray := prog_4_method_1_code
def yX2_init : MethodName := ⟨RX2, "<init>", "()V"⟩
abbrev mX2_init : MT := (RX2, yX2_init, cX2_init, 1, none, 2, 40)
abbrev cX2_layOut : ByteArray := prog_4_method_2_code
def yX2_layOut : MethodName := ⟨RX2, "layOut", "(LBoltsByOrder$Plain;)I"⟩
abbrev mX2_layOut : MT := (RX2, yX2_layOut, cX2_layOut, 3, (some .int), 9, 195)
abbrev cX2_layItem : ByteArray := prog_4_method_3_code
def yX2_layItem : MethodName := ⟨RX2, "layItem", "(LBoltsByOrder$Plain;)Z"⟩
abbrev mX2_layItem : MT := (RX2, yX2_layItem, cX2_layItem, 3, (some .boolean), 8, 173)
abbrev cX2_layRod : ByteArray := prog_4_method_4_code
def yX2_layRod : MethodName := ⟨RX2, "layRod", "(LBoltsByOrder$Plain;I)Z"⟩
abbrev mX2_layRod : MT := (RX2, yX2_layRod, cX2_layRod, 4, (some .boolean), 7, 150)
abbrev cX2_layCloud : ByteArray := prog_4_method_5_code
def yX2_layCloud : MethodName := ⟨RX2, "layCloud", "(LBoltsByOrder$Cloud;)Z"⟩
abbrev mX2_layCloud : MT := (RX2, yX2_layCloud, cX2_layCloud, 2, (some .boolean), 7, 150)
abbrev cX2_takeCloudPart : ByteArray := prog_4_method_6_code
def yX2_takeCloudPart : MethodName := ⟨RX2, "takeCloudPart", "(LBoltsByOrder$Cloud;I)Z"⟩
abbrev mX2_takeCloudPart : MT := (RX2, yX2_takeCloudPart, cX2_takeCloudPart, 3, (some .boolean), 2, 43)
abbrev cX2_kindTold : ByteArray := prog_4_method_7_code
def yX2_kindTold : MethodName := ⟨RX2, "kindTold", "()I"⟩
abbrev mX2_kindTold : MT := (RX2, yX2_kindTold, cX2_kindTold, 1, (some .int), 6, 128)
abbrev cX2_isWord : ByteArray := prog_4_method_8_code
def yX2_isWord : MethodName := ⟨RX2, "isWord", "(Ljava/lang/String;)Z"⟩
abbrev mX2_isWord : MT := (RX2, yX2_isWord, cX2_isWord, 3, (some .boolean), 5, 106)
abbrev cX2_takeWord : ByteArray := prog_4_method_9_code
def yX2_takeWord : MethodName := ⟨RX2, "takeWord", "(Ljava/lang/String;)Z"⟩
abbrev mX2_takeWord : MT := (RX2, yX2_takeWord, cX2_takeWord, 3, (some .boolean), 6, 128)
abbrev cX2_isNumber : ByteArray := prog_4_method_10_code
def yX2_isNumber : MethodName := ⟨RX2, "isNumber", "(II)Z"⟩
abbrev mX2_isNumber : MT := (RX2, yX2_isNumber, cX2_isNumber, 3, (some .boolean), 1, 22)
abbrev cX2_takeNumber : ByteArray := prog_4_method_11_code
def yX2_takeNumber : MethodName := ⟨RX2, "takeNumber", "()I"⟩
abbrev mX2_takeNumber : MT := (RX2, yX2_takeNumber, cX2_takeNumber, 2, (some .int), 2, 43)
abbrev cX2_goToToken : ByteArray := prog_4_method_12_code
def yX2_goToToken : MethodName := ⟨RX2, "goToToken", "()V"⟩
abbrev mX2_goToToken : MT := (RX2, yX2_goToToken, cX2_goToToken, 2, none, 1, 22)
abbrev cX2_sortOf : ByteArray := prog_4_method_13_code
def yX2_sortOf : MethodName := ⟨RX2, "sortOf", "(I)I"⟩
abbrev mX2_sortOf : MT := (RX2, yX2_sortOf, cX2_sortOf, 1, (some .int), 0, 0)
abbrev cX2_numberTold : ByteArray := prog_4_method_14_code
def yX2_numberTold : MethodName := ⟨RX2, "numberTold", "()I"⟩
abbrev mX2_numberTold : MT := (RX2, yX2_numberTold, cX2_numberTold, 3, (some .int), 0, 0)
abbrev cX3_init : ByteArray := prog_5_method_1_code
def yX3_init : MethodName := ⟨RX3, "<init>", "()V"⟩
abbrev mX3_init : MT := (RX3, yX3_init, cX3_init, 1, none, 1, 20)
abbrev cX3_becomeNew : ByteArray := prog_5_method_2_code
def yX3_becomeNew : MethodName := ⟨RX3, "becomeNew", "(II)V"⟩
abbrev mX3_becomeNew : MT := (RX3, yX3_becomeNew, cX3_becomeNew, 3, none, 0, 0)
abbrev cX3_takeFrom : ByteArray := prog_5_method_3_code
def yX3_takeFrom : MethodName := ⟨RX3, "takeFrom", "(LBoltsByOrder$Rod;)V"⟩
abbrev mX3_takeFrom : MT := (RX3, yX3_takeFrom, cX3_takeFrom, 2, none, 0, 0)
abbrev cX3_part : ByteArray := prog_5_method_4_code
def yX3_part : MethodName := ⟨RX3, "part", "(I)I"⟩
abbrev mX3_part : MT := (RX3, yX3_part, cX3_part, 2, (some .int), 0, 0)
abbrev cX3_isOf : ByteArray := prog_5_method_5_code
def yX3_isOf : MethodName := ⟨RX3, "isOf", "(I)Z"⟩
abbrev mX3_isOf : MT := (RX3, yX3_isOf, cX3_isOf, 2, (some .boolean), 0, 0)
abbrev cX3_drawsFrom : ByteArray := prog_5_method_6_code
def yX3_drawsFrom : MethodName := ⟨RX3, "drawsFrom", "(I)I"⟩
abbrev mX3_drawsFrom : MT := (RX3, yX3_drawsFrom, cX3_drawsFrom, 5, (some .int), 1, 21)
abbrev cX3_owesFor : ByteArray := prog_5_method_7_code
def yX3_owesFor : MethodName := ⟨RX3, "owesFor", "(II)I"⟩
abbrev mX3_owesFor : MT := (RX3, yX3_owesFor, cX3_owesFor, 5, (some .int), 2, 41)
abbrev cX3_paidHours : ByteArray := prog_5_method_8_code
def yX3_paidHours : MethodName := ⟨RX3, "paidHours", "()I"⟩
abbrev mX3_paidHours : MT := (RX3, yX3_paidHours, cX3_paidHours, 1, (some .int), 0, 0)
abbrev cX3_isPaidAt : ByteArray := prog_5_method_9_code
def yX3_isPaidAt : MethodName := ⟨RX3, "isPaidAt", "(I)Z"⟩
abbrev mX3_isPaidAt : MT := (RX3, yX3_isPaidAt, cX3_isPaidAt, 2, (some .boolean), 1, 20)
abbrev cX4_init : ByteArray := prog_6_method_1_code
def yX4_init : MethodName := ⟨RX4, "<init>", "()V"⟩
abbrev mX4_init : MT := (RX4, yX4_init, cX4_init, 1, none, 1, 20)
abbrev cX4_mayHave : ByteArray := prog_6_method_2_code
def yX4_mayHave : MethodName := ⟨RX4, "mayHave", "(I)Z"⟩
abbrev mX4_mayHave : MT := (RX4, yX4_mayHave, cX4_mayHave, 1, (some .boolean), 0, 0)
abbrev cX4_layNew : ByteArray := prog_6_method_3_code
def yX4_layNew : MethodName := ⟨RX4, "layNew", "(II)V"⟩
abbrev mX4_layNew : MT := (RX4, yX4_layNew, cX4_layNew, 4, none, 0, 0)
abbrev cX4_isMissing : ByteArray := prog_6_method_4_code
def yX4_isMissing : MethodName := ⟨RX4, "isMissing", "()Z"⟩
abbrev mX4_isMissing : MT := (RX4, yX4_isMissing, cX4_isMissing, 1, (some .boolean), 0, 0)
abbrev cX4_put : ByteArray := prog_6_method_5_code
def yX4_put : MethodName := ⟨RX4, "put", "(IJ)V"⟩
abbrev mX4_put : MT := (RX4, yX4_put, cX4_put, 4, none, 0, 0)
abbrev cX4_has : ByteArray := prog_6_method_6_code
def yX4_has : MethodName := ⟨RX4, "has", "(II)Z"⟩
abbrev mX4_has : MT := (RX4, yX4_has, cX4_has, 3, (some .boolean), 0, 0)
abbrev cX5_init : ByteArray := prog_7_method_1_code
def yX5_init : MethodName := ⟨RX5, "<init>", "()V"⟩
abbrev mX5_init : MT := (RX5, yX5_init, cX5_init, 1, none, 1, 20)
abbrev cX5_add : ByteArray := prog_7_method_2_code
def yX5_add : MethodName := ⟨RX5, "add", "(I)V"⟩
abbrev mX5_add : MT := (RX5, yX5_add, cX5_add, 2, none, 0, 0)
abbrev cX6_init : ByteArray := prog_1_method_1_code
def yX6_init : MethodName := ⟨RX6, "<init>", "()V"⟩
abbrev mX6_init : MT := (RX6, yX6_init, cX6_init, 2, none, 3, 61)
abbrev cX6_cloud : ByteArray := prog_1_method_2_code
def yX6_cloud : MethodName := ⟨RX6, "cloud", "(II)I"⟩
abbrev mX6_cloud : MT := (RX6, yX6_cloud, cX6_cloud, 4, (some .int), 2, 44)
abbrev cX6_cloudOf : ByteArray := prog_1_method_3_code
def yX6_cloudOf : MethodName := ⟨RX6, "cloudOf", "(I)I"⟩
abbrev mX6_cloudOf : MT := (RX6, yX6_cloudOf, cX6_cloudOf, 2, (some .int), 2, 44)
abbrev cX6_rod : ByteArray := prog_1_method_4_code
def yX6_rod : MethodName := ⟨RX6, "rod", "(II)I"⟩
abbrev mX6_rod : MT := (RX6, yX6_rod, cX6_rod, 3, (some .int), 2, 45)
abbrev cX6_of : ByteArray := prog_1_method_5_code
def yX6_of : MethodName := ⟨RX6, "of", "(II)I"⟩
abbrev mX6_of : MT := (RX6, yX6_of, cX6_of, 4, (some .int), 3, 65)
abbrev cX6_set : ByteArray := prog_1_method_6_code
def yX6_set : MethodName := ⟨RX6, "set", "(III)I"⟩
abbrev mX6_set : MT := (RX6, yX6_set, cX6_set, 6, (some .int), 2, 44)
abbrev cX6_pays : ByteArray := prog_1_method_7_code
def yX6_pays : MethodName := ⟨RX6, "pays", "(III)I"⟩
abbrev mX6_pays : MT := (RX6, yX6_pays, cX6_pays, 5, (some .int), 2, 44)
abbrev cX6_turn : ByteArray := prog_1_method_8_code
def yX6_turn : MethodName := ⟨RX6, "turn", "(II)I"⟩
abbrev mX6_turn : MT := (RX6, yX6_turn, cX6_turn, 4, (some .int), 2, 44)
abbrev cX6_as : ByteArray := prog_1_method_9_code
def yX6_as : MethodName := ⟨RX6, "as", "(II)I"⟩
abbrev mX6_as : MT := (RX6, yX6_as, cX6_as, 3, (some .int), 2, 44)
abbrev cX6_down : ByteArray := prog_1_method_10_code
def yX6_down : MethodName := ⟨RX6, "down", "(I)I"⟩
abbrev mX6_down : MT := (RX6, yX6_down, cX6_down, 3, (some .int), 2, 44)
abbrev cX6_settle : ByteArray := prog_1_method_11_code
def yX6_settle : MethodName := ⟨RX6, "settle", "(I)I"⟩
abbrev mX6_settle : MT := (RX6, yX6_settle, cX6_settle, 3, (some .int), 2, 44)
abbrev cX6_hours : ByteArray := prog_1_method_12_code
def yX6_hours : MethodName := ⟨RX6, "hours", "(I)I"⟩
abbrev mX6_hours : MT := (RX6, yX6_hours, cX6_hours, 2, (some .int), 6, 130)
abbrev cX6_days : ByteArray := prog_1_method_13_code
def yX6_days : MethodName := ⟨RX6, "days", "(I)I"⟩
abbrev mX6_days : MT := (RX6, yX6_days, cX6_days, 3, (some .int), 6, 130)
abbrev cX6_seed : ByteArray := prog_1_method_14_code
def yX6_seed : MethodName := ⟨RX6, "seed", "(I)I"⟩
abbrev mX6_seed : MT := (RX6, yX6_seed, cX6_seed, 3, (some .int), 0, 0)
abbrev cX6_now : ByteArray := prog_1_method_15_code
def yX6_now : MethodName := ⟨RX6, "now", "(I)I"⟩
abbrev mX6_now : MT := (RX6, yX6_now, cX6_now, 2, (some .int), 3, 63)
abbrev cX6_on : ByteArray := prog_1_method_16_code
def yX6_on : MethodName := ⟨RX6, "on", "(III)I"⟩
abbrev mX6_on : MT := (RX6, yX6_on, cX6_on, 4, (some .int), 6, 130)
abbrev cX6_next : ByteArray := prog_1_method_17_code
def yX6_next : MethodName := ⟨RX6, "next", "(I)I"⟩
abbrev mX6_next : MT := (RX6, yX6_next, cX6_next, 3, (some .int), 4, 84)
abbrev cX6_struck : ByteArray := prog_1_method_18_code
def yX6_struck : MethodName := ⟨RX6, "struck", "(I)I"⟩
abbrev mX6_struck : MT := (RX6, yX6_struck, cX6_struck, 2, (some .int), 3, 70)
abbrev cX6_reach : ByteArray := prog_1_method_19_code
def yX6_reach : MethodName := ⟨RX6, "reach", "(I)I"⟩
abbrev mX6_reach : MT := (RX6, yX6_reach, cX6_reach, 4, (some .int), 3, 70)
abbrev cX6_steals : ByteArray := prog_1_method_20_code
def yX6_steals : MethodName := ⟨RX6, "steals", "(I)I"⟩
abbrev mX6_steals : MT := (RX6, yX6_steals, cX6_steals, 4, (some .int), 4, 92)
abbrev cX6_ducks : ByteArray := prog_1_method_21_code
def yX6_ducks : MethodName := ⟨RX6, "ducks", "(I)I"⟩
abbrev mX6_ducks : MT := (RX6, yX6_ducks, cX6_ducks, 4, (some .int), 4, 92)
abbrev cX6_place : ByteArray := prog_1_method_22_code
def yX6_place : MethodName := ⟨RX6, "place", "(II)I"⟩
abbrev mX6_place : MT := (RX6, yX6_place, cX6_place, 6, (some .int), 6, 130)
abbrev cX6_thief : ByteArray := prog_1_method_23_code
def yX6_thief : MethodName := ⟨RX6, "thief", "(II)I"⟩
abbrev mX6_thief : MT := (RX6, yX6_thief, cX6_thief, 7, (some .int), 6, 130)
abbrev cX6_kind : ByteArray := prog_1_method_24_code
def yX6_kind : MethodName := ⟨RX6, "kind", "(II)I"⟩
abbrev mX6_kind : MT := (RX6, yX6_kind, cX6_kind, 8, (some .int), 6, 130)
abbrev cX6_clocks : ByteArray := prog_1_method_25_code
def yX6_clocks : MethodName := ⟨RX6, "clocks", "(II)I"⟩
abbrev mX6_clocks : MT := (RX6, yX6_clocks, cX6_clocks, 3, (some .int), 6, 132)
abbrev cX6_covers : ByteArray := prog_1_method_26_code
def yX6_covers : MethodName := ⟨RX6, "covers", "(II)I"⟩
abbrev mX6_covers : MT := (RX6, yX6_covers, cX6_covers, 4, (some .int), 6, 132)
abbrev cX6_from : ByteArray := prog_1_method_27_code
def yX6_from : MethodName := ⟨RX6, "from", "(II)I"⟩
abbrev mX6_from : MT := (RX6, yX6_from, cX6_from, 3, (some .int), 6, 132)
abbrev cX6_strays : ByteArray := prog_1_method_28_code
def yX6_strays : MethodName := ⟨RX6, "strays", "(I)I"⟩
abbrev mX6_strays : MT := (RX6, yX6_strays, cX6_strays, 2, (some .int), 6, 130)
abbrev cX6_fork : ByteArray := prog_1_method_29_code
def yX6_fork : MethodName := ⟨RX6, "fork", "(II)I"⟩
abbrev mX6_fork : MT := (RX6, yX6_fork, cX6_fork, 6, (some .int), 3, 67)
abbrev cX6_share : ByteArray := prog_1_method_30_code
def yX6_share : MethodName := ⟨RX6, "share", "(I)I"⟩
abbrev mX6_share : MT := (RX6, yX6_share, cX6_share, 8, (some .int), 3, 67)
abbrev cX6_feed : ByteArray := prog_1_method_31_code
def yX6_feed : MethodName := ⟨RX6, "feed", "(II)I"⟩
abbrev mX6_feed : MT := (RX6, yX6_feed, cX6_feed, 4, (some .int), 2, 44)
abbrev cX6_wipe : ByteArray := prog_1_method_32_code
def yX6_wipe : MethodName := ⟨RX6, "wipe", "()I"⟩
abbrev mX6_wipe : MT := (RX6, yX6_wipe, cX6_wipe, 2, (some .int), 0, 0)
abbrev cX6_plain : ByteArray := prog_1_method_33_code
def yX6_plain : MethodName := ⟨RX6, "plain", "()I"⟩
abbrev mX6_plain : MT := (RX6, yX6_plain, cX6_plain, 2, (some .int), 10, 217)
abbrev cX6_sheet : ByteArray := prog_1_method_34_code
def yX6_sheet : MethodName := ⟨RX6, "sheet", "(III)I"⟩
abbrev mX6_sheet : MT := (RX6, yX6_sheet, cX6_sheet, 4, (some .int), 2, 44)
abbrev cX6_write : ByteArray := prog_1_method_35_code
def yX6_write : MethodName := ⟨RX6, "write", "(IIJ)J"⟩
abbrev mX6_write : MT := (RX6, yX6_write, cX6_write, 8, (some .long), 3, 63)
abbrev cX6_copy : ByteArray := prog_1_method_36_code
def yX6_copy : MethodName := ⟨RX6, "copy", "(IIIII)I"⟩
abbrev mX6_copy : MT := (RX6, yX6_copy, cX6_copy, 6, (some .int), 2, 44)
abbrev cX6_lays : ByteArray := prog_1_method_37_code
def yX6_lays : MethodName := ⟨RX6, "lays", "(I)I"⟩
abbrev mX6_lays : MT := (RX6, yX6_lays, cX6_lays, 8, (some .int), 3, 63)
abbrev cX6_book : ByteArray := prog_1_method_38_code
def yX6_book : MethodName := ⟨RX6, "book", "(II)I"⟩
abbrev mX6_book : MT := (RX6, yX6_book, cX6_book, 5, (some .int), 5, 108)
abbrev cX6_read : ByteArray := prog_1_method_39_code
def yX6_read : MethodName := ⟨RX6, "read", "(II)I"⟩
abbrev mX6_read : MT := (RX6, yX6_read, cX6_read, 7, (some .int), 5, 107)
abbrev cX6_image : ByteArray := prog_1_method_40_code
def yX6_image : MethodName := ⟨RX6, "image", "()I"⟩
abbrev mX6_image : MT := (RX6, yX6_image, cX6_image, 1, (some .int), 2, 43)
abbrev cX6_undo : ByteArray := prog_1_method_41_code
def yX6_undo : MethodName := ⟨RX6, "undo", "()I"⟩
abbrev mX6_undo : MT := (RX6, yX6_undo, cX6_undo, 1, (some .int), 2, 44)
abbrev cX6_tear : ByteArray := prog_1_method_42_code
def yX6_tear : MethodName := ⟨RX6, "tear", "()I"⟩
abbrev mX6_tear : MT := (RX6, yX6_tear, cX6_tear, 2, (some .int), 0, 0)
abbrev cX6_count : ByteArray := prog_1_method_43_code
def yX6_count : MethodName := ⟨RX6, "count", "(I)I"⟩
abbrev mX6_count : MT := (RX6, yX6_count, cX6_count, 2, (some .int), 2, 44)
abbrev cX6_status : ByteArray := prog_1_method_44_code
def yX6_status : MethodName := ⟨RX6, "status", "(I)I"⟩
abbrev mX6_status : MT := (RX6, yX6_status, cX6_status, 4, (some .int), 2, 44)
abbrev cX6_tell : ByteArray := prog_1_method_45_code
def yX6_tell : MethodName := ⟨RX6, "tell", "(I)I"⟩
abbrev mX6_tell : MT := (RX6, yX6_tell, cX6_tell, 3, (some .int), 1, 22)
abbrev cX6_isWithin : ByteArray := prog_1_method_46_code
def yX6_isWithin : MethodName := ⟨RX6, "isWithin", "(III)Z"⟩
abbrev mX6_isWithin : MT := (RX6, yX6_isWithin, cX6_isWithin, 3, (some .boolean), 0, 0)
abbrev cX6_isRod : ByteArray := prog_1_method_47_code
def yX6_isRod : MethodName := ⟨RX6, "isRod", "(I)Z"⟩
abbrev mX6_isRod : MT := (RX6, yX6_isRod, cX6_isRod, 2, (some .boolean), 1, 22)
abbrev cX6_isKind : ByteArray := prog_1_method_48_code
def yX6_isKind : MethodName := ⟨RX6, "isKind", "(I)Z"⟩
abbrev mX6_isKind : MT := (RX6, yX6_isKind, cX6_isKind, 1, (some .boolean), 1, 22)
abbrev cX6_isPlace : ByteArray := prog_1_method_49_code
def yX6_isPlace : MethodName := ⟨RX6, "isPlace", "(I)Z"⟩
abbrev mX6_isPlace : MT := (RX6, yX6_isPlace, cX6_isPlace, 1, (some .boolean), 1, 22)
abbrev cX6_isHeight : ByteArray := prog_1_method_50_code
def yX6_isHeight : MethodName := ⟨RX6, "isHeight", "(I)Z"⟩
abbrev mX6_isHeight : MT := (RX6, yX6_isHeight, cX6_isHeight, 1, (some .boolean), 1, 22)
abbrev cX6_isClock : ByteArray := prog_1_method_51_code
def yX6_isClock : MethodName := ⟨RX6, "isClock", "(I)Z"⟩
abbrev mX6_isClock : MT := (RX6, yX6_isClock, cX6_isClock, 1, (some .boolean), 1, 22)
abbrev cX6_isSheet : ByteArray := prog_1_method_52_code
def yX6_isSheet : MethodName := ⟨RX6, "isSheet", "(I)Z"⟩
abbrev mX6_isSheet : MT := (RX6, yX6_isSheet, cX6_isSheet, 1, (some .boolean), 1, 22)
abbrev cX6_findingOfSheet : ByteArray := prog_1_method_53_code
def yX6_findingOfSheet : MethodName := ⟨RX6, "findingOfSheet", "(I)I"⟩
abbrev mX6_findingOfSheet : MT := (RX6, yX6_findingOfSheet, cX6_findingOfSheet, 2, (some .int), 2, 42)
abbrev cX6_findingOfBook : ByteArray := prog_1_method_54_code
def yX6_findingOfBook : MethodName := ⟨RX6, "findingOfBook", "(II)I"⟩
abbrev mX6_findingOfBook : MT := (RX6, yX6_findingOfBook, cX6_findingOfBook, 4, (some .int), 3, 63)
abbrev cX6_raiseGhost : ByteArray := prog_1_method_55_code
def yX6_raiseGhost : MethodName := ⟨RX6, "raiseGhost", "()V"⟩
abbrev mX6_raiseGhost : MT := (RX6, yX6_raiseGhost, cX6_raiseGhost, 1, none, 2, 43)
abbrev cX6_leadGhostToBolt : ByteArray := prog_1_method_56_code
def yX6_leadGhostToBolt : MethodName := ⟨RX6, "leadGhostToBolt", "()I"⟩
abbrev mX6_leadGhostToBolt : MT := (RX6, yX6_leadGhostToBolt, cX6_leadGhostToBolt, 2, (some .int), 3, 63)
abbrev cX6_isGhostStruck : ByteArray := prog_1_method_57_code
def yX6_isGhostStruck : MethodName := ⟨RX6, "isGhostStruck", "(II)Z"⟩
abbrev mX6_isGhostStruck : MT := (RX6, yX6_isGhostStruck, cX6_isGhostStruck, 3, (some .boolean), 3, 70)
abbrev cX6_clocksOfBolts : ByteArray := prog_1_method_58_code
def yX6_clocksOfBolts : MethodName := ⟨RX6, "clocksOfBolts", "(II)I"⟩
abbrev mX6_clocksOfBolts : MT := (RX6, yX6_clocksOfBolts, cX6_clocksOfBolts, 5, (some .int), 5, 108)
abbrev cX6_bestFrom : ByteArray := prog_1_method_59_code
def yX6_bestFrom : MethodName := ⟨RX6, "bestFrom", "(I)I"⟩
abbrev mX6_bestFrom : MT := (RX6, yX6_bestFrom, cX6_bestFrom, 3, (some .int), 2, 43)
abbrev cX6_hoursToCover : ByteArray := prog_1_method_60_code
def yX6_hoursToCover : MethodName := ⟨RX6, "hoursToCover", "(II)I"⟩
abbrev mX6_hoursToCover : MT := (RX6, yX6_hoursToCover, cX6_hoursToCover, 3, (some .int), 1, 21)
abbrev cX6_commonDivisor : ByteArray := prog_1_method_61_code
def yX6_commonDivisor : MethodName := ⟨RX6, "commonDivisor", "(II)I"⟩
abbrev mX6_commonDivisor : MT := (RX6, yX6_commonDivisor, cX6_commonDivisor, 6, (some .int), 0, 0)
abbrev cX6_isBooked : ByteArray := prog_1_method_62_code
def yX6_isBooked : MethodName := ⟨RX6, "isBooked", "(LBoltsByOrder$Sheet;I)Z"⟩
abbrev mX6_isBooked : MT := (RX6, yX6_isBooked, cX6_isBooked, 5, (some .boolean), 4, 83)
abbrev cX6_held : ByteArray := prog_1_method_63_code
def yX6_held : MethodName := ⟨RX6, "held", "(I)I"⟩
abbrev mX6_held : MT := (RX6, yX6_held, cX6_held, 1, (some .int), 1, 21)
abbrev cX7_init : ByteArray := prog_9_method_1_code
def yX7_init : MethodName := ⟨RX7, "<init>", "()V"⟩
abbrev mX7_init : MT := (RX7, yX7_init, cX7_init, 1, none, 1, 20)
abbrev cX7_in : ByteArray := prog_9_method_2_code
def yX7_in : MethodName := ⟨RX7, "in", "(III)Z"⟩
abbrev mX7_in : MT := (RX7, yX7_in, cX7_in, 3, (some .boolean), 0, 0)
abbrev cX7_finds : ByteArray := prog_9_method_3_code
def yX7_finds : MethodName := ⟨RX7, "finds", "(I)I"⟩
abbrev mX7_finds : MT := (RX7, yX7_finds, cX7_finds, 2, (some .int), 0, 0)
abbrev cX7_held : ByteArray := prog_9_method_4_code
def yX7_held : MethodName := ⟨RX7, "held", "(III)I"⟩
abbrev mX7_held : MT := (RX7, yX7_held, cX7_held, 3, (some .int), 0, 0)
abbrev cX7_its : ByteArray := prog_9_method_5_code
def yX7_its : MethodName := ⟨RX7, "its", "(II)I"⟩
abbrev mX7_its : MT := (RX7, yX7_its, cX7_its, 3, (some .int), 0, 0)
abbrev cX7_puts : ByteArray := prog_9_method_6_code
def yX7_puts : MethodName := ⟨RX7, "puts", "(III)V"⟩
abbrev mX7_puts : MT := (RX7, yX7_puts, cX7_puts, 4, none, 0, 0)
abbrev cX7_isRod : ByteArray := prog_9_method_7_code
def yX7_isRod : MethodName := ⟨RX7, "isRod", "(I)Z"⟩
abbrev mX7_isRod : MT := (RX7, yX7_isRod, cX7_isRod, 2, (some .boolean), 1, 22)
abbrev cX7_isPlace : ByteArray := prog_9_method_8_code
def yX7_isPlace : MethodName := ⟨RX7, "isPlace", "(I)Z"⟩
abbrev mX7_isPlace : MT := (RX7, yX7_isPlace, cX7_isPlace, 1, (some .boolean), 1, 22)
abbrev cX7_isKind : ByteArray := prog_9_method_9_code
def yX7_isKind : MethodName := ⟨RX7, "isKind", "(I)Z"⟩
abbrev mX7_isKind : MT := (RX7, yX7_isKind, cX7_isKind, 1, (some .boolean), 1, 22)
abbrev cX7_cloud : ByteArray := prog_9_method_10_code
def yX7_cloud : MethodName := ⟨RX7, "cloud", "(II)I"⟩
abbrev mX7_cloud : MT := (RX7, yX7_cloud, cX7_cloud, 5, (some .int), 2, 42)
abbrev cX7_cloudOf : ByteArray := prog_9_method_11_code
def yX7_cloudOf : MethodName := ⟨RX7, "cloudOf", "(I)I"⟩
abbrev mX7_cloudOf : MT := (RX7, yX7_cloudOf, cX7_cloudOf, 2, (some .int), 1, 22)
abbrev cX7_addRod : ByteArray := prog_9_method_12_code
def yX7_addRod : MethodName := ⟨RX7, "addRod", "(IIIII)V"⟩
abbrev mX7_addRod : MT := (RX7, yX7_addRod, cX7_addRod, 7, none, 1, 23)
abbrev cX7_rod : ByteArray := prog_9_method_13_code
def yX7_rod : MethodName := ⟨RX7, "rod", "(II)I"⟩
abbrev mX7_rod : MT := (RX7, yX7_rod, cX7_rod, 3, (some .int), 2, 49)
abbrev cX7_draws : ByteArray := prog_9_method_14_code
def yX7_draws : MethodName := ⟨RX7, "draws", "(II)I"⟩
abbrev mX7_draws : MT := (RX7, yX7_draws, cX7_draws, 6, (some .int), 1, 22)
abbrev cX7_clock : ByteArray := prog_9_method_15_code
def yX7_clock : MethodName := ⟨RX7, "clock", "()I"⟩
abbrev mX7_clock : MT := (RX7, yX7_clock, cX7_clock, 1, (some .int), 0, 0)
abbrev cX7_paidMany : ByteArray := prog_9_method_16_code
def yX7_paidMany : MethodName := ⟨RX7, "paidMany", "(I)I"⟩
abbrev mX7_paidMany : MT := (RX7, yX7_paidMany, cX7_paidMany, 2, (some .int), 1, 22)
abbrev cX7_isPaid : ByteArray := prog_9_method_17_code
def yX7_isPaid : MethodName := ⟨RX7, "isPaid", "(I)Z"⟩
abbrev mX7_isPaid : MT := (RX7, yX7_isPaid, cX7_isPaid, 2, (some .boolean), 2, 43)
abbrev cX7_owes : ByteArray := prog_9_method_18_code
def yX7_owes : MethodName := ⟨RX7, "owes", "(II)I"⟩
abbrev mX7_owes : MT := (RX7, yX7_owes, cX7_owes, 4, (some .int), 3, 64)
abbrev cX7_of : ByteArray := prog_9_method_19_code
def yX7_of : MethodName := ⟨RX7, "of", "(II)I"⟩
abbrev mX7_of : MT := (RX7, yX7_of, cX7_of, 3, (some .int), 4, 87)
abbrev cX7_set : ByteArray := prog_9_method_20_code
def yX7_set : MethodName := ⟨RX7, "set", "(III)I"⟩
abbrev mX7_set : MT := (RX7, yX7_set, cX7_set, 6, (some .int), 2, 43)
abbrev cX7_pays : ByteArray := prog_9_method_21_code
def yX7_pays : MethodName := ⟨RX7, "pays", "(III)I"⟩
abbrev mX7_pays : MT := (RX7, yX7_pays, cX7_pays, 4, (some .int), 2, 43)
abbrev cX7_turn : ByteArray := prog_9_method_22_code
def yX7_turn : MethodName := ⟨RX7, "turn", "(II)I"⟩
abbrev mX7_turn : MT := (RX7, yX7_turn, cX7_turn, 4, (some .int), 2, 43)
abbrev cX7_as : ByteArray := prog_9_method_23_code
def yX7_as : MethodName := ⟨RX7, "as", "(II)I"⟩
abbrev mX7_as : MT := (RX7, yX7_as, cX7_as, 5, (some .int), 2, 43)
abbrev cX7_comesDown : ByteArray := prog_9_method_24_code
def yX7_comesDown : MethodName := ⟨RX7, "comesDown", "(I)V"⟩
abbrev mX7_comesDown : MT := (RX7, yX7_comesDown, cX7_comesDown, 3, none, 0, 0)
abbrev cX7_down : ByteArray := prog_9_method_25_code
def yX7_down : MethodName := ⟨RX7, "down", "(I)I"⟩
abbrev mX7_down : MT := (RX7, yX7_down, cX7_down, 3, (some .int), 2, 43)
abbrev cX7_settle : ByteArray := prog_9_method_26_code
def yX7_settle : MethodName := ⟨RX7, "settle", "(I)I"⟩
abbrev mX7_settle : MT := (RX7, yX7_settle, cX7_settle, 3, (some .int), 2, 43)
abbrev cX7_struckAt : ByteArray := prog_9_method_27_code
def yX7_struckAt : MethodName := ⟨RX7, "struckAt", "(I)I"⟩
abbrev mX7_struckAt : MT := (RX7, yX7_struckAt, cX7_struckAt, 6, (some .int), 2, 47)
abbrev cX7_doesBreak : ByteArray := prog_9_method_28_code
def yX7_doesBreak : MethodName := ⟨RX7, "doesBreak", "()Z"⟩
abbrev mX7_doesBreak : MT := (RX7, yX7_doesBreak, cX7_doesBreak, 1, (some .boolean), 0, 0)
abbrev cX7_bolt : ByteArray := prog_9_method_29_code
def yX7_bolt : MethodName := ⟨RX7, "bolt", "()V"⟩
abbrev mX7_bolt : MT := (RX7, yX7_bolt, cX7_bolt, 3, none, 4, 87)
abbrev cX7_oneHour : ByteArray := prog_9_method_30_code
def yX7_oneHour : MethodName := ⟨RX7, "oneHour", "()V"⟩
abbrev mX7_oneHour : MT := (RX7, yX7_oneHour, cX7_oneHour, 1, none, 5, 109)
abbrev cX7_passes : ByteArray := prog_9_method_31_code
def yX7_passes : MethodName := ⟨RX7, "passes", "(I)V"⟩
abbrev mX7_passes : MT := (RX7, yX7_passes, cX7_passes, 3, none, 6, 129)
abbrev cX7_sumOf : ByteArray := prog_9_method_32_code
def yX7_sumOf : MethodName := ⟨RX7, "sumOf", "(I)I"⟩
abbrev mX7_sumOf : MT := (RX7, yX7_sumOf, cX7_sumOf, 4, (some .int), 1, 22)
abbrev cX7_hours : ByteArray := prog_9_method_33_code
def yX7_hours : MethodName := ⟨RX7, "hours", "(I)I"⟩
abbrev mX7_hours : MT := (RX7, yX7_hours, cX7_hours, 2, (some .int), 7, 151)
abbrev cX7_days : ByteArray := prog_9_method_34_code
def yX7_days : MethodName := ⟨RX7, "days", "(I)I"⟩
abbrev mX7_days : MT := (RX7, yX7_days, cX7_days, 3, (some .int), 7, 151)
abbrev cX7_seed : ByteArray := prog_9_method_35_code
def yX7_seed : MethodName := ⟨RX7, "seed", "(I)I"⟩
abbrev mX7_seed : MT := (RX7, yX7_seed, cX7_seed, 3, (some .int), 0, 0)
abbrev cX7_paidOnes : ByteArray := prog_9_method_36_code
def yX7_paidOnes : MethodName := ⟨RX7, "paidOnes", "()I"⟩
abbrev mX7_paidOnes : MT := (RX7, yX7_paidOnes, cX7_paidOnes, 3, (some .int), 3, 64)
abbrev cX7_now : ByteArray := prog_9_method_37_code
def yX7_now : MethodName := ⟨RX7, "now", "(I)I"⟩
abbrev mX7_now : MT := (RX7, yX7_now, cX7_now, 2, (some .int), 4, 86)
abbrev cX7_onOf : ByteArray := prog_9_method_38_code
def yX7_onOf : MethodName := ⟨RX7, "onOf", "(III)I"⟩
abbrev mX7_onOf : MT := (RX7, yX7_onOf, cX7_onOf, 5, (some .int), 7, 151)
abbrev cX7_on : ByteArray := prog_9_method_39_code
def yX7_on : MethodName := ⟨RX7, "on", "(III)I"⟩
abbrev mX7_on : MT := (RX7, yX7_on, cX7_on, 4, (some .int), 8, 175)
abbrev cX7_findNext : ByteArray := prog_9_method_40_code
def yX7_findNext : MethodName := ⟨RX7, "findNext", "()Z"⟩
abbrev mX7_findNext : MT := (RX7, yX7_findNext, cX7_findNext, 1, (some .boolean), 6, 129)
abbrev cX7_next : ByteArray := prog_9_method_41_code
def yX7_next : MethodName := ⟨RX7, "next", "(I)I"⟩
abbrev mX7_next : MT := (RX7, yX7_next, cX7_next, 2, (some .int), 7, 149)
abbrev cX7_struck : ByteArray := prog_9_method_42_code
def yX7_struck : MethodName := ⟨RX7, "struck", "(I)I"⟩
abbrev mX7_struck : MT := (RX7, yX7_struck, cX7_struck, 2, (some .int), 3, 72)
abbrev cX7_reach : ByteArray := prog_9_method_43_code
def yX7_reach : MethodName := ⟨RX7, "reach", "(I)I"⟩
abbrev mX7_reach : MT := (RX7, yX7_reach, cX7_reach, 4, (some .int), 3, 72)
abbrev cX7_isStruckBy : ByteArray := prog_9_method_44_code
def yX7_isStruckBy : MethodName := ⟨RX7, "isStruckBy", "(II)Z"⟩
abbrev mX7_isStruckBy : MT := (RX7, yX7_isStruckBy, cX7_isStruckBy, 5, (some .boolean), 7, 149)
abbrev cX7_steals : ByteArray := prog_9_method_45_code
def yX7_steals : MethodName := ⟨RX7, "steals", "(I)I"⟩
abbrev mX7_steals : MT := (RX7, yX7_steals, cX7_steals, 3, (some .int), 8, 173)
abbrev cX7_ducks : ByteArray := prog_9_method_46_code
def yX7_ducks : MethodName := ⟨RX7, "ducks", "(I)I"⟩
abbrev mX7_ducks : MT := (RX7, yX7_ducks, cX7_ducks, 3, (some .int), 8, 173)
abbrev cX7_place : ByteArray := prog_9_method_47_code
def yX7_place : MethodName := ⟨RX7, "place", "(II)I"⟩
abbrev mX7_place : MT := (RX7, yX7_place, cX7_place, 8, (some .int), 8, 175)
abbrev cX7_thief : ByteArray := prog_9_method_48_code
def yX7_thief : MethodName := ⟨RX7, "thief", "(II)I"⟩
abbrev mX7_thief : MT := (RX7, yX7_thief, cX7_thief, 8, (some .int), 8, 175)
abbrev cX7_kind : ByteArray := prog_9_method_49_code
def yX7_kind : MethodName := ⟨RX7, "kind", "(II)I"⟩
abbrev mX7_kind : MT := (RX7, yX7_kind, cX7_kind, 11, (some .int), 8, 175)
abbrev cX7_clocksOf : ByteArray := prog_9_method_50_code
def yX7_clocksOf : MethodName := ⟨RX7, "clocksOf", "(II)I"⟩
abbrev mX7_clocksOf : MT := (RX7, yX7_clocksOf, cX7_clocksOf, 5, (some .int), 6, 129)
abbrev cX7_clocks : ByteArray := prog_9_method_51_code
def yX7_clocks : MethodName := ⟨RX7, "clocks", "(II)I"⟩
abbrev mX7_clocks : MT := (RX7, yX7_clocks, cX7_clocks, 3, (some .int), 7, 153)
abbrev cX7_doesCover : ByteArray := prog_9_method_52_code
def yX7_doesCover : MethodName := ⟨RX7, "doesCover", "(III)Z"⟩
abbrev mX7_doesCover : MT := (RX7, yX7_doesCover, cX7_doesCover, 5, (some .boolean), 0, 0)
abbrev cX7_fewest : ByteArray := prog_9_method_53_code
def yX7_fewest : MethodName := ⟨RX7, "fewest", "(I)I"⟩
abbrev mX7_fewest : MT := (RX7, yX7_fewest, cX7_fewest, 3, (some .int), 1, 24)
abbrev cX7_covers : ByteArray := prog_9_method_54_code
def yX7_covers : MethodName := ⟨RX7, "covers", "(II)I"⟩
abbrev mX7_covers : MT := (RX7, yX7_covers, cX7_covers, 3, (some .int), 7, 153)
abbrev cX7_from : ByteArray := prog_9_method_55_code
def yX7_from : MethodName := ⟨RX7, "from", "(II)I"⟩
abbrev mX7_from : MT := (RX7, yX7_from, cX7_from, 4, (some .int), 7, 153)
abbrev cX7_strays : ByteArray := prog_9_method_56_code
def yX7_strays : MethodName := ⟨RX7, "strays", "(I)I"⟩
abbrev mX7_strays : MT := (RX7, yX7_strays, cX7_strays, 3, (some .int), 7, 151)
abbrev cX7_drawAll : ByteArray := prog_9_method_57_code
def yX7_drawAll : MethodName := ⟨RX7, "drawAll", "()I"⟩
abbrev mX7_drawAll : MT := (RX7, yX7_drawAll, cX7_drawAll, 3, (some .int), 2, 47)
abbrev cX7_divisor : ByteArray := prog_9_method_58_code
def yX7_divisor : MethodName := ⟨RX7, "divisor", "(II)I"⟩
abbrev mX7_divisor : MT := (RX7, yX7_divisor, cX7_divisor, 5, (some .int), 0, 0)
abbrev cX7_fork : ByteArray := prog_9_method_59_code
def yX7_fork : MethodName := ⟨RX7, "fork", "(II)I"⟩
abbrev mX7_fork : MT := (RX7, yX7_fork, cX7_fork, 6, (some .int), 3, 69)
abbrev cX7_share : ByteArray := prog_9_method_60_code
def yX7_share : MethodName := ⟨RX7, "share", "(I)I"⟩
abbrev mX7_share : MT := (RX7, yX7_share, cX7_share, 8, (some .int), 3, 69)
abbrev cX7_feed : ByteArray := prog_9_method_61_code
def yX7_feed : MethodName := ⟨RX7, "feed", "(II)I"⟩
abbrev mX7_feed : MT := (RX7, yX7_feed, cX7_feed, 4, (some .int), 1, 22)
abbrev cX7_wipe : ByteArray := prog_9_method_62_code
def yX7_wipe : MethodName := ⟨RX7, "wipe", "()I"⟩
abbrev mX7_wipe : MT := (RX7, yX7_wipe, cX7_wipe, 2, (some .int), 0, 0)
abbrev cX7_byteAt : ByteArray := prog_9_method_63_code
def yX7_byteAt : MethodName := ⟨RX7, "byteAt", "(I)I"⟩
abbrev mX7_byteAt : MT := (RX7, yX7_byteAt, cX7_byteAt, 2, (some .int), 0, 0)
abbrev cX7_isLetter : ByteArray := prog_9_method_64_code
def yX7_isLetter : MethodName := ⟨RX7, "isLetter", "(I)Z"⟩
abbrev mX7_isLetter : MT := (RX7, yX7_isLetter, cX7_isLetter, 1, (some .boolean), 1, 22)
abbrev cX7_isDigit : ByteArray := prog_9_method_65_code
def yX7_isDigit : MethodName := ⟨RX7, "isDigit", "(I)Z"⟩
abbrev mX7_isDigit : MT := (RX7, yX7_isDigit, cX7_isDigit, 1, (some .boolean), 1, 22)
abbrev cX7_advance : ByteArray := prog_9_method_66_code
def yX7_advance : MethodName := ⟨RX7, "advance", "()V"⟩
abbrev mX7_advance : MT := (RX7, yX7_advance, cX7_advance, 2, none, 2, 42)
abbrev cX7_isWord : ByteArray := prog_9_method_67_code
def yX7_isWord : MethodName := ⟨RX7, "isWord", "(J)Z"⟩
abbrev mX7_isWord : MT := (RX7, yX7_isWord, cX7_isWord, 3, (some .boolean), 0, 0)
abbrev cX7_kindHere : ByteArray := prog_9_method_68_code
def yX7_kindHere : MethodName := ⟨RX7, "kindHere", "()I"⟩
abbrev mX7_kindHere : MT := (RX7, yX7_kindHere, cX7_kindHere, 1, (some .int), 1, 22)
abbrev cX7_wantNumber : ByteArray := prog_9_method_69_code
def yX7_wantNumber : MethodName := ⟨RX7, "wantNumber", "(II)I"⟩
abbrev mX7_wantNumber : MT := (RX7, yX7_wantNumber, cX7_wantNumber, 4, (some .int), 3, 63)
abbrev cX7_mayWant : ByteArray := prog_9_method_70_code
def yX7_mayWant : MethodName := ⟨RX7, "mayWant", "(JIII)I"⟩
abbrev mX7_mayWant : MT := (RX7, yX7_mayWant, cX7_mayWant, 6, (some .int), 4, 86)
abbrev cX7_wantRod : ByteArray := prog_9_method_71_code
def yX7_wantRod : MethodName := ⟨RX7, "wantRod", "(I)V"⟩
abbrev mX7_wantRod : MT := (RX7, yX7_wantRod, cX7_wantRod, 7, none, 5, 111)
abbrev cX7_wantCloud : ByteArray := prog_9_method_72_code
def yX7_wantCloud : MethodName := ⟨RX7, "wantCloud", "()V"⟩
abbrev mX7_wantCloud : MT := (RX7, yX7_wantCloud, cX7_wantCloud, 5, none, 5, 111)
abbrev cX7_wantRule : ByteArray := prog_9_method_73_code
def yX7_wantRule : MethodName := ⟨RX7, "wantRule", "(III)V"⟩
abbrev mX7_wantRule : MT := (RX7, yX7_wantRule, cX7_wantRule, 5, none, 4, 86)
abbrev cX7_wantItem : ByteArray := prog_9_method_74_code
def yX7_wantItem : MethodName := ⟨RX7, "wantItem", "()V"⟩
abbrev mX7_wantItem : MT := (RX7, yX7_wantItem, cX7_wantItem, 1, none, 6, 137)
abbrev cX7_plain : ByteArray := prog_9_method_75_code
def yX7_plain : MethodName := ⟨RX7, "plain", "()I"⟩
abbrev mX7_plain : MT := (RX7, yX7_plain, cX7_plain, 3, (some .int), 7, 157)
abbrev cX7_isSheet : ByteArray := prog_9_method_76_code
def yX7_isSheet : MethodName := ⟨RX7, "isSheet", "(I)Z"⟩
abbrev mX7_isSheet : MT := (RX7, yX7_isSheet, cX7_isSheet, 1, (some .boolean), 1, 22)
abbrev cX7_narrow : ByteArray := prog_9_method_77_code
def yX7_narrow : MethodName := ⟨RX7, "narrow", "(IJ)J"⟩
abbrev mX7_narrow : MT := (RX7, yX7_narrow, cX7_narrow, 3, (some .long), 0, 0)
abbrev cX7_sheet : ByteArray := prog_9_method_78_code
def yX7_sheet : MethodName := ⟨RX7, "sheet", "(III)I"⟩
abbrev mX7_sheet : MT := (RX7, yX7_sheet, cX7_sheet, 5, (some .int), 2, 42)
abbrev cX7_write : ByteArray := prog_9_method_79_code
def yX7_write : MethodName := ⟨RX7, "write", "(IIJ)J"⟩
abbrev mX7_write : MT := (RX7, yX7_write, cX7_write, 7, (some .long), 2, 42)
abbrev cX7_isPart : ByteArray := prog_9_method_80_code
def yX7_isPart : MethodName := ⟨RX7, "isPart", "(III)Z"⟩
abbrev mX7_isPart : MT := (RX7, yX7_isPart, cX7_isPart, 4, (some .boolean), 0, 0)
abbrev cX7_copy : ByteArray := prog_9_method_81_code
def yX7_copy : MethodName := ⟨RX7, "copy", "(IIIII)I"⟩
abbrev mX7_copy : MT := (RX7, yX7_copy, cX7_copy, 7, (some .int), 2, 42)
abbrev cX7_badSheet : ByteArray := prog_9_method_82_code
def yX7_badSheet : MethodName := ⟨RX7, "badSheet", "(I)I"⟩
abbrev mX7_badSheet : MT := (RX7, yX7_badSheet, cX7_badSheet, 2, (some .int), 2, 42)
abbrev cX7_lays : ByteArray := prog_9_method_83_code
def yX7_lays : MethodName := ⟨RX7, "lays", "(I)I"⟩
abbrev mX7_lays : MT := (RX7, yX7_lays, cX7_lays, 7, (some .int), 3, 63)
abbrev cX7_book : ByteArray := prog_9_method_84_code
def yX7_book : MethodName := ⟨RX7, "book", "(II)I"⟩
abbrev mX7_book : MT := (RX7, yX7_book, cX7_book, 5, (some .int), 6, 129)
abbrev cX7_isSo : ByteArray := prog_9_method_85_code
def yX7_isSo : MethodName := ⟨RX7, "isSo", "(II)Z"⟩
abbrev mX7_isSo : MT := (RX7, yX7_isSo, cX7_isSo, 5, (some .boolean), 6, 129)
abbrev cX7_read : ByteArray := prog_9_method_86_code
def yX7_read : MethodName := ⟨RX7, "read", "(II)I"⟩
abbrev mX7_read : MT := (RX7, yX7_read, cX7_read, 7, (some .int), 7, 153)
abbrev cX7_moveAll : ByteArray := prog_9_method_87_code
def yX7_moveAll : MethodName := ⟨RX7, "moveAll", "(Z[I)V"⟩
abbrev mX7_moveAll : MT := (RX7, yX7_moveAll, cX7_moveAll, 4, none, 0, 0)
abbrev cX7_image : ByteArray := prog_9_method_88_code
def yX7_image : MethodName := ⟨RX7, "image", "()I"⟩
abbrev mX7_image : MT := (RX7, yX7_image, cX7_image, 1, (some .int), 1, 23)
abbrev cX7_undo : ByteArray := prog_9_method_89_code
def yX7_undo : MethodName := ⟨RX7, "undo", "()I"⟩
abbrev mX7_undo : MT := (RX7, yX7_undo, cX7_undo, 1, (some .int), 1, 23)
abbrev cX7_tear : ByteArray := prog_9_method_90_code
def yX7_tear : MethodName := ⟨RX7, "tear", "()I"⟩
abbrev mX7_tear : MT := (RX7, yX7_tear, cX7_tear, 2, (some .int), 0, 0)
abbrev cX7_paidAll : ByteArray := prog_9_method_91_code
def yX7_paidAll : MethodName := ⟨RX7, "paidAll", "()I"⟩
abbrev mX7_paidAll : MT := (RX7, yX7_paidAll, cX7_paidAll, 3, (some .int), 2, 43)
abbrev cX7_count : ByteArray := prog_9_method_92_code
def yX7_count : MethodName := ⟨RX7, "count", "(I)I"⟩
abbrev mX7_count : MT := (RX7, yX7_count, cX7_count, 2, (some .int), 3, 65)
abbrev cX7_status : ByteArray := prog_9_method_93_code
def yX7_status : MethodName := ⟨RX7, "status", "(I)I"⟩
abbrev mX7_status : MT := (RX7, yX7_status, cX7_status, 4, (some .int), 1, 22)
abbrev cJ6_numberOfLeadingZeros : ByteArray := prog_10_method_47_code
def yJ6_numberOfLeadingZeros : MethodName := ⟨RJ6, "numberOfLeadingZeros", "(I)I"⟩
abbrev mJ6_numberOfLeadingZeros : MT := (RJ6, yJ6_numberOfLeadingZeros, cJ6_numberOfLeadingZeros, 2, (some .int), 0, 0)
abbrev cJ9_abs : ByteArray := prog_11_method_59_code
def yJ9_abs : MethodName := ⟨RJ9, "abs", "(I)I"⟩
abbrev mJ9_abs : MT := (RJ9, yJ9_abs, cJ9_abs, 1, (some .int), 0, 0)
abbrev cJ9_max : ByteArray := prog_11_method_65_code
def yJ9_max : MethodName := ⟨RJ9, "max", "(II)I"⟩
abbrev mJ9_max : MT := (RJ9, yJ9_max, cJ9_max, 2, (some .int), 0, 0)
abbrev cJ9_min : ByteArray := prog_11_method_69_code
def yJ9_min : MethodName := ⟨RJ9, "min", "(II)I"⟩
abbrev mJ9_min : MT := (RJ9, yJ9_min, cJ9_min, 2, (some .int), 0, 0)
abbrev cJ0_length : ByteArray := prog_12_method_54_code
def yJ0_length : MethodName := ⟨RJ0, "length", "()I"⟩
abbrev mJ0_length : MT := (RJ0, yJ0_length, cJ0_length, 1, (some .int), 1, 20)
abbrev cJ0_charAt : ByteArray := prog_12_method_56_code
def yJ0_charAt : MethodName := ⟨RJ0, "charAt", "(I)C"⟩
abbrev mJ0_charAt : MT := (RJ0, yJ0_charAt, cJ0_charAt, 2, (some .char), 4, 85)
abbrev cJ0_coder : ByteArray := prog_12_method_152_code
def yJ0_coder : MethodName := ⟨RJ0, "coder", "()B"⟩
abbrev mJ0_coder : MT := (RJ0, yJ0_coder, cJ0_coder, 1, (some .byte), 0, 0)
abbrev cJ0_isLatin1 : ByteArray := prog_12_method_154_code
def yJ0_isLatin1 : MethodName := ⟨RJ0, "isLatin1", "()Z"⟩
abbrev mJ0_isLatin1 : MT := (RJ0, yJ0_isLatin1, cJ0_isLatin1, 1, (some .boolean), 0, 0)
abbrev cJ0_checkIndex : ByteArray := prog_12_method_155_code
def yJ0_checkIndex : MethodName := ⟨RJ0, "checkIndex", "(II)V"⟩
abbrev mJ0_checkIndex : MT := (RJ0, yJ0_checkIndex, cJ0_checkIndex, 2, none, 1, 22)
abbrev cJ1_charAt : ByteArray := prog_13_method_2_code
def yJ1_charAt : MethodName := ⟨RJ1, "charAt", "([BI)C"⟩
abbrev mJ1_charAt : MT := (RJ1, yJ1_charAt, cJ1_charAt, 2, (some .char), 2, 43)
abbrev cJ2_getChar : ByteArray := prog_14_method_5_code
def yJ2_getChar : MethodName := ⟨RJ2, "getChar", "([BI)C"⟩
abbrev mJ2_getChar : MT := (RJ2, yJ2_getChar, cJ2_getChar, 2, (some .char), 1, 20)
abbrev cJ2_length : ByteArray := prog_14_method_6_code
def yJ2_length : MethodName := ⟨RJ2, "length", "([B)I"⟩
abbrev mJ2_length : MT := (RJ2, yJ2_length, cJ2_length, 1, (some .int), 0, 0)
abbrev cJ2_charAt : ByteArray := prog_14_method_83_code
def yJ2_charAt : MethodName := ⟨RJ2, "charAt", "([BI)C"⟩
abbrev mJ2_charAt : MT := (RJ2, yJ2_charAt, cJ2_charAt, 2, (some .char), 3, 64)
abbrev cJ2_checkIndex : ByteArray := prog_14_method_91_code
def yJ2_checkIndex : MethodName := ⟨RJ2, "checkIndex", "(I[B)V"⟩
abbrev mJ2_checkIndex : MT := (RJ2, yJ2_checkIndex, cJ2_checkIndex, 2, none, 2, 43)
abbrev cJ3_checkIndex : ByteArray := prog_16_method_11_code
def yJ3_checkIndex : MethodName := ⟨RJ3, "checkIndex", "(IILjava/util/function/BiFunction;)I"⟩
abbrev mJ3_checkIndex : MT := (RJ3, yJ3_checkIndex, cJ3_checkIndex, 3, (some .int), 0, 0)
end
section
theorem dX0_init_0 : decode cX0_init 0 = .ok (.aload_n 0, 1) := by decide +kernel
theorem dX0_init_1 : decode cX0_init 1 = .ok (.invokespecial 3, 3) := by decide +kernel
theorem dX0_init_4 : decode cX0_init 4 = .ok (.aload_n 0, 1) := by decide +kernel
theorem dX0_init_5 : decode cX0_init 5 = .ok (.iconst 0, 1) := by decide +kernel
theorem dX0_init_6 : decode cX0_init 6 = .ok (.putfield 9, 3) := by decide +kernel
theorem dX0_init_9 : decode cX0_init 9 = .ok (.aload_n 0, 1) := by decide +kernel
theorem dX0_init_10 : decode cX0_init 10 = .ok (.iconst 0, 1) := by decide +kernel
theorem dX0_init_11 : decode cX0_init 11 = .ok (.putfield 15, 3) := by decide +kernel
theorem dX0_init_14 : decode cX0_init 14 = .ok (.aload_n 0, 1) := by decide +kernel
theorem dX0_init_15 : decode cX0_init 15 = .ok (.iconst 1, 1) := by decide +kernel
theorem dX0_init_16 : decode cX0_init 16 = .ok (.putfield 18, 3) := by decide +kernel
theorem dX0_init_19 : decode cX0_init 19 = .ok (.aload_n 0, 1) := by decide +kernel
theorem dX0_init_20 : decode cX0_init 20 = .ok (.bipush 20, 2) := by decide +kernel
theorem dX0_init_22 : decode cX0_init 22 = .ok (.putfield 21, 3) := by decide +kernel
theorem dX0_init_25 : decode cX0_init 25 = .ok (.aload_n 0, 1) := by decide +kernel
theorem dX0_init_26 : decode cX0_init 26 = .ok (.bipush 60, 2) := by decide +kernel
theorem dX0_init_28 : decode cX0_init 28 = .ok (.putfield 24, 3) := by decide +kernel
theorem dX0_init_31 : decode cX0_init 31 = .ok (.return_, 1) := by decide +kernel
theorem dX0_mayBe_0 : decode cX0_mayBe 0 = .ok (.iload_n 0, 1) := by decide +kernel
theorem dX0_mayBe_1 : decode cX0_mayBe 1 = .ok (.iconst 0, 1) := by decide +kernel
theorem dX0_mayBe_2 : decode cX0_mayBe 2 = .ok (.iconst 4, 1) := by decide +kernel
theorem dX0_mayBe_3 : decode cX0_mayBe 3 = .ok (.invokestatic 27, 3) := by decide +kernel
theorem dX0_mayBe_6 : decode cX0_mayBe 6 = .ok (.ifCond .eq 24, 3) := by decide +kernel
theorem dX0_mayBe_9 : decode cX0_mayBe 9 = .ok (.iload_n 1, 1) := by decide +kernel
theorem dX0_mayBe_10 : decode cX0_mayBe 10 = .ok (.getstatic 31, 3) := by decide +kernel
theorem dX0_mayBe_13 : decode cX0_mayBe 13 = .ok (.iload_n 0, 1) := by decide +kernel
theorem dX0_mayBe_14 : decode cX0_mayBe 14 = .ok (.iaload, 1) := by decide +kernel
theorem dX0_mayBe_15 : decode cX0_mayBe 15 = .ok (.getstatic 35, 3) := by decide +kernel
theorem dX0_mayBe_18 : decode cX0_mayBe 18 = .ok (.iload_n 0, 1) := by decide +kernel
theorem dX0_mayBe_19 : decode cX0_mayBe 19 = .ok (.iaload, 1) := by decide +kernel
theorem dX0_mayBe_20 : decode cX0_mayBe 20 = .ok (.invokestatic 27, 3) := by decide +kernel
theorem dX0_mayBe_23 : decode cX0_mayBe 23 = .ok (.ifCond .eq 7, 3) := by decide +kernel
theorem dX0_mayBe_26 : decode cX0_mayBe 26 = .ok (.iconst 1, 1) := by decide +kernel
theorem dX0_mayBe_27 : decode cX0_mayBe 27 = .ok (.goto 4, 3) := by decide +kernel
theorem dX0_mayBe_30 : decode cX0_mayBe 30 = .ok (.iconst 0, 1) := by decide +kernel
theorem dX0_mayBe_31 : decode cX0_mayBe 31 = .ok (.ireturn, 1) := by decide +kernel
theorem dX0_takeFrom_0 : decode cX0_takeFrom 0 = .ok (.aload_n 0, 1) := by decide +kernel
theorem dX0_takeFrom_1 : decode cX0_takeFrom 1 = .ok (.aload_n 1, 1) := by decide +kernel
theorem dX0_takeFrom_2 : decode cX0_takeFrom 2 = .ok (.getfield 9, 3) := by decide +kernel
theorem dX0_takeFrom_5 : decode cX0_takeFrom 5 = .ok (.putfield 9, 3) := by decide +kernel
theorem dX0_takeFrom_8 : decode cX0_takeFrom 8 = .ok (.aload_n 0, 1) := by decide +kernel
theorem dX0_takeFrom_9 : decode cX0_takeFrom 9 = .ok (.aload_n 1, 1) := by decide +kernel
theorem dX0_takeFrom_10 : decode cX0_takeFrom 10 = .ok (.getfield 15, 3) := by decide +kernel
theorem dX0_takeFrom_13 : decode cX0_takeFrom 13 = .ok (.putfield 15, 3) := by decide +kernel
theorem dX0_takeFrom_16 : decode cX0_takeFrom 16 = .ok (.aload_n 0, 1) := by decide +kernel
theorem dX0_takeFrom_17 : decode cX0_takeFrom 17 = .ok (.aload_n 1, 1) := by decide +kernel
theorem dX0_takeFrom_18 : decode cX0_takeFrom 18 = .ok (.getfield 18, 3) := by decide +kernel
theorem dX0_takeFrom_21 : decode cX0_takeFrom 21 = .ok (.putfield 18, 3) := by decide +kernel
theorem dX0_takeFrom_24 : decode cX0_takeFrom 24 = .ok (.aload_n 0, 1) := by decide +kernel
theorem dX0_takeFrom_25 : decode cX0_takeFrom 25 = .ok (.aload_n 1, 1) := by decide +kernel
theorem dX0_takeFrom_26 : decode cX0_takeFrom 26 = .ok (.getfield 21, 3) := by decide +kernel
theorem dX0_takeFrom_29 : decode cX0_takeFrom 29 = .ok (.putfield 21, 3) := by decide +kernel
theorem dX0_takeFrom_32 : decode cX0_takeFrom 32 = .ok (.aload_n 0, 1) := by decide +kernel
theorem dX0_takeFrom_33 : decode cX0_takeFrom 33 = .ok (.aload_n 1, 1) := by decide +kernel
theorem dX0_takeFrom_34 : decode cX0_takeFrom 34 = .ok (.getfield 24, 3) := by decide +kernel
theorem dX0_takeFrom_37 : decode cX0_takeFrom 37 = .ok (.putfield 24, 3) := by decide +kernel
theorem dX0_takeFrom_40 : decode cX0_takeFrom 40 = .ok (.return_, 1) := by decide +kernel
theorem dX0_part_0 : decode cX0_part 0 = .ok (.iload_n 1, 1) := by decide +kernel
theorem dX0_part_1 : decode cX0_part 1 = .ok (.tableswitch 51 0 3 #[31, 36, 41, 46], 31) := by decide +kernel
theorem dX0_part_32 : decode cX0_part 32 = .ok (.aload_n 0, 1) := by decide +kernel
theorem dX0_part_33 : decode cX0_part 33 = .ok (.getfield 9, 3) := by decide +kernel
theorem dX0_part_36 : decode cX0_part 36 = .ok (.ireturn, 1) := by decide +kernel
theorem dX0_part_37 : decode cX0_part 37 = .ok (.aload_n 0, 1) := by decide +kernel
theorem dX0_part_38 : decode cX0_part 38 = .ok (.getfield 15, 3) := by decide +kernel
theorem dX0_part_41 : decode cX0_part 41 = .ok (.ireturn, 1) := by decide +kernel
theorem dX0_part_42 : decode cX0_part 42 = .ok (.aload_n 0, 1) := by decide +kernel
theorem dX0_part_43 : decode cX0_part 43 = .ok (.getfield 18, 3) := by decide +kernel
theorem dX0_part_46 : decode cX0_part 46 = .ok (.ireturn, 1) := by decide +kernel
theorem dX0_part_47 : decode cX0_part 47 = .ok (.aload_n 0, 1) := by decide +kernel
theorem dX0_part_48 : decode cX0_part 48 = .ok (.getfield 21, 3) := by decide +kernel
theorem dX0_part_51 : decode cX0_part 51 = .ok (.ireturn, 1) := by decide +kernel
theorem dX0_part_52 : decode cX0_part 52 = .ok (.aload_n 0, 1) := by decide +kernel
theorem dX0_part_53 : decode cX0_part 53 = .ok (.getfield 24, 3) := by decide +kernel
theorem dX0_part_56 : decode cX0_part 56 = .ok (.ireturn, 1) := by decide +kernel
theorem dX0_setPart_0 : decode cX0_setPart 0 = .ok (.iload_n 1, 1) := by decide +kernel
theorem dX0_setPart_1 : decode cX0_setPart 1 = .ok (.tableswitch 63 0 3 #[31, 39, 47, 55], 31) := by decide +kernel
theorem dX0_setPart_32 : decode cX0_setPart 32 = .ok (.aload_n 0, 1) := by decide +kernel
theorem dX0_setPart_33 : decode cX0_setPart 33 = .ok (.iload_n 2, 1) := by decide +kernel
theorem dX0_setPart_34 : decode cX0_setPart 34 = .ok (.putfield 9, 3) := by decide +kernel
theorem dX0_setPart_37 : decode cX0_setPart 37 = .ok (.goto 32, 3) := by decide +kernel
theorem dX0_setPart_40 : decode cX0_setPart 40 = .ok (.aload_n 0, 1) := by decide +kernel
theorem dX0_setPart_41 : decode cX0_setPart 41 = .ok (.iload_n 2, 1) := by decide +kernel
theorem dX0_setPart_42 : decode cX0_setPart 42 = .ok (.putfield 15, 3) := by decide +kernel
theorem dX0_setPart_45 : decode cX0_setPart 45 = .ok (.goto 24, 3) := by decide +kernel
theorem dX0_setPart_48 : decode cX0_setPart 48 = .ok (.aload_n 0, 1) := by decide +kernel
theorem dX0_setPart_49 : decode cX0_setPart 49 = .ok (.iload_n 2, 1) := by decide +kernel
theorem dX0_setPart_50 : decode cX0_setPart 50 = .ok (.putfield 18, 3) := by decide +kernel
theorem dX0_setPart_53 : decode cX0_setPart 53 = .ok (.goto 16, 3) := by decide +kernel
theorem dX0_setPart_56 : decode cX0_setPart 56 = .ok (.aload_n 0, 1) := by decide +kernel
theorem dX0_setPart_57 : decode cX0_setPart 57 = .ok (.iload_n 2, 1) := by decide +kernel
theorem dX0_setPart_58 : decode cX0_setPart 58 = .ok (.putfield 21, 3) := by decide +kernel
theorem dX0_setPart_61 : decode cX0_setPart 61 = .ok (.goto 8, 3) := by decide +kernel
theorem dX0_setPart_64 : decode cX0_setPart 64 = .ok (.aload_n 0, 1) := by decide +kernel
theorem dX0_setPart_65 : decode cX0_setPart 65 = .ok (.iload_n 2, 1) := by decide +kernel
theorem dX0_setPart_66 : decode cX0_setPart 66 = .ok (.putfield 24, 3) := by decide +kernel
theorem dX0_setPart_69 : decode cX0_setPart 69 = .ok (.return_, 1) := by decide +kernel
theorem dX0_isBreaking_0 : decode cX0_isBreaking 0 = .ok (.aload_n 0, 1) := by decide +kernel
theorem dX0_isBreaking_1 : decode cX0_isBreaking 1 = .ok (.getfield 15, 3) := by decide +kernel
theorem dX0_isBreaking_4 : decode cX0_isBreaking 4 = .ok (.aload_n 0, 1) := by decide +kernel
theorem dX0_isBreaking_5 : decode cX0_isBreaking 5 = .ok (.getfield 24, 3) := by decide +kernel
theorem dX0_isBreaking_8 : decode cX0_isBreaking 8 = .ok (.if_icmp .lt 7, 3) := by decide +kernel
theorem dX0_isBreaking_11 : decode cX0_isBreaking 11 = .ok (.iconst 1, 1) := by decide +kernel
theorem dX0_isBreaking_12 : decode cX0_isBreaking 12 = .ok (.goto 4, 3) := by decide +kernel
theorem dX0_isBreaking_15 : decode cX0_isBreaking 15 = .ok (.iconst 0, 1) := by decide +kernel
theorem dX0_isBreaking_16 : decode cX0_isBreaking 16 = .ok (.ireturn, 1) := by decide +kernel
theorem dX0_passHour_0 : decode cX0_passHour 0 = .ok (.aload_n 0, 1) := by decide +kernel
theorem dX0_passHour_1 : decode cX0_passHour 1 = .ok (.invokevirtual 38, 3) := by decide +kernel
theorem dX0_passHour_4 : decode cX0_passHour 4 = .ok (.ifCond .eq 8, 3) := by decide +kernel
theorem dX0_passHour_7 : decode cX0_passHour 7 = .ok (.aload_n 0, 1) := by decide +kernel
theorem dX0_passHour_8 : decode cX0_passHour 8 = .ok (.iconst 0, 1) := by decide +kernel
theorem dX0_passHour_9 : decode cX0_passHour 9 = .ok (.putfield 15, 3) := by decide +kernel
theorem dX0_passHour_12 : decode cX0_passHour 12 = .ok (.aload_n 0, 1) := by decide +kernel
theorem dX0_passHour_13 : decode cX0_passHour 13 = .ok (.invokevirtual 42, 3) := by decide +kernel
theorem dX0_passHour_16 : decode cX0_passHour 16 = .ok (.return_, 1) := by decide +kernel
theorem dX0_goOn_0 : decode cX0_goOn 0 = .ok (.aload_n 0, 1) := by decide +kernel
theorem dX0_goOn_1 : decode cX0_goOn 1 = .ok (.getfield 9, 3) := by decide +kernel
theorem dX0_goOn_4 : decode cX0_goOn 4 = .ok (.aload_n 0, 1) := by decide +kernel
theorem dX0_goOn_5 : decode cX0_goOn 5 = .ok (.getfield 18, 3) := by decide +kernel
theorem dX0_goOn_8 : decode cX0_goOn 8 = .ok (.iadd, 1) := by decide +kernel
theorem dX0_goOn_9 : decode cX0_goOn 9 = .ok (.istore_n 1, 1) := by decide +kernel
theorem dX0_goOn_10 : decode cX0_goOn 10 = .ok (.iload_n 1, 1) := by decide +kernel
theorem dX0_goOn_11 : decode cX0_goOn 11 = .ok (.invokestatic 45, 3) := by decide +kernel
theorem dX0_goOn_14 : decode cX0_goOn 14 = .ok (.ifCond .eq 11, 3) := by decide +kernel
theorem dX0_goOn_17 : decode cX0_goOn 17 = .ok (.aload_n 0, 1) := by decide +kernel
theorem dX0_goOn_18 : decode cX0_goOn 18 = .ok (.iload_n 1, 1) := by decide +kernel
theorem dX0_goOn_19 : decode cX0_goOn 19 = .ok (.putfield 9, 3) := by decide +kernel
theorem dX0_goOn_22 : decode cX0_goOn 22 = .ok (.goto 12, 3) := by decide +kernel
theorem dX0_goOn_25 : decode cX0_goOn 25 = .ok (.aload_n 0, 1) := by decide +kernel
theorem dX0_goOn_26 : decode cX0_goOn 26 = .ok (.aload_n 0, 1) := by decide +kernel
theorem dX0_goOn_27 : decode cX0_goOn 27 = .ok (.getfield 18, 3) := by decide +kernel
theorem dX0_goOn_30 : decode cX0_goOn 30 = .ok (.ineg, 1) := by decide +kernel
theorem dX0_goOn_31 : decode cX0_goOn 31 = .ok (.putfield 18, 3) := by decide +kernel
theorem dX0_goOn_34 : decode cX0_goOn 34 = .ok (.aload_n 0, 1) := by decide +kernel
theorem dX0_goOn_35 : decode cX0_goOn 35 = .ok (.aload_n 0, 1) := by decide +kernel
theorem dX0_goOn_36 : decode cX0_goOn 36 = .ok (.getfield 15, 3) := by decide +kernel
theorem dX0_goOn_39 : decode cX0_goOn 39 = .ok (.aload_n 0, 1) := by decide +kernel
theorem dX0_goOn_40 : decode cX0_goOn 40 = .ok (.getfield 21, 3) := by decide +kernel
theorem dX0_goOn_43 : decode cX0_goOn 43 = .ok (.iadd, 1) := by decide +kernel
theorem dX0_goOn_44 : decode cX0_goOn 44 = .ok (.bipush 99, 2) := by decide +kernel
theorem dX0_goOn_46 : decode cX0_goOn 46 = .ok (.invokestatic 49, 3) := by decide +kernel
theorem dX0_goOn_49 : decode cX0_goOn 49 = .ok (.putfield 15, 3) := by decide +kernel
theorem dX0_goOn_52 : decode cX0_goOn 52 = .ok (.return_, 1) := by decide +kernel
theorem dX2_init_0 : decode cX2_init 0 = .ok (.aload_n 0, 1) := by decide +kernel
theorem dX2_init_1 : decode cX2_init 1 = .ok (.invokespecial 3, 3) := by decide +kernel
theorem dX2_init_4 : decode cX2_init 4 = .ok (.aload_n 0, 1) := by decide +kernel
theorem dX2_init_5 : decode cX2_init 5 = .ok (.new 9, 3) := by decide +kernel
theorem dX2_init_8 : decode cX2_init 8 = .ok (.dup, 1) := by decide +kernel
theorem dX2_init_9 : decode cX2_init 9 = .ok (.invokespecial 11, 3) := by decide +kernel
theorem dX2_init_12 : decode cX2_init 12 = .ok (.putfield 12, 3) := by decide +kernel
theorem dX2_init_15 : decode cX2_init 15 = .ok (.aload_n 0, 1) := by decide +kernel
theorem dX2_init_16 : decode cX2_init 16 = .ok (.iconst 0, 1) := by decide +kernel
theorem dX2_init_17 : decode cX2_init 17 = .ok (.putfield 18, 3) := by decide +kernel
theorem dX2_init_20 : decode cX2_init 20 = .ok (.aload_n 0, 1) := by decide +kernel
theorem dX2_init_21 : decode cX2_init 21 = .ok (.iconst 0, 1) := by decide +kernel
theorem dX2_init_22 : decode cX2_init 22 = .ok (.putfield 22, 3) := by decide +kernel
theorem dX2_init_25 : decode cX2_init 25 = .ok (.aload_n 0, 1) := by decide +kernel
theorem dX2_init_26 : decode cX2_init 26 = .ok (.iconst 0, 1) := by decide +kernel
theorem dX2_init_27 : decode cX2_init 27 = .ok (.putfield 25, 3) := by decide +kernel
theorem dX2_init_30 : decode cX2_init 30 = .ok (.aload_n 0, 1) := by decide +kernel
theorem dX2_init_31 : decode cX2_init 31 = .ok (.iconst 0, 1) := by decide +kernel
theorem dX2_init_32 : decode cX2_init 32 = .ok (.putfield 28, 3) := by decide +kernel
theorem dX2_init_35 : decode cX2_init 35 = .ok (.return_, 1) := by decide +kernel
theorem dX2_layOut_0 : decode cX2_layOut 0 = .ok (.aload_n 0, 1) := by decide +kernel
theorem dX2_layOut_1 : decode cX2_layOut 1 = .ok (.iconst 0, 1) := by decide +kernel
theorem dX2_layOut_2 : decode cX2_layOut 2 = .ok (.putfield 25, 3) := by decide +kernel
theorem dX2_layOut_5 : decode cX2_layOut 5 = .ok (.aload_n 0, 1) := by decide +kernel
theorem dX2_layOut_6 : decode cX2_layOut 6 = .ok (.invokevirtual 31, 3) := by decide +kernel
theorem dX2_layOut_9 : decode cX2_layOut 9 = .ok (.iconst 1, 1) := by decide +kernel
theorem dX2_layOut_10 : decode cX2_layOut 10 = .ok (.istore_n 2, 1) := by decide +kernel
theorem dX2_layOut_11 : decode cX2_layOut 11 = .ok (.iload_n 2, 1) := by decide +kernel
theorem dX2_layOut_12 : decode cX2_layOut 12 = .ok (.bipush 120, 2) := by decide +kernel
theorem dX2_layOut_14 : decode cX2_layOut 14 = .ok (.if_icmp .gt 52, 3) := by decide +kernel
theorem dX2_layOut_17 : decode cX2_layOut 17 = .ok (.aload_n 0, 1) := by decide +kernel
theorem dX2_layOut_18 : decode cX2_layOut 18 = .ok (.aload_n 1, 1) := by decide +kernel
theorem dX2_layOut_19 : decode cX2_layOut 19 = .ok (.invokevirtual 34, 3) := by decide +kernel
theorem dX2_layOut_22 : decode cX2_layOut 22 = .ok (.ifCond .ne 10, 3) := by decide +kernel
theorem dX2_layOut_25 : decode cX2_layOut 25 = .ok (.iconst (-1), 1) := by decide +kernel
theorem dX2_layOut_26 : decode cX2_layOut 26 = .ok (.aload_n 0, 1) := by decide +kernel
theorem dX2_layOut_27 : decode cX2_layOut 27 = .ok (.getfield 22, 3) := by decide +kernel
theorem dX2_layOut_30 : decode cX2_layOut 30 = .ok (.isub, 1) := by decide +kernel
theorem dX2_layOut_31 : decode cX2_layOut 31 = .ok (.ireturn, 1) := by decide +kernel
theorem dX2_layOut_32 : decode cX2_layOut 32 = .ok (.aload_n 0, 1) := by decide +kernel
theorem dX2_layOut_33 : decode cX2_layOut 33 = .ok (.getfield 18, 3) := by decide +kernel
theorem dX2_layOut_36 : decode cX2_layOut 36 = .ok (.ifCond .ne 5, 3) := by decide +kernel
theorem dX2_layOut_39 : decode cX2_layOut 39 = .ok (.iload_n 2, 1) := by decide +kernel
theorem dX2_layOut_40 : decode cX2_layOut 40 = .ok (.ireturn, 1) := by decide +kernel
theorem dX2_layOut_41 : decode cX2_layOut 41 = .ok (.aload_n 0, 1) := by decide +kernel
theorem dX2_layOut_42 : decode cX2_layOut 42 = .ok (.getfield 18, 3) := by decide +kernel
theorem dX2_layOut_45 : decode cX2_layOut 45 = .ok (.iconst 3, 1) := by decide +kernel
theorem dX2_layOut_46 : decode cX2_layOut 46 = .ok (.if_icmp .eq 10, 3) := by decide +kernel
theorem dX2_layOut_49 : decode cX2_layOut 49 = .ok (.iconst (-1), 1) := by decide +kernel
theorem dX2_layOut_50 : decode cX2_layOut 50 = .ok (.aload_n 0, 1) := by decide +kernel
theorem dX2_layOut_51 : decode cX2_layOut 51 = .ok (.getfield 22, 3) := by decide +kernel
theorem dX2_layOut_54 : decode cX2_layOut 54 = .ok (.isub, 1) := by decide +kernel
theorem dX2_layOut_55 : decode cX2_layOut 55 = .ok (.ireturn, 1) := by decide +kernel
theorem dX2_layOut_56 : decode cX2_layOut 56 = .ok (.aload_n 0, 1) := by decide +kernel
theorem dX2_layOut_57 : decode cX2_layOut 57 = .ok (.invokevirtual 31, 3) := by decide +kernel
theorem dX2_layOut_60 : decode cX2_layOut 60 = .ok (.iinc 2 1, 3) := by decide +kernel
theorem dX2_layOut_63 : decode cX2_layOut 63 = .ok (.goto (-52), 3) := by decide +kernel
theorem dX2_layOut_66 : decode cX2_layOut 66 = .ok (.iconst (-1), 1) := by decide +kernel
theorem dX2_layOut_67 : decode cX2_layOut 67 = .ok (.aload_n 0, 1) := by decide +kernel
theorem dX2_layOut_68 : decode cX2_layOut 68 = .ok (.getfield 22, 3) := by decide +kernel
theorem dX2_layOut_71 : decode cX2_layOut 71 = .ok (.isub, 1) := by decide +kernel
theorem dX2_layOut_72 : decode cX2_layOut 72 = .ok (.ireturn, 1) := by decide +kernel
theorem dX2_layItem_0 : decode cX2_layItem 0 = .ok (.aload_n 0, 1) := by decide +kernel
theorem dX2_layItem_1 : decode cX2_layItem 1 = .ok (.invokevirtual 38, 3) := by decide +kernel
theorem dX2_layItem_4 : decode cX2_layItem 4 = .ok (.istore_n 2, 1) := by decide +kernel
theorem dX2_layItem_5 : decode cX2_layItem 5 = .ok (.iload_n 2, 1) := by decide +kernel
theorem dX2_layItem_6 : decode cX2_layItem 6 = .ok (.invokestatic 42, 3) := by decide +kernel
theorem dX2_layItem_9 : decode cX2_layItem 9 = .ok (.ifCond .eq 10, 3) := by decide +kernel
theorem dX2_layItem_12 : decode cX2_layItem 12 = .ok (.aload_n 0, 1) := by decide +kernel
theorem dX2_layItem_13 : decode cX2_layItem 13 = .ok (.aload_n 1, 1) := by decide +kernel
theorem dX2_layItem_14 : decode cX2_layItem 14 = .ok (.iload_n 2, 1) := by decide +kernel
theorem dX2_layItem_15 : decode cX2_layItem 15 = .ok (.invokevirtual 46, 3) := by decide +kernel
theorem dX2_layItem_18 : decode cX2_layItem 18 = .ok (.ireturn, 1) := by decide +kernel
theorem dX2_layItem_19 : decode cX2_layItem 19 = .ok (.aload_n 0, 1) := by decide +kernel
theorem dX2_layItem_20 : decode cX2_layItem 20 = .ok (.ldc 50, 2) := by decide +kernel
theorem dX2_layItem_22 : decode cX2_layItem 22 = .ok (.invokevirtual 52, 3) := by decide +kernel
theorem dX2_layItem_25 : decode cX2_layItem 25 = .ok (.ifCond .eq 12, 3) := by decide +kernel
theorem dX2_layItem_28 : decode cX2_layItem 28 = .ok (.aload_n 0, 1) := by decide +kernel
theorem dX2_layItem_29 : decode cX2_layItem 29 = .ok (.aload_n 1, 1) := by decide +kernel
theorem dX2_layItem_30 : decode cX2_layItem 30 = .ok (.getfield 56, 3) := by decide +kernel
theorem dX2_layItem_33 : decode cX2_layItem 33 = .ok (.invokevirtual 61, 3) := by decide +kernel
theorem dX2_layItem_36 : decode cX2_layItem 36 = .ok (.ireturn, 1) := by decide +kernel
theorem dX2_layItem_37 : decode cX2_layItem 37 = .ok (.aload_n 0, 1) := by decide +kernel
theorem dX2_layItem_38 : decode cX2_layItem 38 = .ok (.ldc 65, 2) := by decide +kernel
theorem dX2_layItem_40 : decode cX2_layItem 40 = .ok (.invokevirtual 52, 3) := by decide +kernel
theorem dX2_layItem_43 : decode cX2_layItem 43 = .ok (.ifCond .eq 13, 3) := by decide +kernel
theorem dX2_layItem_46 : decode cX2_layItem 46 = .ok (.aload_n 0, 1) := by decide +kernel
theorem dX2_layItem_47 : decode cX2_layItem 47 = .ok (.aload_n 1, 1) := by decide +kernel
theorem dX2_layItem_48 : decode cX2_layItem 48 = .ok (.getfield 56, 3) := by decide +kernel
theorem dX2_layItem_51 : decode cX2_layItem 51 = .ok (.iconst 3, 1) := by decide +kernel
theorem dX2_layItem_52 : decode cX2_layItem 52 = .ok (.invokevirtual 69, 3) := by decide +kernel
theorem dX2_layItem_55 : decode cX2_layItem 55 = .ok (.ireturn, 1) := by decide +kernel
theorem dX2_layItem_56 : decode cX2_layItem 56 = .ok (.aload_n 0, 1) := by decide +kernel
theorem dX2_layItem_57 : decode cX2_layItem 57 = .ok (.ldc 73, 2) := by decide +kernel
theorem dX2_layItem_59 : decode cX2_layItem 59 = .ok (.invokevirtual 52, 3) := by decide +kernel
theorem dX2_layItem_62 : decode cX2_layItem 62 = .ok (.ifCond .eq 13, 3) := by decide +kernel
theorem dX2_layItem_65 : decode cX2_layItem 65 = .ok (.aload_n 0, 1) := by decide +kernel
theorem dX2_layItem_66 : decode cX2_layItem 66 = .ok (.aload_n 1, 1) := by decide +kernel
theorem dX2_layItem_67 : decode cX2_layItem 67 = .ok (.getfield 56, 3) := by decide +kernel
theorem dX2_layItem_70 : decode cX2_layItem 70 = .ok (.iconst 4, 1) := by decide +kernel
theorem dX2_layItem_71 : decode cX2_layItem 71 = .ok (.invokevirtual 69, 3) := by decide +kernel
theorem dX2_layItem_74 : decode cX2_layItem 74 = .ok (.ireturn, 1) := by decide +kernel
theorem dX2_layItem_75 : decode cX2_layItem 75 = .ok (.iconst 0, 1) := by decide +kernel
theorem dX2_layItem_76 : decode cX2_layItem 76 = .ok (.ireturn, 1) := by decide +kernel
theorem dX2_layRod_0 : decode cX2_layRod 0 = .ok (.aload_n 1, 1) := by decide +kernel
theorem dX2_layRod_1 : decode cX2_layRod 1 = .ok (.invokevirtual 75, 3) := by decide +kernel
theorem dX2_layRod_4 : decode cX2_layRod 4 = .ok (.ifCond .eq 5, 3) := by decide +kernel
theorem dX2_layRod_7 : decode cX2_layRod 7 = .ok (.iconst 0, 1) := by decide +kernel
theorem dX2_layRod_8 : decode cX2_layRod 8 = .ok (.ireturn, 1) := by decide +kernel
theorem dX2_layRod_9 : decode cX2_layRod 9 = .ok (.aload_n 0, 1) := by decide +kernel
theorem dX2_layRod_10 : decode cX2_layRod 10 = .ok (.invokevirtual 31, 3) := by decide +kernel
theorem dX2_layRod_13 : decode cX2_layRod 13 = .ok (.aload_n 0, 1) := by decide +kernel
theorem dX2_layRod_14 : decode cX2_layRod 14 = .ok (.ldc 79, 2) := by decide +kernel
theorem dX2_layRod_16 : decode cX2_layRod 16 = .ok (.invokevirtual 52, 3) := by decide +kernel
theorem dX2_layRod_19 : decode cX2_layRod 19 = .ok (.ifCond .eq 13, 3) := by decide +kernel
theorem dX2_layRod_22 : decode cX2_layRod 22 = .ok (.aload_n 0, 1) := by decide +kernel
theorem dX2_layRod_23 : decode cX2_layRod 23 = .ok (.iconst 0, 1) := by decide +kernel
theorem dX2_layRod_24 : decode cX2_layRod 24 = .ok (.bipush 15, 2) := by decide +kernel
theorem dX2_layRod_26 : decode cX2_layRod 26 = .ok (.invokevirtual 81, 3) := by decide +kernel
theorem dX2_layRod_29 : decode cX2_layRod 29 = .ok (.ifCond .ne 5, 3) := by decide +kernel
theorem dX2_layRod_32 : decode cX2_layRod 32 = .ok (.iconst 0, 1) := by decide +kernel
theorem dX2_layRod_33 : decode cX2_layRod 33 = .ok (.ireturn, 1) := by decide +kernel
theorem dX2_layRod_34 : decode cX2_layRod 34 = .ok (.aload_n 1, 1) := by decide +kernel
theorem dX2_layRod_35 : decode cX2_layRod 35 = .ok (.iload_n 2, 1) := by decide +kernel
theorem dX2_layRod_36 : decode cX2_layRod 36 = .ok (.aload_n 0, 1) := by decide +kernel
theorem dX2_layRod_37 : decode cX2_layRod 37 = .ok (.invokevirtual 85, 3) := by decide +kernel
theorem dX2_layRod_40 : decode cX2_layRod 40 = .ok (.invokevirtual 88, 3) := by decide +kernel
theorem dX2_layRod_43 : decode cX2_layRod 43 = .ok (.astore_n 3, 1) := by decide +kernel
theorem dX2_layRod_44 : decode cX2_layRod 44 = .ok (.aload_n 0, 1) := by decide +kernel
theorem dX2_layRod_45 : decode cX2_layRod 45 = .ok (.ldc 92, 2) := by decide +kernel
theorem dX2_layRod_47 : decode cX2_layRod 47 = .ok (.invokevirtual 52, 3) := by decide +kernel
theorem dX2_layRod_50 : decode cX2_layRod 50 = .ok (.ifCond .eq 23, 3) := by decide +kernel
theorem dX2_layRod_53 : decode cX2_layRod 53 = .ok (.aload_n 0, 1) := by decide +kernel
theorem dX2_layRod_54 : decode cX2_layRod 54 = .ok (.iconst 0, 1) := by decide +kernel
theorem dX2_layRod_55 : decode cX2_layRod 55 = .ok (.bipush 60, 2) := by decide +kernel
theorem dX2_layRod_57 : decode cX2_layRod 57 = .ok (.invokevirtual 81, 3) := by decide +kernel
theorem dX2_layRod_60 : decode cX2_layRod 60 = .ok (.ifCond .ne 5, 3) := by decide +kernel
theorem dX2_layRod_63 : decode cX2_layRod 63 = .ok (.iconst 0, 1) := by decide +kernel
theorem dX2_layRod_64 : decode cX2_layRod 64 = .ok (.ireturn, 1) := by decide +kernel
theorem dX2_layRod_65 : decode cX2_layRod 65 = .ok (.aload_n 3, 1) := by decide +kernel
theorem dX2_layRod_66 : decode cX2_layRod 66 = .ok (.aload_n 0, 1) := by decide +kernel
theorem dX2_layRod_67 : decode cX2_layRod 67 = .ok (.invokevirtual 85, 3) := by decide +kernel
theorem dX2_layRod_70 : decode cX2_layRod 70 = .ok (.putfield 94, 3) := by decide +kernel
theorem dX2_layRod_73 : decode cX2_layRod 73 = .ok (.aload_n 0, 1) := by decide +kernel
theorem dX2_layRod_74 : decode cX2_layRod 74 = .ok (.ldc 99, 2) := by decide +kernel
theorem dX2_layRod_76 : decode cX2_layRod 76 = .ok (.invokevirtual 52, 3) := by decide +kernel
theorem dX2_layRod_79 : decode cX2_layRod 79 = .ok (.ifCond .eq 52, 3) := by decide +kernel
theorem dX2_layRod_82 : decode cX2_layRod 82 = .ok (.aload_n 0, 1) := by decide +kernel
theorem dX2_layRod_83 : decode cX2_layRod 83 = .ok (.iconst 0, 1) := by decide +kernel
theorem dX2_layRod_84 : decode cX2_layRod 84 = .ok (.bipush 23, 2) := by decide +kernel
theorem dX2_layRod_86 : decode cX2_layRod 86 = .ok (.invokevirtual 81, 3) := by decide +kernel
theorem dX2_layRod_89 : decode cX2_layRod 89 = .ok (.ifCond .ne 5, 3) := by decide +kernel
theorem dX2_layRod_92 : decode cX2_layRod 92 = .ok (.iconst 0, 1) := by decide +kernel
theorem dX2_layRod_93 : decode cX2_layRod 93 = .ok (.ireturn, 1) := by decide +kernel
theorem dX2_layRod_94 : decode cX2_layRod 94 = .ok (.aload_n 3, 1) := by decide +kernel
theorem dX2_layRod_95 : decode cX2_layRod 95 = .ok (.aload_n 0, 1) := by decide +kernel
theorem dX2_layRod_96 : decode cX2_layRod 96 = .ok (.invokevirtual 85, 3) := by decide +kernel
theorem dX2_layRod_99 : decode cX2_layRod 99 = .ok (.putfield 101, 3) := by decide +kernel
theorem dX2_layRod_102 : decode cX2_layRod 102 = .ok (.aload_n 0, 1) := by decide +kernel
theorem dX2_layRod_103 : decode cX2_layRod 103 = .ok (.ldc 103, 2) := by decide +kernel
theorem dX2_layRod_105 : decode cX2_layRod 105 = .ok (.invokevirtual 52, 3) := by decide +kernel
theorem dX2_layRod_108 : decode cX2_layRod 108 = .ok (.ifCond .eq 13, 3) := by decide +kernel
theorem dX2_layRod_111 : decode cX2_layRod 111 = .ok (.aload_n 0, 1) := by decide +kernel
theorem dX2_layRod_112 : decode cX2_layRod 112 = .ok (.iconst 0, 1) := by decide +kernel
theorem dX2_layRod_113 : decode cX2_layRod 113 = .ok (.bipush 23, 2) := by decide +kernel
theorem dX2_layRod_115 : decode cX2_layRod 115 = .ok (.invokevirtual 81, 3) := by decide +kernel
theorem dX2_layRod_118 : decode cX2_layRod 118 = .ok (.ifCond .ne 5, 3) := by decide +kernel
theorem dX2_layRod_121 : decode cX2_layRod 121 = .ok (.iconst 0, 1) := by decide +kernel
theorem dX2_layRod_122 : decode cX2_layRod 122 = .ok (.ireturn, 1) := by decide +kernel
theorem dX2_layRod_123 : decode cX2_layRod 123 = .ok (.aload_n 3, 1) := by decide +kernel
theorem dX2_layRod_124 : decode cX2_layRod 124 = .ok (.aload_n 0, 1) := by decide +kernel
theorem dX2_layRod_125 : decode cX2_layRod 125 = .ok (.invokevirtual 85, 3) := by decide +kernel
theorem dX2_layRod_128 : decode cX2_layRod 128 = .ok (.putfield 105, 3) := by decide +kernel
theorem dX2_layRod_131 : decode cX2_layRod 131 = .ok (.iconst 1, 1) := by decide +kernel
theorem dX2_layRod_132 : decode cX2_layRod 132 = .ok (.ireturn, 1) := by decide +kernel
theorem dX2_layCloud_0 : decode cX2_layCloud 0 = .ok (.aload_n 0, 1) := by decide +kernel
theorem dX2_layCloud_1 : decode cX2_layCloud 1 = .ok (.aload_n 1, 1) := by decide +kernel
theorem dX2_layCloud_2 : decode cX2_layCloud 2 = .ok (.iconst 0, 1) := by decide +kernel
theorem dX2_layCloud_3 : decode cX2_layCloud 3 = .ok (.invokevirtual 69, 3) := by decide +kernel
theorem dX2_layCloud_6 : decode cX2_layCloud 6 = .ok (.ifCond .ne 5, 3) := by decide +kernel
theorem dX2_layCloud_9 : decode cX2_layCloud 9 = .ok (.iconst 0, 1) := by decide +kernel
theorem dX2_layCloud_10 : decode cX2_layCloud 10 = .ok (.ireturn, 1) := by decide +kernel
theorem dX2_layCloud_11 : decode cX2_layCloud 11 = .ok (.aload_n 0, 1) := by decide +kernel
theorem dX2_layCloud_12 : decode cX2_layCloud 12 = .ok (.ldc 107, 2) := by decide +kernel
theorem dX2_layCloud_14 : decode cX2_layCloud 14 = .ok (.invokevirtual 52, 3) := by decide +kernel
theorem dX2_layCloud_17 : decode cX2_layCloud 17 = .ok (.ifCond .eq 14, 3) := by decide +kernel
theorem dX2_layCloud_20 : decode cX2_layCloud 20 = .ok (.aload_n 0, 1) := by decide +kernel
theorem dX2_layCloud_21 : decode cX2_layCloud 21 = .ok (.aload_n 1, 1) := by decide +kernel
theorem dX2_layCloud_22 : decode cX2_layCloud 22 = .ok (.iconst 1, 1) := by decide +kernel
theorem dX2_layCloud_23 : decode cX2_layCloud 23 = .ok (.invokevirtual 69, 3) := by decide +kernel
theorem dX2_layCloud_26 : decode cX2_layCloud 26 = .ok (.ifCond .ne 5, 3) := by decide +kernel
theorem dX2_layCloud_29 : decode cX2_layCloud 29 = .ok (.iconst 0, 1) := by decide +kernel
theorem dX2_layCloud_30 : decode cX2_layCloud 30 = .ok (.ireturn, 1) := by decide +kernel
theorem dX2_layCloud_31 : decode cX2_layCloud 31 = .ok (.aload_n 0, 1) := by decide +kernel
theorem dX2_layCloud_32 : decode cX2_layCloud 32 = .ok (.ldc 109, 2) := by decide +kernel
theorem dX2_layCloud_34 : decode cX2_layCloud 34 = .ok (.invokevirtual 52, 3) := by decide +kernel
theorem dX2_layCloud_37 : decode cX2_layCloud 37 = .ok (.ifCond .eq 11, 3) := by decide +kernel
theorem dX2_layCloud_40 : decode cX2_layCloud 40 = .ok (.aload_n 1, 1) := by decide +kernel
theorem dX2_layCloud_41 : decode cX2_layCloud 41 = .ok (.iconst (-1), 1) := by decide +kernel
theorem dX2_layCloud_42 : decode cX2_layCloud 42 = .ok (.putfield 111, 3) := by decide +kernel
theorem dX2_layCloud_45 : decode cX2_layCloud 45 = .ok (.goto 34, 3) := by decide +kernel
theorem dX2_layCloud_48 : decode cX2_layCloud 48 = .ok (.aload_n 0, 1) := by decide +kernel
theorem dX2_layCloud_49 : decode cX2_layCloud 49 = .ok (.ldc 114, 2) := by decide +kernel
theorem dX2_layCloud_51 : decode cX2_layCloud 51 = .ok (.invokevirtual 52, 3) := by decide +kernel
theorem dX2_layCloud_54 : decode cX2_layCloud 54 = .ok (.ifCond .eq 11, 3) := by decide +kernel
theorem dX2_layCloud_57 : decode cX2_layCloud 57 = .ok (.aload_n 1, 1) := by decide +kernel
theorem dX2_layCloud_58 : decode cX2_layCloud 58 = .ok (.iconst 1, 1) := by decide +kernel
theorem dX2_layCloud_59 : decode cX2_layCloud 59 = .ok (.putfield 111, 3) := by decide +kernel
theorem dX2_layCloud_62 : decode cX2_layCloud 62 = .ok (.goto 17, 3) := by decide +kernel
theorem dX2_layCloud_65 : decode cX2_layCloud 65 = .ok (.aload_n 0, 1) := by decide +kernel
theorem dX2_layCloud_66 : decode cX2_layCloud 66 = .ok (.ldc 116, 2) := by decide +kernel
theorem dX2_layCloud_68 : decode cX2_layCloud 68 = .ok (.invokevirtual 52, 3) := by decide +kernel
theorem dX2_layCloud_71 : decode cX2_layCloud 71 = .ok (.ifCond .eq 8, 3) := by decide +kernel
theorem dX2_layCloud_74 : decode cX2_layCloud 74 = .ok (.aload_n 1, 1) := by decide +kernel
theorem dX2_layCloud_75 : decode cX2_layCloud 75 = .ok (.iconst 0, 1) := by decide +kernel
theorem dX2_layCloud_76 : decode cX2_layCloud 76 = .ok (.putfield 111, 3) := by decide +kernel
theorem dX2_layCloud_79 : decode cX2_layCloud 79 = .ok (.iconst 1, 1) := by decide +kernel
theorem dX2_layCloud_80 : decode cX2_layCloud 80 = .ok (.ireturn, 1) := by decide +kernel
theorem dX2_takeCloudPart_0 : decode cX2_takeCloudPart 0 = .ok (.aload_n 0, 1) := by decide +kernel
theorem dX2_takeCloudPart_1 : decode cX2_takeCloudPart 1 = .ok (.getfield 18, 3) := by decide +kernel
theorem dX2_takeCloudPart_4 : decode cX2_takeCloudPart 4 = .ok (.iconst 2, 1) := by decide +kernel
theorem dX2_takeCloudPart_5 : decode cX2_takeCloudPart 5 = .ok (.if_icmp .ne 14, 3) := by decide +kernel
theorem dX2_takeCloudPart_8 : decode cX2_takeCloudPart 8 = .ok (.iload_n 2, 1) := by decide +kernel
theorem dX2_takeCloudPart_9 : decode cX2_takeCloudPart 9 = .ok (.aload_n 0, 1) := by decide +kernel
theorem dX2_takeCloudPart_10 : decode cX2_takeCloudPart 10 = .ok (.getfield 28, 3) := by decide +kernel
theorem dX2_takeCloudPart_13 : decode cX2_takeCloudPart 13 = .ok (.invokestatic 118, 3) := by decide +kernel
theorem dX2_takeCloudPart_16 : decode cX2_takeCloudPart 16 = .ok (.ifCond .ne 5, 3) := by decide +kernel
theorem dX2_takeCloudPart_19 : decode cX2_takeCloudPart 19 = .ok (.iconst 0, 1) := by decide +kernel
theorem dX2_takeCloudPart_20 : decode cX2_takeCloudPart 20 = .ok (.ireturn, 1) := by decide +kernel
theorem dX2_takeCloudPart_21 : decode cX2_takeCloudPart 21 = .ok (.aload_n 1, 1) := by decide +kernel
theorem dX2_takeCloudPart_22 : decode cX2_takeCloudPart 22 = .ok (.iload_n 2, 1) := by decide +kernel
theorem dX2_takeCloudPart_23 : decode cX2_takeCloudPart 23 = .ok (.aload_n 0, 1) := by decide +kernel
theorem dX2_takeCloudPart_24 : decode cX2_takeCloudPart 24 = .ok (.getfield 28, 3) := by decide +kernel
theorem dX2_takeCloudPart_27 : decode cX2_takeCloudPart 27 = .ok (.invokevirtual 121, 3) := by decide +kernel
theorem dX2_takeCloudPart_30 : decode cX2_takeCloudPart 30 = .ok (.aload_n 0, 1) := by decide +kernel
theorem dX2_takeCloudPart_31 : decode cX2_takeCloudPart 31 = .ok (.invokevirtual 31, 3) := by decide +kernel
theorem dX2_takeCloudPart_34 : decode cX2_takeCloudPart 34 = .ok (.iconst 1, 1) := by decide +kernel
theorem dX2_takeCloudPart_35 : decode cX2_takeCloudPart 35 = .ok (.ireturn, 1) := by decide +kernel
theorem dX2_kindTold_0 : decode cX2_kindTold 0 = .ok (.aload_n 0, 1) := by decide +kernel
theorem dX2_kindTold_1 : decode cX2_kindTold 1 = .ok (.ldc 125, 2) := by decide +kernel
theorem dX2_kindTold_3 : decode cX2_kindTold 3 = .ok (.invokevirtual 127, 3) := by decide +kernel
theorem dX2_kindTold_6 : decode cX2_kindTold 6 = .ok (.ifCond .eq 5, 3) := by decide +kernel
theorem dX2_kindTold_9 : decode cX2_kindTold 9 = .ok (.iconst 0, 1) := by decide +kernel
theorem dX2_kindTold_10 : decode cX2_kindTold 10 = .ok (.ireturn, 1) := by decide +kernel
theorem dX2_kindTold_11 : decode cX2_kindTold 11 = .ok (.aload_n 0, 1) := by decide +kernel
theorem dX2_kindTold_12 : decode cX2_kindTold 12 = .ok (.ldc 130, 2) := by decide +kernel
theorem dX2_kindTold_14 : decode cX2_kindTold 14 = .ok (.invokevirtual 127, 3) := by decide +kernel
theorem dX2_kindTold_17 : decode cX2_kindTold 17 = .ok (.ifCond .eq 5, 3) := by decide +kernel
theorem dX2_kindTold_20 : decode cX2_kindTold 20 = .ok (.iconst 1, 1) := by decide +kernel
theorem dX2_kindTold_21 : decode cX2_kindTold 21 = .ok (.ireturn, 1) := by decide +kernel
theorem dX2_kindTold_22 : decode cX2_kindTold 22 = .ok (.aload_n 0, 1) := by decide +kernel
theorem dX2_kindTold_23 : decode cX2_kindTold 23 = .ok (.ldc 132, 2) := by decide +kernel
theorem dX2_kindTold_25 : decode cX2_kindTold 25 = .ok (.invokevirtual 127, 3) := by decide +kernel
theorem dX2_kindTold_28 : decode cX2_kindTold 28 = .ok (.ifCond .eq 5, 3) := by decide +kernel
theorem dX2_kindTold_31 : decode cX2_kindTold 31 = .ok (.iconst 2, 1) := by decide +kernel
theorem dX2_kindTold_32 : decode cX2_kindTold 32 = .ok (.ireturn, 1) := by decide +kernel
theorem dX2_kindTold_33 : decode cX2_kindTold 33 = .ok (.aload_n 0, 1) := by decide +kernel
theorem dX2_kindTold_34 : decode cX2_kindTold 34 = .ok (.ldc 134, 2) := by decide +kernel
theorem dX2_kindTold_36 : decode cX2_kindTold 36 = .ok (.invokevirtual 127, 3) := by decide +kernel
theorem dX2_kindTold_39 : decode cX2_kindTold 39 = .ok (.ifCond .eq 5, 3) := by decide +kernel
theorem dX2_kindTold_42 : decode cX2_kindTold 42 = .ok (.iconst 3, 1) := by decide +kernel
theorem dX2_kindTold_43 : decode cX2_kindTold 43 = .ok (.ireturn, 1) := by decide +kernel
theorem dX2_kindTold_44 : decode cX2_kindTold 44 = .ok (.aload_n 0, 1) := by decide +kernel
theorem dX2_kindTold_45 : decode cX2_kindTold 45 = .ok (.ldc 136, 2) := by decide +kernel
theorem dX2_kindTold_47 : decode cX2_kindTold 47 = .ok (.invokevirtual 127, 3) := by decide +kernel
theorem dX2_kindTold_50 : decode cX2_kindTold 50 = .ok (.ifCond .eq 5, 3) := by decide +kernel
theorem dX2_kindTold_53 : decode cX2_kindTold 53 = .ok (.iconst 4, 1) := by decide +kernel
theorem dX2_kindTold_54 : decode cX2_kindTold 54 = .ok (.ireturn, 1) := by decide +kernel
theorem dX2_kindTold_55 : decode cX2_kindTold 55 = .ok (.aload_n 0, 1) := by decide +kernel
theorem dX2_kindTold_56 : decode cX2_kindTold 56 = .ok (.ldc 138, 2) := by decide +kernel
theorem dX2_kindTold_58 : decode cX2_kindTold 58 = .ok (.invokevirtual 127, 3) := by decide +kernel
theorem dX2_kindTold_61 : decode cX2_kindTold 61 = .ok (.ifCond .eq 7, 3) := by decide +kernel
theorem dX2_kindTold_64 : decode cX2_kindTold 64 = .ok (.iconst 5, 1) := by decide +kernel
theorem dX2_kindTold_65 : decode cX2_kindTold 65 = .ok (.goto 4, 3) := by decide +kernel
theorem dX2_kindTold_68 : decode cX2_kindTold 68 = .ok (.iconst (-1), 1) := by decide +kernel
theorem dX2_kindTold_69 : decode cX2_kindTold 69 = .ok (.ireturn, 1) := by decide +kernel
theorem dX2_isWord_0 : decode cX2_isWord 0 = .ok (.aload_n 0, 1) := by decide +kernel
theorem dX2_isWord_1 : decode cX2_isWord 1 = .ok (.getfield 18, 3) := by decide +kernel
theorem dX2_isWord_4 : decode cX2_isWord 4 = .ok (.iconst 1, 1) := by decide +kernel
theorem dX2_isWord_5 : decode cX2_isWord 5 = .ok (.if_icmp .ne 19, 3) := by decide +kernel
theorem dX2_isWord_8 : decode cX2_isWord 8 = .ok (.aload_n 1, 1) := by decide +kernel
theorem dX2_isWord_9 : decode cX2_isWord 9 = .ok (.invokevirtual 140, 3) := by decide +kernel
theorem dX2_isWord_12 : decode cX2_isWord 12 = .ok (.aload_n 0, 1) := by decide +kernel
theorem dX2_isWord_13 : decode cX2_isWord 13 = .ok (.getfield 25, 3) := by decide +kernel
theorem dX2_isWord_16 : decode cX2_isWord 16 = .ok (.aload_n 0, 1) := by decide +kernel
theorem dX2_isWord_17 : decode cX2_isWord 17 = .ok (.getfield 22, 3) := by decide +kernel
theorem dX2_isWord_20 : decode cX2_isWord 20 = .ok (.isub, 1) := by decide +kernel
theorem dX2_isWord_21 : decode cX2_isWord 21 = .ok (.if_icmp .eq 5, 3) := by decide +kernel
theorem dX2_isWord_24 : decode cX2_isWord 24 = .ok (.iconst 0, 1) := by decide +kernel
theorem dX2_isWord_25 : decode cX2_isWord 25 = .ok (.ireturn, 1) := by decide +kernel
theorem dX2_isWord_26 : decode cX2_isWord 26 = .ok (.iconst 0, 1) := by decide +kernel
theorem dX2_isWord_27 : decode cX2_isWord 27 = .ok (.istore_n 2, 1) := by decide +kernel
theorem dX2_isWord_28 : decode cX2_isWord 28 = .ok (.iload_n 2, 1) := by decide +kernel
theorem dX2_isWord_29 : decode cX2_isWord 29 = .ok (.aload_n 1, 1) := by decide +kernel
theorem dX2_isWord_30 : decode cX2_isWord 30 = .ok (.invokevirtual 140, 3) := by decide +kernel
theorem dX2_isWord_33 : decode cX2_isWord 33 = .ok (.if_icmp .ge 33, 3) := by decide +kernel
theorem dX2_isWord_36 : decode cX2_isWord 36 = .ok (.aload_n 0, 1) := by decide +kernel
theorem dX2_isWord_37 : decode cX2_isWord 37 = .ok (.getfield 12, 3) := by decide +kernel
theorem dX2_isWord_40 : decode cX2_isWord 40 = .ok (.getfield 145, 3) := by decide +kernel
theorem dX2_isWord_43 : decode cX2_isWord 43 = .ok (.aload_n 0, 1) := by decide +kernel
theorem dX2_isWord_44 : decode cX2_isWord 44 = .ok (.getfield 22, 3) := by decide +kernel
theorem dX2_isWord_47 : decode cX2_isWord 47 = .ok (.iload_n 2, 1) := by decide +kernel
theorem dX2_isWord_48 : decode cX2_isWord 48 = .ok (.iadd, 1) := by decide +kernel
theorem dX2_isWord_49 : decode cX2_isWord 49 = .ok (.iaload, 1) := by decide +kernel
theorem dX2_isWord_50 : decode cX2_isWord 50 = .ok (.aload_n 1, 1) := by decide +kernel
theorem dX2_isWord_51 : decode cX2_isWord 51 = .ok (.iload_n 2, 1) := by decide +kernel
theorem dX2_isWord_52 : decode cX2_isWord 52 = .ok (.invokevirtual 149, 3) := by decide +kernel
theorem dX2_isWord_55 : decode cX2_isWord 55 = .ok (.if_icmp .eq 5, 3) := by decide +kernel
theorem dX2_isWord_58 : decode cX2_isWord 58 = .ok (.iconst 0, 1) := by decide +kernel
theorem dX2_isWord_59 : decode cX2_isWord 59 = .ok (.ireturn, 1) := by decide +kernel
theorem dX2_isWord_60 : decode cX2_isWord 60 = .ok (.iinc 2 1, 3) := by decide +kernel
theorem dX2_isWord_63 : decode cX2_isWord 63 = .ok (.goto (-35), 3) := by decide +kernel
theorem dX2_isWord_66 : decode cX2_isWord 66 = .ok (.iconst 1, 1) := by decide +kernel
theorem dX2_isWord_67 : decode cX2_isWord 67 = .ok (.ireturn, 1) := by decide +kernel
theorem dX2_takeWord_0 : decode cX2_takeWord 0 = .ok (.aload_n 0, 1) := by decide +kernel
theorem dX2_takeWord_1 : decode cX2_takeWord 1 = .ok (.aload_n 1, 1) := by decide +kernel
theorem dX2_takeWord_2 : decode cX2_takeWord 2 = .ok (.invokevirtual 127, 3) := by decide +kernel
theorem dX2_takeWord_5 : decode cX2_takeWord 5 = .ok (.istore_n 2, 1) := by decide +kernel
theorem dX2_takeWord_6 : decode cX2_takeWord 6 = .ok (.iload_n 2, 1) := by decide +kernel
theorem dX2_takeWord_7 : decode cX2_takeWord 7 = .ok (.ifCond .eq 7, 3) := by decide +kernel
theorem dX2_takeWord_10 : decode cX2_takeWord 10 = .ok (.aload_n 0, 1) := by decide +kernel
theorem dX2_takeWord_11 : decode cX2_takeWord 11 = .ok (.invokevirtual 31, 3) := by decide +kernel
theorem dX2_takeWord_14 : decode cX2_takeWord 14 = .ok (.iload_n 2, 1) := by decide +kernel
theorem dX2_takeWord_15 : decode cX2_takeWord 15 = .ok (.ireturn, 1) := by decide +kernel
theorem dX2_isNumber_0 : decode cX2_isNumber 0 = .ok (.aload_n 0, 1) := by decide +kernel
theorem dX2_isNumber_1 : decode cX2_isNumber 1 = .ok (.getfield 18, 3) := by decide +kernel
theorem dX2_isNumber_4 : decode cX2_isNumber 4 = .ok (.iconst 2, 1) := by decide +kernel
theorem dX2_isNumber_5 : decode cX2_isNumber 5 = .ok (.if_icmp .ne 19, 3) := by decide +kernel
theorem dX2_isNumber_8 : decode cX2_isNumber 8 = .ok (.aload_n 0, 1) := by decide +kernel
theorem dX2_isNumber_9 : decode cX2_isNumber 9 = .ok (.getfield 28, 3) := by decide +kernel
theorem dX2_isNumber_12 : decode cX2_isNumber 12 = .ok (.iload_n 1, 1) := by decide +kernel
theorem dX2_isNumber_13 : decode cX2_isNumber 13 = .ok (.iload_n 2, 1) := by decide +kernel
theorem dX2_isNumber_14 : decode cX2_isNumber 14 = .ok (.invokestatic 153, 3) := by decide +kernel
theorem dX2_isNumber_17 : decode cX2_isNumber 17 = .ok (.ifCond .eq 7, 3) := by decide +kernel
theorem dX2_isNumber_20 : decode cX2_isNumber 20 = .ok (.iconst 1, 1) := by decide +kernel
theorem dX2_isNumber_21 : decode cX2_isNumber 21 = .ok (.goto 4, 3) := by decide +kernel
theorem dX2_isNumber_24 : decode cX2_isNumber 24 = .ok (.iconst 0, 1) := by decide +kernel
theorem dX2_isNumber_25 : decode cX2_isNumber 25 = .ok (.ireturn, 1) := by decide +kernel
theorem dX2_takeNumber_0 : decode cX2_takeNumber 0 = .ok (.aload_n 0, 1) := by decide +kernel
theorem dX2_takeNumber_1 : decode cX2_takeNumber 1 = .ok (.getfield 28, 3) := by decide +kernel
theorem dX2_takeNumber_4 : decode cX2_takeNumber 4 = .ok (.istore_n 1, 1) := by decide +kernel
theorem dX2_takeNumber_5 : decode cX2_takeNumber 5 = .ok (.aload_n 0, 1) := by decide +kernel
theorem dX2_takeNumber_6 : decode cX2_takeNumber 6 = .ok (.invokevirtual 31, 3) := by decide +kernel
theorem dX2_takeNumber_9 : decode cX2_takeNumber 9 = .ok (.iload_n 1, 1) := by decide +kernel
theorem dX2_takeNumber_10 : decode cX2_takeNumber 10 = .ok (.ireturn, 1) := by decide +kernel
theorem dX2_goToToken_0 : decode cX2_goToToken 0 = .ok (.aload_n 0, 1) := by decide +kernel
theorem dX2_goToToken_1 : decode cX2_goToToken 1 = .ok (.aload_n 0, 1) := by decide +kernel
theorem dX2_goToToken_2 : decode cX2_goToToken 2 = .ok (.getfield 25, 3) := by decide +kernel
theorem dX2_goToToken_5 : decode cX2_goToToken 5 = .ok (.putfield 22, 3) := by decide +kernel
theorem dX2_goToToken_8 : decode cX2_goToToken 8 = .ok (.aload_n 0, 1) := by decide +kernel
theorem dX2_goToToken_9 : decode cX2_goToToken 9 = .ok (.getfield 22, 3) := by decide +kernel
theorem dX2_goToToken_12 : decode cX2_goToToken 12 = .ok (.aload_n 0, 1) := by decide +kernel
theorem dX2_goToToken_13 : decode cX2_goToToken 13 = .ok (.getfield 12, 3) := by decide +kernel
theorem dX2_goToToken_16 : decode cX2_goToToken 16 = .ok (.getfield 157, 3) := by decide +kernel
theorem dX2_goToToken_19 : decode cX2_goToToken 19 = .ok (.if_icmp .ge 33, 3) := by decide +kernel
theorem dX2_goToToken_22 : decode cX2_goToToken 22 = .ok (.aload_n 0, 1) := by decide +kernel
theorem dX2_goToToken_23 : decode cX2_goToToken 23 = .ok (.getfield 12, 3) := by decide +kernel
theorem dX2_goToToken_26 : decode cX2_goToToken 26 = .ok (.getfield 145, 3) := by decide +kernel
theorem dX2_goToToken_29 : decode cX2_goToToken 29 = .ok (.aload_n 0, 1) := by decide +kernel
theorem dX2_goToToken_30 : decode cX2_goToToken 30 = .ok (.getfield 22, 3) := by decide +kernel
theorem dX2_goToToken_33 : decode cX2_goToToken 33 = .ok (.iaload, 1) := by decide +kernel
theorem dX2_goToToken_34 : decode cX2_goToToken 34 = .ok (.bipush 32, 2) := by decide +kernel
theorem dX2_goToToken_36 : decode cX2_goToToken 36 = .ok (.if_icmp .ne 16, 3) := by decide +kernel
theorem dX2_goToToken_39 : decode cX2_goToToken 39 = .ok (.aload_n 0, 1) := by decide +kernel
theorem dX2_goToToken_40 : decode cX2_goToToken 40 = .ok (.dup, 1) := by decide +kernel
theorem dX2_goToToken_41 : decode cX2_goToToken 41 = .ok (.getfield 22, 3) := by decide +kernel
theorem dX2_goToToken_44 : decode cX2_goToToken 44 = .ok (.iconst 1, 1) := by decide +kernel
theorem dX2_goToToken_45 : decode cX2_goToToken 45 = .ok (.iadd, 1) := by decide +kernel
theorem dX2_goToToken_46 : decode cX2_goToToken 46 = .ok (.putfield 22, 3) := by decide +kernel
theorem dX2_goToToken_49 : decode cX2_goToToken 49 = .ok (.goto (-41), 3) := by decide +kernel
theorem dX2_goToToken_52 : decode cX2_goToToken 52 = .ok (.aload_n 0, 1) := by decide +kernel
theorem dX2_goToToken_53 : decode cX2_goToToken 53 = .ok (.aload_n 0, 1) := by decide +kernel
theorem dX2_goToToken_54 : decode cX2_goToToken 54 = .ok (.getfield 22, 3) := by decide +kernel
theorem dX2_goToToken_57 : decode cX2_goToToken 57 = .ok (.putfield 25, 3) := by decide +kernel
theorem dX2_goToToken_60 : decode cX2_goToToken 60 = .ok (.aload_n 0, 1) := by decide +kernel
theorem dX2_goToToken_61 : decode cX2_goToToken 61 = .ok (.getfield 22, 3) := by decide +kernel
theorem dX2_goToToken_64 : decode cX2_goToToken 64 = .ok (.aload_n 0, 1) := by decide +kernel
theorem dX2_goToToken_65 : decode cX2_goToToken 65 = .ok (.getfield 12, 3) := by decide +kernel
theorem dX2_goToToken_68 : decode cX2_goToToken 68 = .ok (.getfield 157, 3) := by decide +kernel
theorem dX2_goToToken_71 : decode cX2_goToToken 71 = .ok (.if_icmp .lt 9, 3) := by decide +kernel
theorem dX2_goToToken_74 : decode cX2_goToToken 74 = .ok (.aload_n 0, 1) := by decide +kernel
theorem dX2_goToToken_75 : decode cX2_goToToken 75 = .ok (.iconst 0, 1) := by decide +kernel
theorem dX2_goToToken_76 : decode cX2_goToToken 76 = .ok (.putfield 18, 3) := by decide +kernel
theorem dX2_goToToken_79 : decode cX2_goToToken 79 = .ok (.return_, 1) := by decide +kernel
theorem dX2_goToToken_80 : decode cX2_goToToken 80 = .ok (.aload_n 0, 1) := by decide +kernel
theorem dX2_goToToken_81 : decode cX2_goToToken 81 = .ok (.aload_n 0, 1) := by decide +kernel
theorem dX2_goToToken_82 : decode cX2_goToToken 82 = .ok (.getfield 12, 3) := by decide +kernel
theorem dX2_goToToken_85 : decode cX2_goToToken 85 = .ok (.getfield 145, 3) := by decide +kernel
theorem dX2_goToToken_88 : decode cX2_goToToken 88 = .ok (.aload_n 0, 1) := by decide +kernel
theorem dX2_goToToken_89 : decode cX2_goToToken 89 = .ok (.getfield 22, 3) := by decide +kernel
theorem dX2_goToToken_92 : decode cX2_goToToken 92 = .ok (.iaload, 1) := by decide +kernel
theorem dX2_goToToken_93 : decode cX2_goToToken 93 = .ok (.invokestatic 160, 3) := by decide +kernel
theorem dX2_goToToken_96 : decode cX2_goToToken 96 = .ok (.putfield 18, 3) := by decide +kernel
theorem dX2_goToToken_99 : decode cX2_goToToken 99 = .ok (.aload_n 0, 1) := by decide +kernel
theorem dX2_goToToken_100 : decode cX2_goToToken 100 = .ok (.dup, 1) := by decide +kernel
theorem dX2_goToToken_101 : decode cX2_goToToken 101 = .ok (.getfield 25, 3) := by decide +kernel
theorem dX2_goToToken_104 : decode cX2_goToToken 104 = .ok (.iconst 1, 1) := by decide +kernel
theorem dX2_goToToken_105 : decode cX2_goToToken 105 = .ok (.iadd, 1) := by decide +kernel
theorem dX2_goToToken_106 : decode cX2_goToToken 106 = .ok (.putfield 25, 3) := by decide +kernel
theorem dX2_goToToken_109 : decode cX2_goToToken 109 = .ok (.aload_n 0, 1) := by decide +kernel
theorem dX2_goToToken_110 : decode cX2_goToToken 110 = .ok (.getfield 18, 3) := by decide +kernel
theorem dX2_goToToken_113 : decode cX2_goToToken 113 = .ok (.iconst 1, 1) := by decide +kernel
theorem dX2_goToToken_114 : decode cX2_goToToken 114 = .ok (.if_icmp .eq 11, 3) := by decide +kernel
theorem dX2_goToToken_117 : decode cX2_goToToken 117 = .ok (.aload_n 0, 1) := by decide +kernel
theorem dX2_goToToken_118 : decode cX2_goToToken 118 = .ok (.getfield 18, 3) := by decide +kernel
theorem dX2_goToToken_121 : decode cX2_goToToken 121 = .ok (.iconst 2, 1) := by decide +kernel
theorem dX2_goToToken_122 : decode cX2_goToToken 122 = .ok (.if_icmp .ne 7, 3) := by decide +kernel
theorem dX2_goToToken_125 : decode cX2_goToToken 125 = .ok (.iconst 1, 1) := by decide +kernel
theorem dX2_goToToken_126 : decode cX2_goToToken 126 = .ok (.goto 4, 3) := by decide +kernel
theorem dX2_goToToken_129 : decode cX2_goToToken 129 = .ok (.iconst 0, 1) := by decide +kernel
theorem dX2_goToToken_130 : decode cX2_goToToken 130 = .ok (.istore_n 1, 1) := by decide +kernel
theorem dX2_goToToken_131 : decode cX2_goToToken 131 = .ok (.iload_n 1, 1) := by decide +kernel
theorem dX2_goToToken_132 : decode cX2_goToToken 132 = .ok (.ifCond .eq 52, 3) := by decide +kernel
theorem dX2_goToToken_135 : decode cX2_goToToken 135 = .ok (.aload_n 0, 1) := by decide +kernel
theorem dX2_goToToken_136 : decode cX2_goToToken 136 = .ok (.getfield 25, 3) := by decide +kernel
theorem dX2_goToToken_139 : decode cX2_goToToken 139 = .ok (.aload_n 0, 1) := by decide +kernel
theorem dX2_goToToken_140 : decode cX2_goToToken 140 = .ok (.getfield 12, 3) := by decide +kernel
theorem dX2_goToToken_143 : decode cX2_goToToken 143 = .ok (.getfield 157, 3) := by decide +kernel
theorem dX2_goToToken_146 : decode cX2_goToToken 146 = .ok (.if_icmp .ge 38, 3) := by decide +kernel
theorem dX2_goToToken_149 : decode cX2_goToToken 149 = .ok (.aload_n 0, 1) := by decide +kernel
theorem dX2_goToToken_150 : decode cX2_goToToken 150 = .ok (.getfield 12, 3) := by decide +kernel
theorem dX2_goToToken_153 : decode cX2_goToToken 153 = .ok (.getfield 145, 3) := by decide +kernel
theorem dX2_goToToken_156 : decode cX2_goToToken 156 = .ok (.aload_n 0, 1) := by decide +kernel
theorem dX2_goToToken_157 : decode cX2_goToToken 157 = .ok (.getfield 25, 3) := by decide +kernel
theorem dX2_goToToken_160 : decode cX2_goToToken 160 = .ok (.iaload, 1) := by decide +kernel
theorem dX2_goToToken_161 : decode cX2_goToToken 161 = .ok (.invokestatic 160, 3) := by decide +kernel
theorem dX2_goToToken_164 : decode cX2_goToToken 164 = .ok (.aload_n 0, 1) := by decide +kernel
theorem dX2_goToToken_165 : decode cX2_goToToken 165 = .ok (.getfield 18, 3) := by decide +kernel
theorem dX2_goToToken_168 : decode cX2_goToToken 168 = .ok (.if_icmp .ne 16, 3) := by decide +kernel
theorem dX2_goToToken_171 : decode cX2_goToToken 171 = .ok (.aload_n 0, 1) := by decide +kernel
theorem dX2_goToToken_172 : decode cX2_goToToken 172 = .ok (.dup, 1) := by decide +kernel
theorem dX2_goToToken_173 : decode cX2_goToToken 173 = .ok (.getfield 25, 3) := by decide +kernel
theorem dX2_goToToken_176 : decode cX2_goToToken 176 = .ok (.iconst 1, 1) := by decide +kernel
theorem dX2_goToToken_177 : decode cX2_goToToken 177 = .ok (.iadd, 1) := by decide +kernel
theorem dX2_goToToken_178 : decode cX2_goToToken 178 = .ok (.putfield 25, 3) := by decide +kernel
theorem dX2_goToToken_181 : decode cX2_goToToken 181 = .ok (.goto (-50), 3) := by decide +kernel
theorem dX2_goToToken_184 : decode cX2_goToToken 184 = .ok (.aload_n 0, 1) := by decide +kernel
theorem dX2_goToToken_185 : decode cX2_goToToken 185 = .ok (.aload_n 0, 1) := by decide +kernel
theorem dX2_goToToken_186 : decode cX2_goToToken 186 = .ok (.getfield 18, 3) := by decide +kernel
theorem dX2_goToToken_189 : decode cX2_goToToken 189 = .ok (.iconst 2, 1) := by decide +kernel
theorem dX2_goToToken_190 : decode cX2_goToToken 190 = .ok (.if_icmp .ne 10, 3) := by decide +kernel
theorem dX2_goToToken_193 : decode cX2_goToToken 193 = .ok (.aload_n 0, 1) := by decide +kernel
theorem dX2_goToToken_194 : decode cX2_goToToken 194 = .ok (.invokevirtual 164, 3) := by decide +kernel
theorem dX2_goToToken_197 : decode cX2_goToToken 197 = .ok (.goto 4, 3) := by decide +kernel
theorem dX2_goToToken_200 : decode cX2_goToToken 200 = .ok (.iconst 0, 1) := by decide +kernel
theorem dX2_goToToken_201 : decode cX2_goToToken 201 = .ok (.putfield 28, 3) := by decide +kernel
theorem dX2_goToToken_204 : decode cX2_goToToken 204 = .ok (.return_, 1) := by decide +kernel
theorem dX2_sortOf_0 : decode cX2_sortOf 0 = .ok (.iload_n 0, 1) := by decide +kernel
theorem dX2_sortOf_1 : decode cX2_sortOf 1 = .ok (.bipush 97, 2) := by decide +kernel
theorem dX2_sortOf_3 : decode cX2_sortOf 3 = .ok (.if_icmp .lt 11, 3) := by decide +kernel
theorem dX2_sortOf_6 : decode cX2_sortOf 6 = .ok (.iload_n 0, 1) := by decide +kernel
theorem dX2_sortOf_7 : decode cX2_sortOf 7 = .ok (.bipush 122, 2) := by decide +kernel
theorem dX2_sortOf_9 : decode cX2_sortOf 9 = .ok (.if_icmp .gt 5, 3) := by decide +kernel
theorem dX2_sortOf_12 : decode cX2_sortOf 12 = .ok (.iconst 1, 1) := by decide +kernel
theorem dX2_sortOf_13 : decode cX2_sortOf 13 = .ok (.ireturn, 1) := by decide +kernel
theorem dX2_sortOf_14 : decode cX2_sortOf 14 = .ok (.iload_n 0, 1) := by decide +kernel
theorem dX2_sortOf_15 : decode cX2_sortOf 15 = .ok (.bipush 48, 2) := by decide +kernel
theorem dX2_sortOf_17 : decode cX2_sortOf 17 = .ok (.if_icmp .lt 11, 3) := by decide +kernel
theorem dX2_sortOf_20 : decode cX2_sortOf 20 = .ok (.iload_n 0, 1) := by decide +kernel
theorem dX2_sortOf_21 : decode cX2_sortOf 21 = .ok (.bipush 57, 2) := by decide +kernel
theorem dX2_sortOf_23 : decode cX2_sortOf 23 = .ok (.if_icmp .gt 5, 3) := by decide +kernel
theorem dX2_sortOf_26 : decode cX2_sortOf 26 = .ok (.iconst 2, 1) := by decide +kernel
theorem dX2_sortOf_27 : decode cX2_sortOf 27 = .ok (.ireturn, 1) := by decide +kernel
theorem dX2_sortOf_28 : decode cX2_sortOf 28 = .ok (.iload_n 0, 1) := by decide +kernel
theorem dX2_sortOf_29 : decode cX2_sortOf 29 = .ok (.bipush 59, 2) := by decide +kernel
theorem dX2_sortOf_31 : decode cX2_sortOf 31 = .ok (.if_icmp .ne 7, 3) := by decide +kernel
theorem dX2_sortOf_34 : decode cX2_sortOf 34 = .ok (.iconst 3, 1) := by decide +kernel
theorem dX2_sortOf_35 : decode cX2_sortOf 35 = .ok (.goto 4, 3) := by decide +kernel
theorem dX2_sortOf_38 : decode cX2_sortOf 38 = .ok (.iconst 4, 1) := by decide +kernel
theorem dX2_sortOf_39 : decode cX2_sortOf 39 = .ok (.ireturn, 1) := by decide +kernel
theorem dX2_numberTold_0 : decode cX2_numberTold 0 = .ok (.iconst 0, 1) := by decide +kernel
theorem dX2_numberTold_1 : decode cX2_numberTold 1 = .ok (.istore_n 1, 1) := by decide +kernel
theorem dX2_numberTold_2 : decode cX2_numberTold 2 = .ok (.aload_n 0, 1) := by decide +kernel
theorem dX2_numberTold_3 : decode cX2_numberTold 3 = .ok (.getfield 22, 3) := by decide +kernel
theorem dX2_numberTold_6 : decode cX2_numberTold 6 = .ok (.istore_n 2, 1) := by decide +kernel
theorem dX2_numberTold_7 : decode cX2_numberTold 7 = .ok (.iload_n 2, 1) := by decide +kernel
theorem dX2_numberTold_8 : decode cX2_numberTold 8 = .ok (.aload_n 0, 1) := by decide +kernel
theorem dX2_numberTold_9 : decode cX2_numberTold 9 = .ok (.getfield 25, 3) := by decide +kernel
theorem dX2_numberTold_12 : decode cX2_numberTold 12 = .ok (.if_icmp .ge 40, 3) := by decide +kernel
theorem dX2_numberTold_15 : decode cX2_numberTold 15 = .ok (.iload_n 1, 1) := by decide +kernel
theorem dX2_numberTold_16 : decode cX2_numberTold 16 = .ok (.sipush 1000, 3) := by decide +kernel
theorem dX2_numberTold_19 : decode cX2_numberTold 19 = .ok (.if_icmp .lt 9, 3) := by decide +kernel
theorem dX2_numberTold_22 : decode cX2_numberTold 22 = .ok (.sipush 1000, 3) := by decide +kernel
theorem dX2_numberTold_25 : decode cX2_numberTold 25 = .ok (.goto 20, 3) := by decide +kernel
theorem dX2_numberTold_28 : decode cX2_numberTold 28 = .ok (.iload_n 1, 1) := by decide +kernel
theorem dX2_numberTold_29 : decode cX2_numberTold 29 = .ok (.bipush 10, 2) := by decide +kernel
theorem dX2_numberTold_31 : decode cX2_numberTold 31 = .ok (.imul, 1) := by decide +kernel
theorem dX2_numberTold_32 : decode cX2_numberTold 32 = .ok (.aload_n 0, 1) := by decide +kernel
theorem dX2_numberTold_33 : decode cX2_numberTold 33 = .ok (.getfield 12, 3) := by decide +kernel
theorem dX2_numberTold_36 : decode cX2_numberTold 36 = .ok (.getfield 145, 3) := by decide +kernel
theorem dX2_numberTold_39 : decode cX2_numberTold 39 = .ok (.iload_n 2, 1) := by decide +kernel
theorem dX2_numberTold_40 : decode cX2_numberTold 40 = .ok (.iaload, 1) := by decide +kernel
theorem dX2_numberTold_41 : decode cX2_numberTold 41 = .ok (.iadd, 1) := by decide +kernel
theorem dX2_numberTold_42 : decode cX2_numberTold 42 = .ok (.bipush 48, 2) := by decide +kernel
theorem dX2_numberTold_44 : decode cX2_numberTold 44 = .ok (.isub, 1) := by decide +kernel
theorem dX2_numberTold_45 : decode cX2_numberTold 45 = .ok (.istore_n 1, 1) := by decide +kernel
theorem dX2_numberTold_46 : decode cX2_numberTold 46 = .ok (.iinc 2 1, 3) := by decide +kernel
theorem dX2_numberTold_49 : decode cX2_numberTold 49 = .ok (.goto (-42), 3) := by decide +kernel
theorem dX2_numberTold_52 : decode cX2_numberTold 52 = .ok (.iload_n 1, 1) := by decide +kernel
theorem dX2_numberTold_53 : decode cX2_numberTold 53 = .ok (.ireturn, 1) := by decide +kernel
theorem dX4_init_0 : decode cX4_init 0 = .ok (.aload_n 0, 1) := by decide +kernel
theorem dX4_init_1 : decode cX4_init 1 = .ok (.invokespecial 3, 3) := by decide +kernel
theorem dX4_init_4 : decode cX4_init 4 = .ok (.aload_n 0, 1) := by decide +kernel
theorem dX4_init_5 : decode cX4_init 5 = .ok (.bipush 40, 2) := by decide +kernel
theorem dX4_init_7 : decode cX4_init 7 = .ok (.newarray .long, 2) := by decide +kernel
theorem dX4_init_9 : decode cX4_init 9 = .ok (.putfield 9, 3) := by decide +kernel
theorem dX4_init_12 : decode cX4_init 12 = .ok (.aload_n 0, 1) := by decide +kernel
theorem dX4_init_13 : decode cX4_init 13 = .ok (.iconst 0, 1) := by decide +kernel
theorem dX4_init_14 : decode cX4_init 14 = .ok (.putfield 15, 3) := by decide +kernel
theorem dX4_init_17 : decode cX4_init 17 = .ok (.aload_n 0, 1) := by decide +kernel
theorem dX4_init_18 : decode cX4_init 18 = .ok (.iconst 0, 1) := by decide +kernel
theorem dX4_init_19 : decode cX4_init 19 = .ok (.putfield 19, 3) := by decide +kernel
theorem dX4_init_22 : decode cX4_init 22 = .ok (.return_, 1) := by decide +kernel
theorem dX4_mayHave_0 : decode cX4_mayHave 0 = .ok (.iload_n 0, 1) := by decide +kernel
theorem dX4_mayHave_1 : decode cX4_mayHave 1 = .ok (.ifCond .eq 21, 3) := by decide +kernel
theorem dX4_mayHave_4 : decode cX4_mayHave 4 = .ok (.iload_n 0, 1) := by decide +kernel
theorem dX4_mayHave_5 : decode cX4_mayHave 5 = .ok (.bipush 8, 2) := by decide +kernel
theorem dX4_mayHave_7 : decode cX4_mayHave 7 = .ok (.if_icmp .eq 15, 3) := by decide +kernel
theorem dX4_mayHave_10 : decode cX4_mayHave 10 = .ok (.iload_n 0, 1) := by decide +kernel
theorem dX4_mayHave_11 : decode cX4_mayHave 11 = .ok (.bipush 16, 2) := by decide +kernel
theorem dX4_mayHave_13 : decode cX4_mayHave 13 = .ok (.if_icmp .eq 9, 3) := by decide +kernel
theorem dX4_mayHave_16 : decode cX4_mayHave 16 = .ok (.iload_n 0, 1) := by decide +kernel
theorem dX4_mayHave_17 : decode cX4_mayHave 17 = .ok (.bipush 64, 2) := by decide +kernel
theorem dX4_mayHave_19 : decode cX4_mayHave 19 = .ok (.if_icmp .ne 7, 3) := by decide +kernel
theorem dX4_mayHave_22 : decode cX4_mayHave 22 = .ok (.iconst 1, 1) := by decide +kernel
theorem dX4_mayHave_23 : decode cX4_mayHave 23 = .ok (.goto 4, 3) := by decide +kernel
theorem dX4_mayHave_26 : decode cX4_mayHave 26 = .ok (.iconst 0, 1) := by decide +kernel
theorem dX4_mayHave_27 : decode cX4_mayHave 27 = .ok (.ireturn, 1) := by decide +kernel
theorem dX4_layNew_0 : decode cX4_layNew 0 = .ok (.aload_n 0, 1) := by decide +kernel
theorem dX4_layNew_1 : decode cX4_layNew 1 = .ok (.iload_n 1, 1) := by decide +kernel
theorem dX4_layNew_2 : decode cX4_layNew 2 = .ok (.putfield 15, 3) := by decide +kernel
theorem dX4_layNew_5 : decode cX4_layNew 5 = .ok (.aload_n 0, 1) := by decide +kernel
theorem dX4_layNew_6 : decode cX4_layNew 6 = .ok (.iload_n 1, 1) := by decide +kernel
theorem dX4_layNew_7 : decode cX4_layNew 7 = .ok (.ifCond .ne 7, 3) := by decide +kernel
theorem dX4_layNew_10 : decode cX4_layNew 10 = .ok (.iconst 0, 1) := by decide +kernel
theorem dX4_layNew_11 : decode cX4_layNew 11 = .ok (.goto 4, 3) := by decide +kernel
theorem dX4_layNew_14 : decode cX4_layNew 14 = .ok (.iload_n 2, 1) := by decide +kernel
theorem dX4_layNew_15 : decode cX4_layNew 15 = .ok (.putfield 19, 3) := by decide +kernel
theorem dX4_layNew_18 : decode cX4_layNew 18 = .ok (.iconst 0, 1) := by decide +kernel
theorem dX4_layNew_19 : decode cX4_layNew 19 = .ok (.istore_n 3, 1) := by decide +kernel
theorem dX4_layNew_20 : decode cX4_layNew 20 = .ok (.iload_n 3, 1) := by decide +kernel
theorem dX4_layNew_21 : decode cX4_layNew 21 = .ok (.aload_n 0, 1) := by decide +kernel
theorem dX4_layNew_22 : decode cX4_layNew 22 = .ok (.getfield 19, 3) := by decide +kernel
theorem dX4_layNew_25 : decode cX4_layNew 25 = .ok (.if_icmp .ge 16, 3) := by decide +kernel
theorem dX4_layNew_28 : decode cX4_layNew 28 = .ok (.aload_n 0, 1) := by decide +kernel
theorem dX4_layNew_29 : decode cX4_layNew 29 = .ok (.getfield 9, 3) := by decide +kernel
theorem dX4_layNew_32 : decode cX4_layNew 32 = .ok (.iload_n 3, 1) := by decide +kernel
theorem dX4_layNew_33 : decode cX4_layNew 33 = .ok (.lconst 0, 1) := by decide +kernel
theorem dX4_layNew_34 : decode cX4_layNew 34 = .ok (.lastore, 1) := by decide +kernel
theorem dX4_layNew_35 : decode cX4_layNew 35 = .ok (.iinc 3 1, 3) := by decide +kernel
theorem dX4_layNew_38 : decode cX4_layNew 38 = .ok (.goto (-18), 3) := by decide +kernel
theorem dX4_layNew_41 : decode cX4_layNew 41 = .ok (.return_, 1) := by decide +kernel
theorem dX4_isMissing_0 : decode cX4_isMissing 0 = .ok (.aload_n 0, 1) := by decide +kernel
theorem dX4_isMissing_1 : decode cX4_isMissing 1 = .ok (.getfield 15, 3) := by decide +kernel
theorem dX4_isMissing_4 : decode cX4_isMissing 4 = .ok (.ifCond .ne 7, 3) := by decide +kernel
theorem dX4_isMissing_7 : decode cX4_isMissing 7 = .ok (.iconst 1, 1) := by decide +kernel
theorem dX4_isMissing_8 : decode cX4_isMissing 8 = .ok (.goto 4, 3) := by decide +kernel
theorem dX4_isMissing_11 : decode cX4_isMissing 11 = .ok (.iconst 0, 1) := by decide +kernel
theorem dX4_isMissing_12 : decode cX4_isMissing 12 = .ok (.ireturn, 1) := by decide +kernel
theorem dX4_put_0 : decode cX4_put 0 = .ok (.aload_n 0, 1) := by decide +kernel
theorem dX4_put_1 : decode cX4_put 1 = .ok (.getfield 15, 3) := by decide +kernel
theorem dX4_put_4 : decode cX4_put 4 = .ok (.bipush 8, 2) := by decide +kernel
theorem dX4_put_6 : decode cX4_put 6 = .ok (.if_icmp .ne 16, 3) := by decide +kernel
theorem dX4_put_9 : decode cX4_put 9 = .ok (.aload_n 0, 1) := by decide +kernel
theorem dX4_put_10 : decode cX4_put 10 = .ok (.getfield 9, 3) := by decide +kernel
theorem dX4_put_13 : decode cX4_put 13 = .ok (.iload_n 1, 1) := by decide +kernel
theorem dX4_put_14 : decode cX4_put 14 = .ok (.lload_n 2, 1) := by decide +kernel
theorem dX4_put_15 : decode cX4_put 15 = .ok (.l2i, 1) := by decide +kernel
theorem dX4_put_16 : decode cX4_put 16 = .ok (.i2b, 1) := by decide +kernel
theorem dX4_put_17 : decode cX4_put 17 = .ok (.i2l, 1) := by decide +kernel
theorem dX4_put_18 : decode cX4_put 18 = .ok (.lastore, 1) := by decide +kernel
theorem dX4_put_19 : decode cX4_put 19 = .ok (.goto 32, 3) := by decide +kernel
theorem dX4_put_22 : decode cX4_put 22 = .ok (.aload_n 0, 1) := by decide +kernel
theorem dX4_put_23 : decode cX4_put 23 = .ok (.getfield 15, 3) := by decide +kernel
theorem dX4_put_26 : decode cX4_put 26 = .ok (.bipush 16, 2) := by decide +kernel
theorem dX4_put_28 : decode cX4_put 28 = .ok (.if_icmp .ne 16, 3) := by decide +kernel
theorem dX4_put_31 : decode cX4_put 31 = .ok (.aload_n 0, 1) := by decide +kernel
theorem dX4_put_32 : decode cX4_put 32 = .ok (.getfield 9, 3) := by decide +kernel
theorem dX4_put_35 : decode cX4_put 35 = .ok (.iload_n 1, 1) := by decide +kernel
theorem dX4_put_36 : decode cX4_put 36 = .ok (.lload_n 2, 1) := by decide +kernel
theorem dX4_put_37 : decode cX4_put 37 = .ok (.l2i, 1) := by decide +kernel
theorem dX4_put_38 : decode cX4_put 38 = .ok (.i2s, 1) := by decide +kernel
theorem dX4_put_39 : decode cX4_put 39 = .ok (.i2l, 1) := by decide +kernel
theorem dX4_put_40 : decode cX4_put 40 = .ok (.lastore, 1) := by decide +kernel
theorem dX4_put_41 : decode cX4_put 41 = .ok (.goto 10, 3) := by decide +kernel
theorem dX4_put_44 : decode cX4_put 44 = .ok (.aload_n 0, 1) := by decide +kernel
theorem dX4_put_45 : decode cX4_put 45 = .ok (.getfield 9, 3) := by decide +kernel
theorem dX4_put_48 : decode cX4_put 48 = .ok (.iload_n 1, 1) := by decide +kernel
theorem dX4_put_49 : decode cX4_put 49 = .ok (.lload_n 2, 1) := by decide +kernel
theorem dX4_put_50 : decode cX4_put 50 = .ok (.lastore, 1) := by decide +kernel
theorem dX4_put_51 : decode cX4_put 51 = .ok (.return_, 1) := by decide +kernel
theorem dX4_has_0 : decode cX4_has 0 = .ok (.iload_n 1, 1) := by decide +kernel
theorem dX4_has_1 : decode cX4_has 1 = .ok (.ifCond .lt 21, 3) := by decide +kernel
theorem dX4_has_4 : decode cX4_has 4 = .ok (.iload_n 2, 1) := by decide +kernel
theorem dX4_has_5 : decode cX4_has 5 = .ok (.ifCond .lt 17, 3) := by decide +kernel
theorem dX4_has_8 : decode cX4_has 8 = .ok (.iload_n 2, 1) := by decide +kernel
theorem dX4_has_9 : decode cX4_has 9 = .ok (.aload_n 0, 1) := by decide +kernel
theorem dX4_has_10 : decode cX4_has 10 = .ok (.getfield 19, 3) := by decide +kernel
theorem dX4_has_13 : decode cX4_has 13 = .ok (.iload_n 1, 1) := by decide +kernel
theorem dX4_has_14 : decode cX4_has 14 = .ok (.isub, 1) := by decide +kernel
theorem dX4_has_15 : decode cX4_has 15 = .ok (.if_icmp .gt 7, 3) := by decide +kernel
theorem dX4_has_18 : decode cX4_has 18 = .ok (.iconst 1, 1) := by decide +kernel
theorem dX4_has_19 : decode cX4_has 19 = .ok (.goto 4, 3) := by decide +kernel
theorem dX4_has_22 : decode cX4_has 22 = .ok (.iconst 0, 1) := by decide +kernel
theorem dX4_has_23 : decode cX4_has 23 = .ok (.ireturn, 1) := by decide +kernel
theorem dX5_init_0 : decode cX5_init 0 = .ok (.aload_n 0, 1) := by decide +kernel
theorem dX5_init_1 : decode cX5_init 1 = .ok (.invokespecial 3, 3) := by decide +kernel
theorem dX5_init_4 : decode cX5_init 4 = .ok (.aload_n 0, 1) := by decide +kernel
theorem dX5_init_5 : decode cX5_init 5 = .ok (.bipush 120, 2) := by decide +kernel
theorem dX5_init_7 : decode cX5_init 7 = .ok (.newarray .int, 2) := by decide +kernel
theorem dX5_init_9 : decode cX5_init 9 = .ok (.putfield 9, 3) := by decide +kernel
theorem dX5_init_12 : decode cX5_init 12 = .ok (.aload_n 0, 1) := by decide +kernel
theorem dX5_init_13 : decode cX5_init 13 = .ok (.iconst 0, 1) := by decide +kernel
theorem dX5_init_14 : decode cX5_init 14 = .ok (.putfield 15, 3) := by decide +kernel
theorem dX5_init_17 : decode cX5_init 17 = .ok (.return_, 1) := by decide +kernel
theorem dX5_add_0 : decode cX5_add 0 = .ok (.aload_n 0, 1) := by decide +kernel
theorem dX5_add_1 : decode cX5_add 1 = .ok (.getfield 15, 3) := by decide +kernel
theorem dX5_add_4 : decode cX5_add 4 = .ok (.bipush 120, 2) := by decide +kernel
theorem dX5_add_6 : decode cX5_add 6 = .ok (.if_icmp .ge 23, 3) := by decide +kernel
theorem dX5_add_9 : decode cX5_add 9 = .ok (.aload_n 0, 1) := by decide +kernel
theorem dX5_add_10 : decode cX5_add 10 = .ok (.getfield 9, 3) := by decide +kernel
theorem dX5_add_13 : decode cX5_add 13 = .ok (.aload_n 0, 1) := by decide +kernel
theorem dX5_add_14 : decode cX5_add 14 = .ok (.getfield 15, 3) := by decide +kernel
theorem dX5_add_17 : decode cX5_add 17 = .ok (.iload_n 1, 1) := by decide +kernel
theorem dX5_add_18 : decode cX5_add 18 = .ok (.iastore, 1) := by decide +kernel
theorem dX5_add_19 : decode cX5_add 19 = .ok (.aload_n 0, 1) := by decide +kernel
theorem dX5_add_20 : decode cX5_add 20 = .ok (.dup, 1) := by decide +kernel
theorem dX5_add_21 : decode cX5_add 21 = .ok (.getfield 15, 3) := by decide +kernel
theorem dX5_add_24 : decode cX5_add 24 = .ok (.iconst 1, 1) := by decide +kernel
theorem dX5_add_25 : decode cX5_add 25 = .ok (.iadd, 1) := by decide +kernel
theorem dX5_add_26 : decode cX5_add 26 = .ok (.putfield 15, 3) := by decide +kernel
theorem dX5_add_29 : decode cX5_add 29 = .ok (.return_, 1) := by decide +kernel
end
section
theorem dX1_init_0 : decode cX1_init 0 = .ok (.aload_n 0, 1) := by decide +kernel
theorem dX1_init_1 : decode cX1_init 1 = .ok (.invokespecial 3, 3) := by decide +kernel
theorem dX1_init_4 : decode cX1_init 4 = .ok (.aload_n 0, 1) := by decide +kernel
theorem dX1_init_5 : decode cX1_init 5 = .ok (.new 9, 3) := by decide +kernel
theorem dX1_init_8 : decode cX1_init 8 = .ok (.dup, 1) := by decide +kernel
theorem dX1_init_9 : decode cX1_init 9 = .ok (.invokespecial 11, 3) := by decide +kernel
theorem dX1_init_12 : decode cX1_init 12 = .ok (.putfield 12, 3) := by decide +kernel
theorem dX1_init_15 : decode cX1_init 15 = .ok (.aload_n 0, 1) := by decide +kernel
theorem dX1_init_16 : decode cX1_init 16 = .ok (.bipush 8, 2) := by decide +kernel
theorem dX1_init_18 : decode cX1_init 18 = .ok (.anewarray 18, 3) := by decide +kernel
theorem dX1_init_21 : decode cX1_init 21 = .ok (.putfield 20, 3) := by decide +kernel
theorem dX1_init_24 : decode cX1_init 24 = .ok (.iconst 0, 1) := by decide +kernel
theorem dX1_init_25 : decode cX1_init 25 = .ok (.istore_n 1, 1) := by decide +kernel
theorem dX1_init_26 : decode cX1_init 26 = .ok (.iload_n 1, 1) := by decide +kernel
theorem dX1_init_27 : decode cX1_init 27 = .ok (.bipush 8, 2) := by decide +kernel
theorem dX1_init_29 : decode cX1_init 29 = .ok (.if_icmp .ge 22, 3) := by decide +kernel
theorem dX1_init_32 : decode cX1_init 32 = .ok (.aload_n 0, 1) := by decide +kernel
theorem dX1_init_33 : decode cX1_init 33 = .ok (.getfield 20, 3) := by decide +kernel
theorem dX1_init_36 : decode cX1_init 36 = .ok (.iload_n 1, 1) := by decide +kernel
theorem dX1_init_37 : decode cX1_init 37 = .ok (.new 18, 3) := by decide +kernel
theorem dX1_init_40 : decode cX1_init 40 = .ok (.dup, 1) := by decide +kernel
theorem dX1_init_41 : decode cX1_init 41 = .ok (.invokespecial 24, 3) := by decide +kernel
theorem dX1_init_44 : decode cX1_init 44 = .ok (.aastore, 1) := by decide +kernel
theorem dX1_init_45 : decode cX1_init 45 = .ok (.iinc 1 1, 3) := by decide +kernel
theorem dX1_init_48 : decode cX1_init 48 = .ok (.goto (-22), 3) := by decide +kernel
theorem dX1_init_51 : decode cX1_init 51 = .ok (.aload_n 0, 1) := by decide +kernel
theorem dX1_init_52 : decode cX1_init 52 = .ok (.iconst 0, 1) := by decide +kernel
theorem dX1_init_53 : decode cX1_init 53 = .ok (.putfield 25, 3) := by decide +kernel
theorem dX1_init_56 : decode cX1_init 56 = .ok (.aload_n 0, 1) := by decide +kernel
theorem dX1_init_57 : decode cX1_init 57 = .ok (.iconst 0, 1) := by decide +kernel
theorem dX1_init_58 : decode cX1_init 58 = .ok (.putfield 29, 3) := by decide +kernel
theorem dX1_init_61 : decode cX1_init 61 = .ok (.aload_n 0, 1) := by decide +kernel
theorem dX1_init_62 : decode cX1_init 62 = .ok (.iconst 0, 1) := by decide +kernel
theorem dX1_init_63 : decode cX1_init 63 = .ok (.putfield 32, 3) := by decide +kernel
theorem dX1_init_66 : decode cX1_init 66 = .ok (.aload_n 0, 1) := by decide +kernel
theorem dX1_init_67 : decode cX1_init 67 = .ok (.iconst 1, 1) := by decide +kernel
theorem dX1_init_68 : decode cX1_init 68 = .ok (.putfield 35, 3) := by decide +kernel
theorem dX1_init_71 : decode cX1_init 71 = .ok (.aload_n 0, 1) := by decide +kernel
theorem dX1_init_72 : decode cX1_init 72 = .ok (.bipush 16, 2) := by decide +kernel
theorem dX1_init_74 : decode cX1_init 74 = .ok (.newarray .int, 2) := by decide +kernel
theorem dX1_init_76 : decode cX1_init 76 = .ok (.putfield 38, 3) := by decide +kernel
theorem dX1_init_79 : decode cX1_init 79 = .ok (.return_, 1) := by decide +kernel
theorem dX1_takeFrom_0 : decode cX1_takeFrom 0 = .ok (.aload_n 0, 1) := by decide +kernel
theorem dX1_takeFrom_1 : decode cX1_takeFrom 1 = .ok (.getfield 12, 3) := by decide +kernel
theorem dX1_takeFrom_4 : decode cX1_takeFrom 4 = .ok (.aload_n 1, 1) := by decide +kernel
theorem dX1_takeFrom_5 : decode cX1_takeFrom 5 = .ok (.getfield 12, 3) := by decide +kernel
theorem dX1_takeFrom_8 : decode cX1_takeFrom 8 = .ok (.invokevirtual 42, 3) := by decide +kernel
theorem dX1_takeFrom_11 : decode cX1_takeFrom 11 = .ok (.aload_n 0, 1) := by decide +kernel
theorem dX1_takeFrom_12 : decode cX1_takeFrom 12 = .ok (.aload_n 1, 1) := by decide +kernel
theorem dX1_takeFrom_13 : decode cX1_takeFrom 13 = .ok (.getfield 25, 3) := by decide +kernel
theorem dX1_takeFrom_16 : decode cX1_takeFrom 16 = .ok (.putfield 25, 3) := by decide +kernel
theorem dX1_takeFrom_19 : decode cX1_takeFrom 19 = .ok (.iconst 0, 1) := by decide +kernel
theorem dX1_takeFrom_20 : decode cX1_takeFrom 20 = .ok (.istore_n 2, 1) := by decide +kernel
theorem dX1_takeFrom_21 : decode cX1_takeFrom 21 = .ok (.iload_n 2, 1) := by decide +kernel
theorem dX1_takeFrom_22 : decode cX1_takeFrom 22 = .ok (.aload_n 0, 1) := by decide +kernel
theorem dX1_takeFrom_23 : decode cX1_takeFrom 23 = .ok (.getfield 25, 3) := by decide +kernel
theorem dX1_takeFrom_26 : decode cX1_takeFrom 26 = .ok (.if_icmp .ge 24, 3) := by decide +kernel
theorem dX1_takeFrom_29 : decode cX1_takeFrom 29 = .ok (.aload_n 0, 1) := by decide +kernel
theorem dX1_takeFrom_30 : decode cX1_takeFrom 30 = .ok (.getfield 20, 3) := by decide +kernel
theorem dX1_takeFrom_33 : decode cX1_takeFrom 33 = .ok (.iload_n 2, 1) := by decide +kernel
theorem dX1_takeFrom_34 : decode cX1_takeFrom 34 = .ok (.aaload, 1) := by decide +kernel
theorem dX1_takeFrom_35 : decode cX1_takeFrom 35 = .ok (.aload_n 1, 1) := by decide +kernel
theorem dX1_takeFrom_36 : decode cX1_takeFrom 36 = .ok (.getfield 20, 3) := by decide +kernel
theorem dX1_takeFrom_39 : decode cX1_takeFrom 39 = .ok (.iload_n 2, 1) := by decide +kernel
theorem dX1_takeFrom_40 : decode cX1_takeFrom 40 = .ok (.aaload, 1) := by decide +kernel
theorem dX1_takeFrom_41 : decode cX1_takeFrom 41 = .ok (.invokevirtual 46, 3) := by decide +kernel
theorem dX1_takeFrom_44 : decode cX1_takeFrom 44 = .ok (.iinc 2 1, 3) := by decide +kernel
theorem dX1_takeFrom_47 : decode cX1_takeFrom 47 = .ok (.goto (-26), 3) := by decide +kernel
theorem dX1_takeFrom_50 : decode cX1_takeFrom 50 = .ok (.aload_n 0, 1) := by decide +kernel
theorem dX1_takeFrom_51 : decode cX1_takeFrom 51 = .ok (.aload_n 1, 1) := by decide +kernel
theorem dX1_takeFrom_52 : decode cX1_takeFrom 52 = .ok (.getfield 29, 3) := by decide +kernel
theorem dX1_takeFrom_55 : decode cX1_takeFrom 55 = .ok (.putfield 29, 3) := by decide +kernel
theorem dX1_takeFrom_58 : decode cX1_takeFrom 58 = .ok (.aload_n 0, 1) := by decide +kernel
theorem dX1_takeFrom_59 : decode cX1_takeFrom 59 = .ok (.aload_n 1, 1) := by decide +kernel
theorem dX1_takeFrom_60 : decode cX1_takeFrom 60 = .ok (.getfield 32, 3) := by decide +kernel
theorem dX1_takeFrom_63 : decode cX1_takeFrom 63 = .ok (.putfield 32, 3) := by decide +kernel
theorem dX1_takeFrom_66 : decode cX1_takeFrom 66 = .ok (.aload_n 0, 1) := by decide +kernel
theorem dX1_takeFrom_67 : decode cX1_takeFrom 67 = .ok (.aload_n 1, 1) := by decide +kernel
theorem dX1_takeFrom_68 : decode cX1_takeFrom 68 = .ok (.getfield 35, 3) := by decide +kernel
theorem dX1_takeFrom_71 : decode cX1_takeFrom 71 = .ok (.putfield 35, 3) := by decide +kernel
theorem dX1_takeFrom_74 : decode cX1_takeFrom 74 = .ok (.return_, 1) := by decide +kernel
theorem dX1_isFull_0 : decode cX1_isFull 0 = .ok (.aload_n 0, 1) := by decide +kernel
theorem dX1_isFull_1 : decode cX1_isFull 1 = .ok (.getfield 25, 3) := by decide +kernel
theorem dX1_isFull_4 : decode cX1_isFull 4 = .ok (.bipush 8, 2) := by decide +kernel
theorem dX1_isFull_6 : decode cX1_isFull 6 = .ok (.if_icmp .lt 7, 3) := by decide +kernel
theorem dX1_isFull_9 : decode cX1_isFull 9 = .ok (.iconst 1, 1) := by decide +kernel
theorem dX1_isFull_10 : decode cX1_isFull 10 = .ok (.goto 4, 3) := by decide +kernel
theorem dX1_isFull_13 : decode cX1_isFull 13 = .ok (.iconst 0, 1) := by decide +kernel
theorem dX1_isFull_14 : decode cX1_isFull 14 = .ok (.ireturn, 1) := by decide +kernel
theorem dX1_add_0 : decode cX1_add 0 = .ok (.aload_n 0, 1) := by decide +kernel
theorem dX1_add_1 : decode cX1_add 1 = .ok (.getfield 20, 3) := by decide +kernel
theorem dX1_add_4 : decode cX1_add 4 = .ok (.aload_n 0, 1) := by decide +kernel
theorem dX1_add_5 : decode cX1_add 5 = .ok (.getfield 25, 3) := by decide +kernel
theorem dX1_add_8 : decode cX1_add 8 = .ok (.aaload, 1) := by decide +kernel
theorem dX1_add_9 : decode cX1_add 9 = .ok (.astore_n 3, 1) := by decide +kernel
theorem dX1_add_10 : decode cX1_add 10 = .ok (.aload_n 3, 1) := by decide +kernel
theorem dX1_add_11 : decode cX1_add 11 = .ok (.iload_n 1, 1) := by decide +kernel
theorem dX1_add_12 : decode cX1_add 12 = .ok (.iload_n 2, 1) := by decide +kernel
theorem dX1_add_13 : decode cX1_add 13 = .ok (.invokevirtual 49, 3) := by decide +kernel
theorem dX1_add_16 : decode cX1_add 16 = .ok (.aload_n 0, 1) := by decide +kernel
theorem dX1_add_17 : decode cX1_add 17 = .ok (.dup, 1) := by decide +kernel
theorem dX1_add_18 : decode cX1_add 18 = .ok (.getfield 25, 3) := by decide +kernel
theorem dX1_add_21 : decode cX1_add 21 = .ok (.iconst 1, 1) := by decide +kernel
theorem dX1_add_22 : decode cX1_add 22 = .ok (.iadd, 1) := by decide +kernel
theorem dX1_add_23 : decode cX1_add 23 = .ok (.putfield 25, 3) := by decide +kernel
theorem dX1_add_26 : decode cX1_add 26 = .ok (.aload_n 3, 1) := by decide +kernel
theorem dX1_add_27 : decode cX1_add 27 = .ok (.areturn, 1) := by decide +kernel
theorem dX1_takeDown_0 : decode cX1_takeDown 0 = .ok (.aload_n 0, 1) := by decide +kernel
theorem dX1_takeDown_1 : decode cX1_takeDown 1 = .ok (.getfield 20, 3) := by decide +kernel
theorem dX1_takeDown_4 : decode cX1_takeDown 4 = .ok (.iload_n 1, 1) := by decide +kernel
theorem dX1_takeDown_5 : decode cX1_takeDown 5 = .ok (.aaload, 1) := by decide +kernel
theorem dX1_takeDown_6 : decode cX1_takeDown 6 = .ok (.astore_n 2, 1) := by decide +kernel
theorem dX1_takeDown_7 : decode cX1_takeDown 7 = .ok (.iload_n 1, 1) := by decide +kernel
theorem dX1_takeDown_8 : decode cX1_takeDown 8 = .ok (.istore_n 3, 1) := by decide +kernel
theorem dX1_takeDown_9 : decode cX1_takeDown 9 = .ok (.iload_n 3, 1) := by decide +kernel
theorem dX1_takeDown_10 : decode cX1_takeDown 10 = .ok (.aload_n 0, 1) := by decide +kernel
theorem dX1_takeDown_11 : decode cX1_takeDown 11 = .ok (.getfield 25, 3) := by decide +kernel
theorem dX1_takeDown_14 : decode cX1_takeDown 14 = .ok (.iconst 1, 1) := by decide +kernel
theorem dX1_takeDown_15 : decode cX1_takeDown 15 = .ok (.isub, 1) := by decide +kernel
theorem dX1_takeDown_16 : decode cX1_takeDown 16 = .ok (.if_icmp .ge 23, 3) := by decide +kernel
theorem dX1_takeDown_19 : decode cX1_takeDown 19 = .ok (.aload_n 0, 1) := by decide +kernel
theorem dX1_takeDown_20 : decode cX1_takeDown 20 = .ok (.getfield 20, 3) := by decide +kernel
theorem dX1_takeDown_23 : decode cX1_takeDown 23 = .ok (.iload_n 3, 1) := by decide +kernel
theorem dX1_takeDown_24 : decode cX1_takeDown 24 = .ok (.aload_n 0, 1) := by decide +kernel
theorem dX1_takeDown_25 : decode cX1_takeDown 25 = .ok (.getfield 20, 3) := by decide +kernel
theorem dX1_takeDown_28 : decode cX1_takeDown 28 = .ok (.iload_n 3, 1) := by decide +kernel
theorem dX1_takeDown_29 : decode cX1_takeDown 29 = .ok (.iconst 1, 1) := by decide +kernel
theorem dX1_takeDown_30 : decode cX1_takeDown 30 = .ok (.iadd, 1) := by decide +kernel
theorem dX1_takeDown_31 : decode cX1_takeDown 31 = .ok (.aaload, 1) := by decide +kernel
theorem dX1_takeDown_32 : decode cX1_takeDown 32 = .ok (.aastore, 1) := by decide +kernel
theorem dX1_takeDown_33 : decode cX1_takeDown 33 = .ok (.iinc 3 1, 3) := by decide +kernel
theorem dX1_takeDown_36 : decode cX1_takeDown 36 = .ok (.goto (-27), 3) := by decide +kernel
theorem dX1_takeDown_39 : decode cX1_takeDown 39 = .ok (.aload_n 0, 1) := by decide +kernel
theorem dX1_takeDown_40 : decode cX1_takeDown 40 = .ok (.dup, 1) := by decide +kernel
theorem dX1_takeDown_41 : decode cX1_takeDown 41 = .ok (.getfield 25, 3) := by decide +kernel
theorem dX1_takeDown_44 : decode cX1_takeDown 44 = .ok (.iconst 1, 1) := by decide +kernel
theorem dX1_takeDown_45 : decode cX1_takeDown 45 = .ok (.isub, 1) := by decide +kernel
theorem dX1_takeDown_46 : decode cX1_takeDown 46 = .ok (.putfield 25, 3) := by decide +kernel
theorem dX1_takeDown_49 : decode cX1_takeDown 49 = .ok (.aload_n 0, 1) := by decide +kernel
theorem dX1_takeDown_50 : decode cX1_takeDown 50 = .ok (.getfield 20, 3) := by decide +kernel
theorem dX1_takeDown_53 : decode cX1_takeDown 53 = .ok (.aload_n 0, 1) := by decide +kernel
theorem dX1_takeDown_54 : decode cX1_takeDown 54 = .ok (.getfield 25, 3) := by decide +kernel
theorem dX1_takeDown_57 : decode cX1_takeDown 57 = .ok (.aload_n 2, 1) := by decide +kernel
theorem dX1_takeDown_58 : decode cX1_takeDown 58 = .ok (.aastore, 1) := by decide +kernel
theorem dX1_takeDown_59 : decode cX1_takeDown 59 = .ok (.return_, 1) := by decide +kernel
theorem dX1_clock_0 : decode cX1_clock 0 = .ok (.aload_n 0, 1) := by decide +kernel
theorem dX1_clock_1 : decode cX1_clock 1 = .ok (.getfield 29, 3) := by decide +kernel
theorem dX1_clock_4 : decode cX1_clock 4 = .ok (.bipush 24, 2) := by decide +kernel
theorem dX1_clock_6 : decode cX1_clock 6 = .ok (.irem, 1) := by decide +kernel
theorem dX1_clock_7 : decode cX1_clock 7 = .ok (.ireturn, 1) := by decide +kernel
theorem dX1_targetFrom_0 : decode cX1_targetFrom 0 = .ok (.iconst (-1), 1) := by decide +kernel
theorem dX1_targetFrom_1 : decode cX1_targetFrom 1 = .ok (.istore_n 2, 1) := by decide +kernel
theorem dX1_targetFrom_2 : decode cX1_targetFrom 2 = .ok (.iconst 0, 1) := by decide +kernel
theorem dX1_targetFrom_3 : decode cX1_targetFrom 3 = .ok (.istore_n 3, 1) := by decide +kernel
theorem dX1_targetFrom_4 : decode cX1_targetFrom 4 = .ok (.iconst 0, 1) := by decide +kernel
theorem dX1_targetFrom_5 : decode cX1_targetFrom 5 = .ok (.istore 4, 2) := by decide +kernel
theorem dX1_targetFrom_7 : decode cX1_targetFrom 7 = .ok (.iload 4, 2) := by decide +kernel
theorem dX1_targetFrom_9 : decode cX1_targetFrom 9 = .ok (.aload_n 0, 1) := by decide +kernel
theorem dX1_targetFrom_10 : decode cX1_targetFrom 10 = .ok (.getfield 25, 3) := by decide +kernel
theorem dX1_targetFrom_13 : decode cX1_targetFrom 13 = .ok (.if_icmp .ge 34, 3) := by decide +kernel
theorem dX1_targetFrom_16 : decode cX1_targetFrom 16 = .ok (.aload_n 0, 1) := by decide +kernel
theorem dX1_targetFrom_17 : decode cX1_targetFrom 17 = .ok (.getfield 20, 3) := by decide +kernel
theorem dX1_targetFrom_20 : decode cX1_targetFrom 20 = .ok (.iload 4, 2) := by decide +kernel
theorem dX1_targetFrom_22 : decode cX1_targetFrom 22 = .ok (.aaload, 1) := by decide +kernel
theorem dX1_targetFrom_23 : decode cX1_targetFrom 23 = .ok (.iload_n 1, 1) := by decide +kernel
theorem dX1_targetFrom_24 : decode cX1_targetFrom 24 = .ok (.invokevirtual 53, 3) := by decide +kernel
theorem dX1_targetFrom_27 : decode cX1_targetFrom 27 = .ok (.istore 5, 2) := by decide +kernel
theorem dX1_targetFrom_29 : decode cX1_targetFrom 29 = .ok (.iload 5, 2) := by decide +kernel
theorem dX1_targetFrom_31 : decode cX1_targetFrom 31 = .ok (.iload_n 3, 1) := by decide +kernel
theorem dX1_targetFrom_32 : decode cX1_targetFrom 32 = .ok (.if_icmp .le 9, 3) := by decide +kernel
theorem dX1_targetFrom_35 : decode cX1_targetFrom 35 = .ok (.iload 5, 2) := by decide +kernel
theorem dX1_targetFrom_37 : decode cX1_targetFrom 37 = .ok (.istore_n 3, 1) := by decide +kernel
theorem dX1_targetFrom_38 : decode cX1_targetFrom 38 = .ok (.iload 4, 2) := by decide +kernel
theorem dX1_targetFrom_40 : decode cX1_targetFrom 40 = .ok (.istore_n 2, 1) := by decide +kernel
theorem dX1_targetFrom_41 : decode cX1_targetFrom 41 = .ok (.iinc 4 1, 3) := by decide +kernel
theorem dX1_targetFrom_44 : decode cX1_targetFrom 44 = .ok (.goto (-37), 3) := by decide +kernel
theorem dX1_targetFrom_47 : decode cX1_targetFrom 47 = .ok (.iload_n 2, 1) := by decide +kernel
theorem dX1_targetFrom_48 : decode cX1_targetFrom 48 = .ok (.ireturn, 1) := by decide +kernel
theorem dX1_aim_0 : decode cX1_aim 0 = .ok (.iconst 0, 1) := by decide +kernel
theorem dX1_aim_1 : decode cX1_aim 1 = .ok (.istore_n 1, 1) := by decide +kernel
theorem dX1_aim_2 : decode cX1_aim 2 = .ok (.iload_n 1, 1) := by decide +kernel
theorem dX1_aim_3 : decode cX1_aim 3 = .ok (.bipush 16, 2) := by decide +kernel
theorem dX1_aim_5 : decode cX1_aim 5 = .ok (.if_icmp .ge 20, 3) := by decide +kernel
theorem dX1_aim_8 : decode cX1_aim 8 = .ok (.aload_n 0, 1) := by decide +kernel
theorem dX1_aim_9 : decode cX1_aim 9 = .ok (.getfield 38, 3) := by decide +kernel
theorem dX1_aim_12 : decode cX1_aim 12 = .ok (.iload_n 1, 1) := by decide +kernel
theorem dX1_aim_13 : decode cX1_aim 13 = .ok (.aload_n 0, 1) := by decide +kernel
theorem dX1_aim_14 : decode cX1_aim 14 = .ok (.iload_n 1, 1) := by decide +kernel
theorem dX1_aim_15 : decode cX1_aim 15 = .ok (.invokevirtual 57, 3) := by decide +kernel
theorem dX1_aim_18 : decode cX1_aim 18 = .ok (.iastore, 1) := by decide +kernel
theorem dX1_aim_19 : decode cX1_aim 19 = .ok (.iinc 1 1, 3) := by decide +kernel
theorem dX1_aim_22 : decode cX1_aim 22 = .ok (.goto (-20), 3) := by decide +kernel
theorem dX1_aim_25 : decode cX1_aim 25 = .ok (.return_, 1) := by decide +kernel
theorem dX1_boltStrikes_0 : decode cX1_boltStrikes 0 = .ok (.aload_n 0, 1) := by decide +kernel
theorem dX1_boltStrikes_1 : decode cX1_boltStrikes 1 = .ok (.getfield 12, 3) := by decide +kernel
theorem dX1_boltStrikes_4 : decode cX1_boltStrikes 4 = .ok (.invokevirtual 60, 3) := by decide +kernel
theorem dX1_boltStrikes_7 : decode cX1_boltStrikes 7 = .ok (.ifCond .eq 23, 3) := by decide +kernel
theorem dX1_boltStrikes_10 : decode cX1_boltStrikes 10 = .ok (.aload_n 0, 1) := by decide +kernel
theorem dX1_boltStrikes_11 : decode cX1_boltStrikes 11 = .ok (.getfield 38, 3) := by decide +kernel
theorem dX1_boltStrikes_14 : decode cX1_boltStrikes 14 = .ok (.aload_n 0, 1) := by decide +kernel
theorem dX1_boltStrikes_15 : decode cX1_boltStrikes 15 = .ok (.getfield 12, 3) := by decide +kernel
theorem dX1_boltStrikes_18 : decode cX1_boltStrikes 18 = .ok (.getfield 64, 3) := by decide +kernel
theorem dX1_boltStrikes_21 : decode cX1_boltStrikes 21 = .ok (.iaload, 1) := by decide +kernel
theorem dX1_boltStrikes_22 : decode cX1_boltStrikes 22 = .ok (.iload_n 1, 1) := by decide +kernel
theorem dX1_boltStrikes_23 : decode cX1_boltStrikes 23 = .ok (.if_icmp .ne 7, 3) := by decide +kernel
theorem dX1_boltStrikes_26 : decode cX1_boltStrikes 26 = .ok (.iconst 1, 1) := by decide +kernel
theorem dX1_boltStrikes_27 : decode cX1_boltStrikes 27 = .ok (.goto 4, 3) := by decide +kernel
theorem dX1_boltStrikes_30 : decode cX1_boltStrikes 30 = .ok (.iconst 0, 1) := by decide +kernel
theorem dX1_boltStrikes_31 : decode cX1_boltStrikes 31 = .ok (.ireturn, 1) := by decide +kernel
theorem dX1_goHour_0 : decode cX1_goHour 0 = .ok (.aload_n 0, 1) := by decide +kernel
theorem dX1_goHour_1 : decode cX1_goHour 1 = .ok (.getfield 12, 3) := by decide +kernel
theorem dX1_goHour_4 : decode cX1_goHour 4 = .ok (.invokevirtual 60, 3) := by decide +kernel
theorem dX1_goHour_7 : decode cX1_goHour 7 = .ok (.ifCond .eq 19, 3) := by decide +kernel
theorem dX1_goHour_10 : decode cX1_goHour 10 = .ok (.aload_n 0, 1) := by decide +kernel
theorem dX1_goHour_11 : decode cX1_goHour 11 = .ok (.aload_n 0, 1) := by decide +kernel
theorem dX1_goHour_12 : decode cX1_goHour 12 = .ok (.getfield 38, 3) := by decide +kernel
theorem dX1_goHour_15 : decode cX1_goHour 15 = .ok (.aload_n 0, 1) := by decide +kernel
theorem dX1_goHour_16 : decode cX1_goHour 16 = .ok (.getfield 12, 3) := by decide +kernel
theorem dX1_goHour_19 : decode cX1_goHour 19 = .ok (.getfield 64, 3) := by decide +kernel
theorem dX1_goHour_22 : decode cX1_goHour 22 = .ok (.iaload, 1) := by decide +kernel
theorem dX1_goHour_23 : decode cX1_goHour 23 = .ok (.invokevirtual 67, 3) := by decide +kernel
theorem dX1_goHour_26 : decode cX1_goHour 26 = .ok (.aload_n 0, 1) := by decide +kernel
theorem dX1_goHour_27 : decode cX1_goHour 27 = .ok (.getfield 12, 3) := by decide +kernel
theorem dX1_goHour_30 : decode cX1_goHour 30 = .ok (.invokevirtual 71, 3) := by decide +kernel
theorem dX1_goHour_33 : decode cX1_goHour 33 = .ok (.aload_n 0, 1) := by decide +kernel
theorem dX1_goHour_34 : decode cX1_goHour 34 = .ok (.dup, 1) := by decide +kernel
theorem dX1_goHour_35 : decode cX1_goHour 35 = .ok (.getfield 29, 3) := by decide +kernel
theorem dX1_goHour_38 : decode cX1_goHour 38 = .ok (.iconst 1, 1) := by decide +kernel
theorem dX1_goHour_39 : decode cX1_goHour 39 = .ok (.iadd, 1) := by decide +kernel
theorem dX1_goHour_40 : decode cX1_goHour 40 = .ok (.putfield 29, 3) := by decide +kernel
theorem dX1_goHour_43 : decode cX1_goHour 43 = .ok (.return_, 1) := by decide +kernel
theorem dX1_strike_0 : decode cX1_strike 0 = .ok (.iconst 0, 1) := by decide +kernel
theorem dX1_strike_1 : decode cX1_strike 1 = .ok (.istore_n 2, 1) := by decide +kernel
theorem dX1_strike_2 : decode cX1_strike 2 = .ok (.iload_n 1, 1) := by decide +kernel
theorem dX1_strike_3 : decode cX1_strike 3 = .ok (.iconst 0, 1) := by decide +kernel
theorem dX1_strike_4 : decode cX1_strike 4 = .ok (.aload_n 0, 1) := by decide +kernel
theorem dX1_strike_5 : decode cX1_strike 5 = .ok (.getfield 25, 3) := by decide +kernel
theorem dX1_strike_8 : decode cX1_strike 8 = .ok (.iconst 1, 1) := by decide +kernel
theorem dX1_strike_9 : decode cX1_strike 9 = .ok (.isub, 1) := by decide +kernel
theorem dX1_strike_10 : decode cX1_strike 10 = .ok (.invokestatic 74, 3) := by decide +kernel
theorem dX1_strike_13 : decode cX1_strike 13 = .ok (.ifCond .eq 52, 3) := by decide +kernel
theorem dX1_strike_16 : decode cX1_strike 16 = .ok (.aload_n 0, 1) := by decide +kernel
theorem dX1_strike_17 : decode cX1_strike 17 = .ok (.getfield 20, 3) := by decide +kernel
theorem dX1_strike_20 : decode cX1_strike 20 = .ok (.iload_n 1, 1) := by decide +kernel
theorem dX1_strike_21 : decode cX1_strike 21 = .ok (.aaload, 1) := by decide +kernel
theorem dX1_strike_22 : decode cX1_strike 22 = .ok (.astore_n 3, 1) := by decide +kernel
theorem dX1_strike_23 : decode cX1_strike 23 = .ok (.aload_n 3, 1) := by decide +kernel
theorem dX1_strike_24 : decode cX1_strike 24 = .ok (.aload_n 0, 1) := by decide +kernel
theorem dX1_strike_25 : decode cX1_strike 25 = .ok (.getfield 12, 3) := by decide +kernel
theorem dX1_strike_28 : decode cX1_strike 28 = .ok (.getfield 78, 3) := by decide +kernel
theorem dX1_strike_31 : decode cX1_strike 31 = .ok (.aload_n 0, 1) := by decide +kernel
theorem dX1_strike_32 : decode cX1_strike 32 = .ok (.invokevirtual 81, 3) := by decide +kernel
theorem dX1_strike_35 : decode cX1_strike 35 = .ok (.invokevirtual 85, 3) := by decide +kernel
theorem dX1_strike_38 : decode cX1_strike 38 = .ok (.istore_n 2, 1) := by decide +kernel
theorem dX1_strike_39 : decode cX1_strike 39 = .ok (.aload_n 3, 1) := by decide +kernel
theorem dX1_strike_40 : decode cX1_strike 40 = .ok (.aload_n 3, 1) := by decide +kernel
theorem dX1_strike_41 : decode cX1_strike 41 = .ok (.getfield 89, 3) := by decide +kernel
theorem dX1_strike_44 : decode cX1_strike 44 = .ok (.iconst 1, 1) := by decide +kernel
theorem dX1_strike_45 : decode cX1_strike 45 = .ok (.iadd, 1) := by decide +kernel
theorem dX1_strike_46 : decode cX1_strike 46 = .ok (.invokestatic 92, 3) := by decide +kernel
theorem dX1_strike_49 : decode cX1_strike 49 = .ok (.putfield 89, 3) := by decide +kernel
theorem dX1_strike_52 : decode cX1_strike 52 = .ok (.aload_n 3, 1) := by decide +kernel
theorem dX1_strike_53 : decode cX1_strike 53 = .ok (.aload_n 3, 1) := by decide +kernel
theorem dX1_strike_54 : decode cX1_strike 54 = .ok (.getfield 95, 3) := by decide +kernel
theorem dX1_strike_57 : decode cX1_strike 57 = .ok (.iload_n 2, 1) := by decide +kernel
theorem dX1_strike_58 : decode cX1_strike 58 = .ok (.iadd, 1) := by decide +kernel
theorem dX1_strike_59 : decode cX1_strike 59 = .ok (.invokestatic 92, 3) := by decide +kernel
theorem dX1_strike_62 : decode cX1_strike 62 = .ok (.putfield 95, 3) := by decide +kernel
theorem dX1_strike_65 : decode cX1_strike 65 = .ok (.iload_n 2, 1) := by decide +kernel
theorem dX1_strike_66 : decode cX1_strike 66 = .ok (.ifCond .ne 22, 3) := by decide +kernel
theorem dX1_strike_69 : decode cX1_strike 69 = .ok (.aload_n 0, 1) := by decide +kernel
theorem dX1_strike_70 : decode cX1_strike 70 = .ok (.aload_n 0, 1) := by decide +kernel
theorem dX1_strike_71 : decode cX1_strike 71 = .ok (.getfield 32, 3) := by decide +kernel
theorem dX1_strike_74 : decode cX1_strike 74 = .ok (.aload_n 0, 1) := by decide +kernel
theorem dX1_strike_75 : decode cX1_strike 75 = .ok (.getfield 12, 3) := by decide +kernel
theorem dX1_strike_78 : decode cX1_strike 78 = .ok (.getfield 78, 3) := by decide +kernel
theorem dX1_strike_81 : decode cX1_strike 81 = .ok (.iadd, 1) := by decide +kernel
theorem dX1_strike_82 : decode cX1_strike 82 = .ok (.invokestatic 92, 3) := by decide +kernel
theorem dX1_strike_85 : decode cX1_strike 85 = .ok (.putfield 32, 3) := by decide +kernel
theorem dX1_strike_88 : decode cX1_strike 88 = .ok (.return_, 1) := by decide +kernel
theorem dX1_goHours_0 : decode cX1_goHours 0 = .ok (.aload_n 0, 1) := by decide +kernel
theorem dX1_goHours_1 : decode cX1_goHours 1 = .ok (.invokevirtual 98, 3) := by decide +kernel
theorem dX1_goHours_4 : decode cX1_goHours 4 = .ok (.iconst 0, 1) := by decide +kernel
theorem dX1_goHours_5 : decode cX1_goHours 5 = .ok (.istore_n 2, 1) := by decide +kernel
theorem dX1_goHours_6 : decode cX1_goHours 6 = .ok (.iload_n 2, 1) := by decide +kernel
theorem dX1_goHours_7 : decode cX1_goHours 7 = .ok (.iload_n 1, 1) := by decide +kernel
theorem dX1_goHours_8 : decode cX1_goHours 8 = .ok (.if_icmp .ge 13, 3) := by decide +kernel
theorem dX1_goHours_11 : decode cX1_goHours 11 = .ok (.aload_n 0, 1) := by decide +kernel
theorem dX1_goHours_12 : decode cX1_goHours 12 = .ok (.invokevirtual 101, 3) := by decide +kernel
theorem dX1_goHours_15 : decode cX1_goHours 15 = .ok (.iinc 2 1, 3) := by decide +kernel
theorem dX1_goHours_18 : decode cX1_goHours 18 = .ok (.goto (-12), 3) := by decide +kernel
theorem dX1_goHours_21 : decode cX1_goHours 21 = .ok (.return_, 1) := by decide +kernel
theorem dX1_drawDrift_0 : decode cX1_drawDrift 0 = .ok (.aload_n 0, 1) := by decide +kernel
theorem dX1_drawDrift_1 : decode cX1_drawDrift 1 = .ok (.aload_n 0, 1) := by decide +kernel
theorem dX1_drawDrift_2 : decode cX1_drawDrift 2 = .ok (.getfield 35, 3) := by decide +kernel
theorem dX1_drawDrift_5 : decode cX1_drawDrift 5 = .ok (.ldc 104, 2) := by decide +kernel
theorem dX1_drawDrift_7 : decode cX1_drawDrift 7 = .ok (.imul, 1) := by decide +kernel
theorem dX1_drawDrift_8 : decode cX1_drawDrift 8 = .ok (.sipush 12345, 3) := by decide +kernel
theorem dX1_drawDrift_11 : decode cX1_drawDrift 11 = .ok (.iadd, 1) := by decide +kernel
theorem dX1_drawDrift_12 : decode cX1_drawDrift 12 = .ok (.putfield 35, 3) := by decide +kernel
theorem dX1_drawDrift_15 : decode cX1_drawDrift 15 = .ok (.aload_n 0, 1) := by decide +kernel
theorem dX1_drawDrift_16 : decode cX1_drawDrift 16 = .ok (.getfield 12, 3) := by decide +kernel
theorem dX1_drawDrift_19 : decode cX1_drawDrift 19 = .ok (.aload_n 0, 1) := by decide +kernel
theorem dX1_drawDrift_20 : decode cX1_drawDrift 20 = .ok (.getfield 35, 3) := by decide +kernel
theorem dX1_drawDrift_23 : decode cX1_drawDrift 23 = .ok (.bipush 8, 2) := by decide +kernel
theorem dX1_drawDrift_25 : decode cX1_drawDrift 25 = .ok (.iushr, 1) := by decide +kernel
theorem dX1_drawDrift_26 : decode cX1_drawDrift 26 = .ok (.iconst 3, 1) := by decide +kernel
theorem dX1_drawDrift_27 : decode cX1_drawDrift 27 = .ok (.irem, 1) := by decide +kernel
theorem dX1_drawDrift_28 : decode cX1_drawDrift 28 = .ok (.iconst 1, 1) := by decide +kernel
theorem dX1_drawDrift_29 : decode cX1_drawDrift 29 = .ok (.isub, 1) := by decide +kernel
theorem dX1_drawDrift_30 : decode cX1_drawDrift 30 = .ok (.putfield 105, 3) := by decide +kernel
theorem dX1_drawDrift_33 : decode cX1_drawDrift 33 = .ok (.return_, 1) := by decide +kernel
theorem dX1_partsOfAll_0 : decode cX1_partsOfAll 0 = .ok (.iconst 0, 1) := by decide +kernel
theorem dX1_partsOfAll_1 : decode cX1_partsOfAll 1 = .ok (.istore_n 2, 1) := by decide +kernel
theorem dX1_partsOfAll_2 : decode cX1_partsOfAll 2 = .ok (.iconst 0, 1) := by decide +kernel
theorem dX1_partsOfAll_3 : decode cX1_partsOfAll 3 = .ok (.istore_n 3, 1) := by decide +kernel
theorem dX1_partsOfAll_4 : decode cX1_partsOfAll 4 = .ok (.iload_n 3, 1) := by decide +kernel
theorem dX1_partsOfAll_5 : decode cX1_partsOfAll 5 = .ok (.aload_n 0, 1) := by decide +kernel
theorem dX1_partsOfAll_6 : decode cX1_partsOfAll 6 = .ok (.getfield 25, 3) := by decide +kernel
theorem dX1_partsOfAll_9 : decode cX1_partsOfAll 9 = .ok (.if_icmp .ge 22, 3) := by decide +kernel
theorem dX1_partsOfAll_12 : decode cX1_partsOfAll 12 = .ok (.iload_n 2, 1) := by decide +kernel
theorem dX1_partsOfAll_13 : decode cX1_partsOfAll 13 = .ok (.aload_n 0, 1) := by decide +kernel
theorem dX1_partsOfAll_14 : decode cX1_partsOfAll 14 = .ok (.getfield 20, 3) := by decide +kernel
theorem dX1_partsOfAll_17 : decode cX1_partsOfAll 17 = .ok (.iload_n 3, 1) := by decide +kernel
theorem dX1_partsOfAll_18 : decode cX1_partsOfAll 18 = .ok (.aaload, 1) := by decide +kernel
theorem dX1_partsOfAll_19 : decode cX1_partsOfAll 19 = .ok (.iload_n 1, 1) := by decide +kernel
theorem dX1_partsOfAll_20 : decode cX1_partsOfAll 20 = .ok (.invokevirtual 108, 3) := by decide +kernel
theorem dX1_partsOfAll_23 : decode cX1_partsOfAll 23 = .ok (.iadd, 1) := by decide +kernel
theorem dX1_partsOfAll_24 : decode cX1_partsOfAll 24 = .ok (.istore_n 2, 1) := by decide +kernel
theorem dX1_partsOfAll_25 : decode cX1_partsOfAll 25 = .ok (.iinc 3 1, 3) := by decide +kernel
theorem dX1_partsOfAll_28 : decode cX1_partsOfAll 28 = .ok (.goto (-24), 3) := by decide +kernel
theorem dX1_partsOfAll_31 : decode cX1_partsOfAll 31 = .ok (.iload_n 2, 1) := by decide +kernel
theorem dX1_partsOfAll_32 : decode cX1_partsOfAll 32 = .ok (.ireturn, 1) := by decide +kernel
theorem dX1_paidHoursOfAll_0 : decode cX1_paidHoursOfAll 0 = .ok (.iconst 0, 1) := by decide +kernel
theorem dX1_paidHoursOfAll_1 : decode cX1_paidHoursOfAll 1 = .ok (.istore_n 1, 1) := by decide +kernel
theorem dX1_paidHoursOfAll_2 : decode cX1_paidHoursOfAll 2 = .ok (.iconst 0, 1) := by decide +kernel
theorem dX1_paidHoursOfAll_3 : decode cX1_paidHoursOfAll 3 = .ok (.istore_n 2, 1) := by decide +kernel
theorem dX1_paidHoursOfAll_4 : decode cX1_paidHoursOfAll 4 = .ok (.iload_n 2, 1) := by decide +kernel
theorem dX1_paidHoursOfAll_5 : decode cX1_paidHoursOfAll 5 = .ok (.aload_n 0, 1) := by decide +kernel
theorem dX1_paidHoursOfAll_6 : decode cX1_paidHoursOfAll 6 = .ok (.getfield 25, 3) := by decide +kernel
theorem dX1_paidHoursOfAll_9 : decode cX1_paidHoursOfAll 9 = .ok (.if_icmp .ge 21, 3) := by decide +kernel
theorem dX1_paidHoursOfAll_12 : decode cX1_paidHoursOfAll 12 = .ok (.iload_n 1, 1) := by decide +kernel
theorem dX1_paidHoursOfAll_13 : decode cX1_paidHoursOfAll 13 = .ok (.aload_n 0, 1) := by decide +kernel
theorem dX1_paidHoursOfAll_14 : decode cX1_paidHoursOfAll 14 = .ok (.getfield 20, 3) := by decide +kernel
theorem dX1_paidHoursOfAll_17 : decode cX1_paidHoursOfAll 17 = .ok (.iload_n 2, 1) := by decide +kernel
theorem dX1_paidHoursOfAll_18 : decode cX1_paidHoursOfAll 18 = .ok (.aaload, 1) := by decide +kernel
theorem dX1_paidHoursOfAll_19 : decode cX1_paidHoursOfAll 19 = .ok (.invokevirtual 111, 3) := by decide +kernel
theorem dX1_paidHoursOfAll_22 : decode cX1_paidHoursOfAll 22 = .ok (.iadd, 1) := by decide +kernel
theorem dX1_paidHoursOfAll_23 : decode cX1_paidHoursOfAll 23 = .ok (.istore_n 1, 1) := by decide +kernel
theorem dX1_paidHoursOfAll_24 : decode cX1_paidHoursOfAll 24 = .ok (.iinc 2 1, 3) := by decide +kernel
theorem dX1_paidHoursOfAll_27 : decode cX1_paidHoursOfAll 27 = .ok (.goto (-23), 3) := by decide +kernel
theorem dX1_paidHoursOfAll_30 : decode cX1_paidHoursOfAll 30 = .ok (.iload_n 1, 1) := by decide +kernel
theorem dX1_paidHoursOfAll_31 : decode cX1_paidHoursOfAll 31 = .ok (.ireturn, 1) := by decide +kernel
theorem dX1_drawsOfAll_0 : decode cX1_drawsOfAll 0 = .ok (.iconst 0, 1) := by decide +kernel
theorem dX1_drawsOfAll_1 : decode cX1_drawsOfAll 1 = .ok (.istore_n 1, 1) := by decide +kernel
theorem dX1_drawsOfAll_2 : decode cX1_drawsOfAll 2 = .ok (.iconst 0, 1) := by decide +kernel
theorem dX1_drawsOfAll_3 : decode cX1_drawsOfAll 3 = .ok (.istore_n 2, 1) := by decide +kernel
theorem dX1_drawsOfAll_4 : decode cX1_drawsOfAll 4 = .ok (.iload_n 2, 1) := by decide +kernel
theorem dX1_drawsOfAll_5 : decode cX1_drawsOfAll 5 = .ok (.aload_n 0, 1) := by decide +kernel
theorem dX1_drawsOfAll_6 : decode cX1_drawsOfAll 6 = .ok (.getfield 25, 3) := by decide +kernel
theorem dX1_drawsOfAll_9 : decode cX1_drawsOfAll 9 = .ok (.if_icmp .ge 28, 3) := by decide +kernel
theorem dX1_drawsOfAll_12 : decode cX1_drawsOfAll 12 = .ok (.iload_n 1, 1) := by decide +kernel
theorem dX1_drawsOfAll_13 : decode cX1_drawsOfAll 13 = .ok (.aload_n 0, 1) := by decide +kernel
theorem dX1_drawsOfAll_14 : decode cX1_drawsOfAll 14 = .ok (.getfield 20, 3) := by decide +kernel
theorem dX1_drawsOfAll_17 : decode cX1_drawsOfAll 17 = .ok (.iload_n 2, 1) := by decide +kernel
theorem dX1_drawsOfAll_18 : decode cX1_drawsOfAll 18 = .ok (.aaload, 1) := by decide +kernel
theorem dX1_drawsOfAll_19 : decode cX1_drawsOfAll 19 = .ok (.aload_n 0, 1) := by decide +kernel
theorem dX1_drawsOfAll_20 : decode cX1_drawsOfAll 20 = .ok (.getfield 12, 3) := by decide +kernel
theorem dX1_drawsOfAll_23 : decode cX1_drawsOfAll 23 = .ok (.getfield 64, 3) := by decide +kernel
theorem dX1_drawsOfAll_26 : decode cX1_drawsOfAll 26 = .ok (.invokevirtual 53, 3) := by decide +kernel
theorem dX1_drawsOfAll_29 : decode cX1_drawsOfAll 29 = .ok (.iadd, 1) := by decide +kernel
theorem dX1_drawsOfAll_30 : decode cX1_drawsOfAll 30 = .ok (.istore_n 1, 1) := by decide +kernel
theorem dX1_drawsOfAll_31 : decode cX1_drawsOfAll 31 = .ok (.iinc 2 1, 3) := by decide +kernel
theorem dX1_drawsOfAll_34 : decode cX1_drawsOfAll 34 = .ok (.goto (-30), 3) := by decide +kernel
theorem dX1_drawsOfAll_37 : decode cX1_drawsOfAll 37 = .ok (.iload_n 1, 1) := by decide +kernel
theorem dX1_drawsOfAll_38 : decode cX1_drawsOfAll 38 = .ok (.ireturn, 1) := by decide +kernel
theorem dX1_forked_0 : decode cX1_forked 0 = .ok (.aload_n 0, 1) := by decide +kernel
theorem dX1_forked_1 : decode cX1_forked 1 = .ok (.getfield 20, 3) := by decide +kernel
theorem dX1_forked_4 : decode cX1_forked 4 = .ok (.iload_n 1, 1) := by decide +kernel
theorem dX1_forked_5 : decode cX1_forked 5 = .ok (.aaload, 1) := by decide +kernel
theorem dX1_forked_6 : decode cX1_forked 6 = .ok (.aload_n 0, 1) := by decide +kernel
theorem dX1_forked_7 : decode cX1_forked 7 = .ok (.getfield 12, 3) := by decide +kernel
theorem dX1_forked_10 : decode cX1_forked 10 = .ok (.getfield 64, 3) := by decide +kernel
theorem dX1_forked_13 : decode cX1_forked 13 = .ok (.invokevirtual 53, 3) := by decide +kernel
theorem dX1_forked_16 : decode cX1_forked 16 = .ok (.aload_n 0, 1) := by decide +kernel
theorem dX1_forked_17 : decode cX1_forked 17 = .ok (.getfield 12, 3) := by decide +kernel
theorem dX1_forked_20 : decode cX1_forked 20 = .ok (.getfield 78, 3) := by decide +kernel
theorem dX1_forked_23 : decode cX1_forked 23 = .ok (.imul, 1) := by decide +kernel
theorem dX1_forked_24 : decode cX1_forked 24 = .ok (.ireturn, 1) := by decide +kernel
theorem dX1_paidRods_0 : decode cX1_paidRods 0 = .ok (.iconst 0, 1) := by decide +kernel
theorem dX1_paidRods_1 : decode cX1_paidRods 1 = .ok (.istore_n 1, 1) := by decide +kernel
theorem dX1_paidRods_2 : decode cX1_paidRods 2 = .ok (.iconst 0, 1) := by decide +kernel
theorem dX1_paidRods_3 : decode cX1_paidRods 3 = .ok (.istore_n 2, 1) := by decide +kernel
theorem dX1_paidRods_4 : decode cX1_paidRods 4 = .ok (.iload_n 2, 1) := by decide +kernel
theorem dX1_paidRods_5 : decode cX1_paidRods 5 = .ok (.aload_n 0, 1) := by decide +kernel
theorem dX1_paidRods_6 : decode cX1_paidRods 6 = .ok (.getfield 25, 3) := by decide +kernel
theorem dX1_paidRods_9 : decode cX1_paidRods 9 = .ok (.if_icmp .ge 31, 3) := by decide +kernel
theorem dX1_paidRods_12 : decode cX1_paidRods 12 = .ok (.aload_n 0, 1) := by decide +kernel
theorem dX1_paidRods_13 : decode cX1_paidRods 13 = .ok (.getfield 20, 3) := by decide +kernel
theorem dX1_paidRods_16 : decode cX1_paidRods 16 = .ok (.iload_n 2, 1) := by decide +kernel
theorem dX1_paidRods_17 : decode cX1_paidRods 17 = .ok (.aaload, 1) := by decide +kernel
theorem dX1_paidRods_18 : decode cX1_paidRods 18 = .ok (.aload_n 0, 1) := by decide +kernel
theorem dX1_paidRods_19 : decode cX1_paidRods 19 = .ok (.invokevirtual 81, 3) := by decide +kernel
theorem dX1_paidRods_22 : decode cX1_paidRods 22 = .ok (.invokevirtual 114, 3) := by decide +kernel
theorem dX1_paidRods_25 : decode cX1_paidRods 25 = .ok (.ifCond .eq 9, 3) := by decide +kernel
theorem dX1_paidRods_28 : decode cX1_paidRods 28 = .ok (.iload_n 1, 1) := by decide +kernel
theorem dX1_paidRods_29 : decode cX1_paidRods 29 = .ok (.iconst 1, 1) := by decide +kernel
theorem dX1_paidRods_30 : decode cX1_paidRods 30 = .ok (.iload_n 2, 1) := by decide +kernel
theorem dX1_paidRods_31 : decode cX1_paidRods 31 = .ok (.ishl, 1) := by decide +kernel
theorem dX1_paidRods_32 : decode cX1_paidRods 32 = .ok (.ior, 1) := by decide +kernel
theorem dX1_paidRods_33 : decode cX1_paidRods 33 = .ok (.istore_n 1, 1) := by decide +kernel
theorem dX1_paidRods_34 : decode cX1_paidRods 34 = .ok (.iinc 2 1, 3) := by decide +kernel
theorem dX1_paidRods_37 : decode cX1_paidRods 37 = .ok (.goto (-33), 3) := by decide +kernel
theorem dX1_paidRods_40 : decode cX1_paidRods 40 = .ok (.iload_n 1, 1) := by decide +kernel
theorem dX1_paidRods_41 : decode cX1_paidRods 41 = .ok (.ireturn, 1) := by decide +kernel
theorem dX3_init_0 : decode cX3_init 0 = .ok (.aload_n 0, 1) := by decide +kernel
theorem dX3_init_1 : decode cX3_init 1 = .ok (.invokespecial 3, 3) := by decide +kernel
theorem dX3_init_4 : decode cX3_init 4 = .ok (.return_, 1) := by decide +kernel
theorem dX3_becomeNew_0 : decode cX3_becomeNew 0 = .ok (.aload_n 0, 1) := by decide +kernel
theorem dX3_becomeNew_1 : decode cX3_becomeNew 1 = .ok (.iload_n 1, 1) := by decide +kernel
theorem dX3_becomeNew_2 : decode cX3_becomeNew 2 = .ok (.putfield 9, 3) := by decide +kernel
theorem dX3_becomeNew_5 : decode cX3_becomeNew 5 = .ok (.aload_n 0, 1) := by decide +kernel
theorem dX3_becomeNew_6 : decode cX3_becomeNew 6 = .ok (.iload_n 2, 1) := by decide +kernel
theorem dX3_becomeNew_7 : decode cX3_becomeNew 7 = .ok (.putfield 15, 3) := by decide +kernel
theorem dX3_becomeNew_10 : decode cX3_becomeNew 10 = .ok (.aload_n 0, 1) := by decide +kernel
theorem dX3_becomeNew_11 : decode cX3_becomeNew 11 = .ok (.bipush 10, 2) := by decide +kernel
theorem dX3_becomeNew_13 : decode cX3_becomeNew 13 = .ok (.putfield 18, 3) := by decide +kernel
theorem dX3_becomeNew_16 : decode cX3_becomeNew 16 = .ok (.aload_n 0, 1) := by decide +kernel
theorem dX3_becomeNew_17 : decode cX3_becomeNew 17 = .ok (.iconst 0, 1) := by decide +kernel
theorem dX3_becomeNew_18 : decode cX3_becomeNew 18 = .ok (.putfield 21, 3) := by decide +kernel
theorem dX3_becomeNew_21 : decode cX3_becomeNew 21 = .ok (.aload_n 0, 1) := by decide +kernel
theorem dX3_becomeNew_22 : decode cX3_becomeNew 22 = .ok (.iconst 0, 1) := by decide +kernel
theorem dX3_becomeNew_23 : decode cX3_becomeNew 23 = .ok (.putfield 24, 3) := by decide +kernel
theorem dX3_becomeNew_26 : decode cX3_becomeNew 26 = .ok (.aload_n 0, 1) := by decide +kernel
theorem dX3_becomeNew_27 : decode cX3_becomeNew 27 = .ok (.iconst 0, 1) := by decide +kernel
theorem dX3_becomeNew_28 : decode cX3_becomeNew 28 = .ok (.putfield 27, 3) := by decide +kernel
theorem dX3_becomeNew_31 : decode cX3_becomeNew 31 = .ok (.aload_n 0, 1) := by decide +kernel
theorem dX3_becomeNew_32 : decode cX3_becomeNew 32 = .ok (.iconst 0, 1) := by decide +kernel
theorem dX3_becomeNew_33 : decode cX3_becomeNew 33 = .ok (.putfield 30, 3) := by decide +kernel
theorem dX3_becomeNew_36 : decode cX3_becomeNew 36 = .ok (.return_, 1) := by decide +kernel
theorem dX3_takeFrom_0 : decode cX3_takeFrom 0 = .ok (.aload_n 0, 1) := by decide +kernel
theorem dX3_takeFrom_1 : decode cX3_takeFrom 1 = .ok (.aload_n 1, 1) := by decide +kernel
theorem dX3_takeFrom_2 : decode cX3_takeFrom 2 = .ok (.getfield 9, 3) := by decide +kernel
theorem dX3_takeFrom_5 : decode cX3_takeFrom 5 = .ok (.putfield 9, 3) := by decide +kernel
theorem dX3_takeFrom_8 : decode cX3_takeFrom 8 = .ok (.aload_n 0, 1) := by decide +kernel
theorem dX3_takeFrom_9 : decode cX3_takeFrom 9 = .ok (.aload_n 1, 1) := by decide +kernel
theorem dX3_takeFrom_10 : decode cX3_takeFrom 10 = .ok (.getfield 15, 3) := by decide +kernel
theorem dX3_takeFrom_13 : decode cX3_takeFrom 13 = .ok (.putfield 15, 3) := by decide +kernel
theorem dX3_takeFrom_16 : decode cX3_takeFrom 16 = .ok (.aload_n 0, 1) := by decide +kernel
theorem dX3_takeFrom_17 : decode cX3_takeFrom 17 = .ok (.aload_n 1, 1) := by decide +kernel
theorem dX3_takeFrom_18 : decode cX3_takeFrom 18 = .ok (.getfield 18, 3) := by decide +kernel
theorem dX3_takeFrom_21 : decode cX3_takeFrom 21 = .ok (.putfield 18, 3) := by decide +kernel
theorem dX3_takeFrom_24 : decode cX3_takeFrom 24 = .ok (.aload_n 0, 1) := by decide +kernel
theorem dX3_takeFrom_25 : decode cX3_takeFrom 25 = .ok (.aload_n 1, 1) := by decide +kernel
theorem dX3_takeFrom_26 : decode cX3_takeFrom 26 = .ok (.getfield 21, 3) := by decide +kernel
theorem dX3_takeFrom_29 : decode cX3_takeFrom 29 = .ok (.putfield 21, 3) := by decide +kernel
theorem dX3_takeFrom_32 : decode cX3_takeFrom 32 = .ok (.aload_n 0, 1) := by decide +kernel
theorem dX3_takeFrom_33 : decode cX3_takeFrom 33 = .ok (.aload_n 1, 1) := by decide +kernel
theorem dX3_takeFrom_34 : decode cX3_takeFrom 34 = .ok (.getfield 24, 3) := by decide +kernel
theorem dX3_takeFrom_37 : decode cX3_takeFrom 37 = .ok (.putfield 24, 3) := by decide +kernel
theorem dX3_takeFrom_40 : decode cX3_takeFrom 40 = .ok (.aload_n 0, 1) := by decide +kernel
theorem dX3_takeFrom_41 : decode cX3_takeFrom 41 = .ok (.aload_n 1, 1) := by decide +kernel
theorem dX3_takeFrom_42 : decode cX3_takeFrom 42 = .ok (.getfield 27, 3) := by decide +kernel
theorem dX3_takeFrom_45 : decode cX3_takeFrom 45 = .ok (.putfield 27, 3) := by decide +kernel
theorem dX3_takeFrom_48 : decode cX3_takeFrom 48 = .ok (.aload_n 0, 1) := by decide +kernel
theorem dX3_takeFrom_49 : decode cX3_takeFrom 49 = .ok (.aload_n 1, 1) := by decide +kernel
theorem dX3_takeFrom_50 : decode cX3_takeFrom 50 = .ok (.getfield 30, 3) := by decide +kernel
theorem dX3_takeFrom_53 : decode cX3_takeFrom 53 = .ok (.putfield 30, 3) := by decide +kernel
theorem dX3_takeFrom_56 : decode cX3_takeFrom 56 = .ok (.return_, 1) := by decide +kernel
theorem dX3_part_0 : decode cX3_part 0 = .ok (.iload_n 1, 1) := by decide +kernel
theorem dX3_part_1 : decode cX3_part 1 = .ok (.tableswitch 69 0 5 #[39, 44, 49, 54, 59, 64], 39) := by decide +kernel
theorem dX3_part_40 : decode cX3_part 40 = .ok (.aload_n 0, 1) := by decide +kernel
theorem dX3_part_41 : decode cX3_part 41 = .ok (.getfield 9, 3) := by decide +kernel
theorem dX3_part_44 : decode cX3_part 44 = .ok (.ireturn, 1) := by decide +kernel
theorem dX3_part_45 : decode cX3_part 45 = .ok (.aload_n 0, 1) := by decide +kernel
theorem dX3_part_46 : decode cX3_part 46 = .ok (.getfield 15, 3) := by decide +kernel
theorem dX3_part_49 : decode cX3_part 49 = .ok (.ireturn, 1) := by decide +kernel
theorem dX3_part_50 : decode cX3_part 50 = .ok (.aload_n 0, 1) := by decide +kernel
theorem dX3_part_51 : decode cX3_part 51 = .ok (.getfield 18, 3) := by decide +kernel
theorem dX3_part_54 : decode cX3_part 54 = .ok (.ireturn, 1) := by decide +kernel
theorem dX3_part_55 : decode cX3_part 55 = .ok (.aload_n 0, 1) := by decide +kernel
theorem dX3_part_56 : decode cX3_part 56 = .ok (.getfield 21, 3) := by decide +kernel
theorem dX3_part_59 : decode cX3_part 59 = .ok (.ireturn, 1) := by decide +kernel
theorem dX3_part_60 : decode cX3_part 60 = .ok (.aload_n 0, 1) := by decide +kernel
theorem dX3_part_61 : decode cX3_part 61 = .ok (.getfield 24, 3) := by decide +kernel
theorem dX3_part_64 : decode cX3_part 64 = .ok (.ireturn, 1) := by decide +kernel
theorem dX3_part_65 : decode cX3_part 65 = .ok (.aload_n 0, 1) := by decide +kernel
theorem dX3_part_66 : decode cX3_part 66 = .ok (.getfield 27, 3) := by decide +kernel
theorem dX3_part_69 : decode cX3_part 69 = .ok (.ireturn, 1) := by decide +kernel
theorem dX3_part_70 : decode cX3_part 70 = .ok (.aload_n 0, 1) := by decide +kernel
theorem dX3_part_71 : decode cX3_part 71 = .ok (.getfield 30, 3) := by decide +kernel
theorem dX3_part_74 : decode cX3_part 74 = .ok (.ireturn, 1) := by decide +kernel
theorem dX3_isOf_0 : decode cX3_isOf 0 = .ok (.iload_n 1, 1) := by decide +kernel
theorem dX3_isOf_1 : decode cX3_isOf 1 = .ok (.aload_n 0, 1) := by decide +kernel
theorem dX3_isOf_2 : decode cX3_isOf 2 = .ok (.getfield 9, 3) := by decide +kernel
theorem dX3_isOf_5 : decode cX3_isOf 5 = .ok (.if_icmp .eq 7, 3) := by decide +kernel
theorem dX3_isOf_8 : decode cX3_isOf 8 = .ok (.iload_n 1, 1) := by decide +kernel
theorem dX3_isOf_9 : decode cX3_isOf 9 = .ok (.ifCond .ne 5, 3) := by decide +kernel
theorem dX3_isOf_12 : decode cX3_isOf 12 = .ok (.iconst 1, 1) := by decide +kernel
theorem dX3_isOf_13 : decode cX3_isOf 13 = .ok (.ireturn, 1) := by decide +kernel
theorem dX3_isOf_14 : decode cX3_isOf 14 = .ok (.aload_n 0, 1) := by decide +kernel
theorem dX3_isOf_15 : decode cX3_isOf 15 = .ok (.getfield 9, 3) := by decide +kernel
theorem dX3_isOf_18 : decode cX3_isOf 18 = .ok (.iconst 4, 1) := by decide +kernel
theorem dX3_isOf_19 : decode cX3_isOf 19 = .ok (.if_icmp .ne 8, 3) := by decide +kernel
theorem dX3_isOf_22 : decode cX3_isOf 22 = .ok (.iload_n 1, 1) := by decide +kernel
theorem dX3_isOf_23 : decode cX3_isOf 23 = .ok (.iconst 1, 1) := by decide +kernel
theorem dX3_isOf_24 : decode cX3_isOf 24 = .ok (.if_icmp .eq 16, 3) := by decide +kernel
theorem dX3_isOf_27 : decode cX3_isOf 27 = .ok (.aload_n 0, 1) := by decide +kernel
theorem dX3_isOf_28 : decode cX3_isOf 28 = .ok (.getfield 9, 3) := by decide +kernel
theorem dX3_isOf_31 : decode cX3_isOf 31 = .ok (.iconst 5, 1) := by decide +kernel
theorem dX3_isOf_32 : decode cX3_isOf 32 = .ok (.if_icmp .ne 12, 3) := by decide +kernel
theorem dX3_isOf_35 : decode cX3_isOf 35 = .ok (.iload_n 1, 1) := by decide +kernel
theorem dX3_isOf_36 : decode cX3_isOf 36 = .ok (.iconst 2, 1) := by decide +kernel
theorem dX3_isOf_37 : decode cX3_isOf 37 = .ok (.if_icmp .ne 7, 3) := by decide +kernel
theorem dX3_isOf_40 : decode cX3_isOf 40 = .ok (.iconst 1, 1) := by decide +kernel
theorem dX3_isOf_41 : decode cX3_isOf 41 = .ok (.goto 4, 3) := by decide +kernel
theorem dX3_isOf_44 : decode cX3_isOf 44 = .ok (.iconst 0, 1) := by decide +kernel
theorem dX3_isOf_45 : decode cX3_isOf 45 = .ok (.ireturn, 1) := by decide +kernel
theorem dX3_drawsFrom_0 : decode cX3_drawsFrom 0 = .ok (.aload_n 0, 1) := by decide +kernel
theorem dX3_drawsFrom_1 : decode cX3_drawsFrom 1 = .ok (.getfield 18, 3) := by decide +kernel
theorem dX3_drawsFrom_4 : decode cX3_drawsFrom 4 = .ok (.iconst 4, 1) := by decide +kernel
theorem dX3_drawsFrom_5 : decode cX3_drawsFrom 5 = .ok (.aload_n 0, 1) := by decide +kernel
theorem dX3_drawsFrom_6 : decode cX3_drawsFrom 6 = .ok (.getfield 15, 3) := by decide +kernel
theorem dX3_drawsFrom_9 : decode cX3_drawsFrom 9 = .ok (.iload_n 1, 1) := by decide +kernel
theorem dX3_drawsFrom_10 : decode cX3_drawsFrom 10 = .ok (.isub, 1) := by decide +kernel
theorem dX3_drawsFrom_11 : decode cX3_drawsFrom 11 = .ok (.invokestatic 33, 3) := by decide +kernel
theorem dX3_drawsFrom_14 : decode cX3_drawsFrom 14 = .ok (.imul, 1) := by decide +kernel
theorem dX3_drawsFrom_15 : decode cX3_drawsFrom 15 = .ok (.isub, 1) := by decide +kernel
theorem dX3_drawsFrom_16 : decode cX3_drawsFrom 16 = .ok (.iconst 0, 1) := by decide +kernel
theorem dX3_drawsFrom_17 : decode cX3_drawsFrom 17 = .ok (.invokestatic 39, 3) := by decide +kernel
theorem dX3_drawsFrom_20 : decode cX3_drawsFrom 20 = .ok (.istore_n 2, 1) := by decide +kernel
theorem dX3_drawsFrom_21 : decode cX3_drawsFrom 21 = .ok (.iload_n 2, 1) := by decide +kernel
theorem dX3_drawsFrom_22 : decode cX3_drawsFrom 22 = .ok (.bipush 8, 2) := by decide +kernel
theorem dX3_drawsFrom_24 : decode cX3_drawsFrom 24 = .ok (.iadd, 1) := by decide +kernel
theorem dX3_drawsFrom_25 : decode cX3_drawsFrom 25 = .ok (.istore_n 3, 1) := by decide +kernel
theorem dX3_drawsFrom_26 : decode cX3_drawsFrom 26 = .ok (.iload_n 2, 1) := by decide +kernel
theorem dX3_drawsFrom_27 : decode cX3_drawsFrom 27 = .ok (.aload_n 0, 1) := by decide +kernel
theorem dX3_drawsFrom_28 : decode cX3_drawsFrom 28 = .ok (.getfield 18, 3) := by decide +kernel
theorem dX3_drawsFrom_31 : decode cX3_drawsFrom 31 = .ok (.iadd, 1) := by decide +kernel
theorem dX3_drawsFrom_32 : decode cX3_drawsFrom 32 = .ok (.istore 4, 2) := by decide +kernel
theorem dX3_drawsFrom_34 : decode cX3_drawsFrom 34 = .ok (.aload_n 0, 1) := by decide +kernel
theorem dX3_drawsFrom_35 : decode cX3_drawsFrom 35 = .ok (.getfield 9, 3) := by decide +kernel
theorem dX3_drawsFrom_38 : decode cX3_drawsFrom 38 = .ok (.tableswitch 62 1 5 #[34, 36, 39, 47, 52], 34) := by decide +kernel
theorem dX3_drawsFrom_72 : decode cX3_drawsFrom 72 = .ok (.iload_n 3, 1) := by decide +kernel
theorem dX3_drawsFrom_73 : decode cX3_drawsFrom 73 = .ok (.ireturn, 1) := by decide +kernel
theorem dX3_drawsFrom_74 : decode cX3_drawsFrom 74 = .ok (.iload 4, 2) := by decide +kernel
theorem dX3_drawsFrom_76 : decode cX3_drawsFrom 76 = .ok (.ireturn, 1) := by decide +kernel
theorem dX3_drawsFrom_77 : decode cX3_drawsFrom 77 = .ok (.iload_n 2, 1) := by decide +kernel
theorem dX3_drawsFrom_78 : decode cX3_drawsFrom 78 = .ok (.iconst 3, 1) := by decide +kernel
theorem dX3_drawsFrom_79 : decode cX3_drawsFrom 79 = .ok (.isub, 1) := by decide +kernel
theorem dX3_drawsFrom_80 : decode cX3_drawsFrom 80 = .ok (.iconst 0, 1) := by decide +kernel
theorem dX3_drawsFrom_81 : decode cX3_drawsFrom 81 = .ok (.invokestatic 39, 3) := by decide +kernel
theorem dX3_drawsFrom_84 : decode cX3_drawsFrom 84 = .ok (.ireturn, 1) := by decide +kernel
theorem dX3_drawsFrom_85 : decode cX3_drawsFrom 85 = .ok (.iload_n 3, 1) := by decide +kernel
theorem dX3_drawsFrom_86 : decode cX3_drawsFrom 86 = .ok (.bipush 20, 2) := by decide +kernel
theorem dX3_drawsFrom_88 : decode cX3_drawsFrom 88 = .ok (.iadd, 1) := by decide +kernel
theorem dX3_drawsFrom_89 : decode cX3_drawsFrom 89 = .ok (.ireturn, 1) := by decide +kernel
theorem dX3_drawsFrom_90 : decode cX3_drawsFrom 90 = .ok (.iload 4, 2) := by decide +kernel
theorem dX3_drawsFrom_92 : decode cX3_drawsFrom 92 = .ok (.bipush 10, 2) := by decide +kernel
theorem dX3_drawsFrom_94 : decode cX3_drawsFrom 94 = .ok (.isub, 1) := by decide +kernel
theorem dX3_drawsFrom_95 : decode cX3_drawsFrom 95 = .ok (.iconst 0, 1) := by decide +kernel
theorem dX3_drawsFrom_96 : decode cX3_drawsFrom 96 = .ok (.invokestatic 39, 3) := by decide +kernel
theorem dX3_drawsFrom_99 : decode cX3_drawsFrom 99 = .ok (.ireturn, 1) := by decide +kernel
theorem dX3_drawsFrom_100 : decode cX3_drawsFrom 100 = .ok (.iload_n 2, 1) := by decide +kernel
theorem dX3_drawsFrom_101 : decode cX3_drawsFrom 101 = .ok (.ireturn, 1) := by decide +kernel
theorem dX3_owesFor_0 : decode cX3_owesFor 0 = .ok (.aload_n 0, 1) := by decide +kernel
theorem dX3_owesFor_1 : decode cX3_owesFor 1 = .ok (.iload_n 2, 1) := by decide +kernel
theorem dX3_owesFor_2 : decode cX3_owesFor 2 = .ok (.invokevirtual 43, 3) := by decide +kernel
theorem dX3_owesFor_5 : decode cX3_owesFor 5 = .ok (.ifCond .eq 7, 3) := by decide +kernel
theorem dX3_owesFor_8 : decode cX3_owesFor 8 = .ok (.iload_n 1, 1) := by decide +kernel
theorem dX3_owesFor_9 : decode cX3_owesFor 9 = .ok (.goto 4, 3) := by decide +kernel
theorem dX3_owesFor_12 : decode cX3_owesFor 12 = .ok (.iconst 0, 1) := by decide +kernel
theorem dX3_owesFor_13 : decode cX3_owesFor 13 = .ok (.istore_n 3, 1) := by decide +kernel
theorem dX3_owesFor_14 : decode cX3_owesFor 14 = .ok (.iload_n 3, 1) := by decide +kernel
theorem dX3_owesFor_15 : decode cX3_owesFor 15 = .ok (.iload_n 3, 1) := by decide +kernel
theorem dX3_owesFor_16 : decode cX3_owesFor 16 = .ok (.bipush 10, 2) := by decide +kernel
theorem dX3_owesFor_18 : decode cX3_owesFor 18 = .ok (.idiv, 1) := by decide +kernel
theorem dX3_owesFor_19 : decode cX3_owesFor 19 = .ok (.isub, 1) := by decide +kernel
theorem dX3_owesFor_20 : decode cX3_owesFor 20 = .ok (.istore 4, 2) := by decide +kernel
theorem dX3_owesFor_22 : decode cX3_owesFor 22 = .ok (.aload_n 0, 1) := by decide +kernel
theorem dX3_owesFor_23 : decode cX3_owesFor 23 = .ok (.getfield 9, 3) := by decide +kernel
theorem dX3_owesFor_26 : decode cX3_owesFor 26 = .ok (.tableswitch 46 1 5 #[34, 46, 37, 39, 44], 34) := by decide +kernel
theorem dX3_owesFor_60 : decode cX3_owesFor 60 = .ok (.iload 4, 2) := by decide +kernel
theorem dX3_owesFor_62 : decode cX3_owesFor 62 = .ok (.ireturn, 1) := by decide +kernel
theorem dX3_owesFor_63 : decode cX3_owesFor 63 = .ok (.iconst 0, 1) := by decide +kernel
theorem dX3_owesFor_64 : decode cX3_owesFor 64 = .ok (.ireturn, 1) := by decide +kernel
theorem dX3_owesFor_65 : decode cX3_owesFor 65 = .ok (.iload 4, 2) := by decide +kernel
theorem dX3_owesFor_67 : decode cX3_owesFor 67 = .ok (.iconst 2, 1) := by decide +kernel
theorem dX3_owesFor_68 : decode cX3_owesFor 68 = .ok (.idiv, 1) := by decide +kernel
theorem dX3_owesFor_69 : decode cX3_owesFor 69 = .ok (.ireturn, 1) := by decide +kernel
theorem dX3_owesFor_70 : decode cX3_owesFor 70 = .ok (.iconst 0, 1) := by decide +kernel
theorem dX3_owesFor_71 : decode cX3_owesFor 71 = .ok (.ireturn, 1) := by decide +kernel
theorem dX3_owesFor_72 : decode cX3_owesFor 72 = .ok (.iload_n 3, 1) := by decide +kernel
theorem dX3_owesFor_73 : decode cX3_owesFor 73 = .ok (.ireturn, 1) := by decide +kernel
theorem dX3_paidHours_0 : decode cX3_paidHours 0 = .ok (.aload_n 0, 1) := by decide +kernel
theorem dX3_paidHours_1 : decode cX3_paidHours 1 = .ok (.getfield 24, 3) := by decide +kernel
theorem dX3_paidHours_4 : decode cX3_paidHours 4 = .ok (.aload_n 0, 1) := by decide +kernel
theorem dX3_paidHours_5 : decode cX3_paidHours 5 = .ok (.getfield 21, 3) := by decide +kernel
theorem dX3_paidHours_8 : decode cX3_paidHours 8 = .ok (.isub, 1) := by decide +kernel
theorem dX3_paidHours_9 : decode cX3_paidHours 9 = .ok (.bipush 24, 2) := by decide +kernel
theorem dX3_paidHours_11 : decode cX3_paidHours 11 = .ok (.iadd, 1) := by decide +kernel
theorem dX3_paidHours_12 : decode cX3_paidHours 12 = .ok (.bipush 24, 2) := by decide +kernel
theorem dX3_paidHours_14 : decode cX3_paidHours 14 = .ok (.irem, 1) := by decide +kernel
theorem dX3_paidHours_15 : decode cX3_paidHours 15 = .ok (.ireturn, 1) := by decide +kernel
theorem dX3_isPaidAt_0 : decode cX3_isPaidAt 0 = .ok (.iload_n 1, 1) := by decide +kernel
theorem dX3_isPaidAt_1 : decode cX3_isPaidAt 1 = .ok (.aload_n 0, 1) := by decide +kernel
theorem dX3_isPaidAt_2 : decode cX3_isPaidAt 2 = .ok (.getfield 21, 3) := by decide +kernel
theorem dX3_isPaidAt_5 : decode cX3_isPaidAt 5 = .ok (.isub, 1) := by decide +kernel
theorem dX3_isPaidAt_6 : decode cX3_isPaidAt 6 = .ok (.bipush 24, 2) := by decide +kernel
theorem dX3_isPaidAt_8 : decode cX3_isPaidAt 8 = .ok (.iadd, 1) := by decide +kernel
theorem dX3_isPaidAt_9 : decode cX3_isPaidAt 9 = .ok (.bipush 24, 2) := by decide +kernel
theorem dX3_isPaidAt_11 : decode cX3_isPaidAt 11 = .ok (.irem, 1) := by decide +kernel
theorem dX3_isPaidAt_12 : decode cX3_isPaidAt 12 = .ok (.aload_n 0, 1) := by decide +kernel
theorem dX3_isPaidAt_13 : decode cX3_isPaidAt 13 = .ok (.invokevirtual 47, 3) := by decide +kernel
theorem dX3_isPaidAt_16 : decode cX3_isPaidAt 16 = .ok (.if_icmp .ge 7, 3) := by decide +kernel
theorem dX3_isPaidAt_19 : decode cX3_isPaidAt 19 = .ok (.iconst 1, 1) := by decide +kernel
theorem dX3_isPaidAt_20 : decode cX3_isPaidAt 20 = .ok (.goto 4, 3) := by decide +kernel
theorem dX3_isPaidAt_23 : decode cX3_isPaidAt 23 = .ok (.iconst 0, 1) := by decide +kernel
theorem dX3_isPaidAt_24 : decode cX3_isPaidAt 24 = .ok (.ireturn, 1) := by decide +kernel
theorem dJ6_numberOfLeadingZeros_0 : decode cJ6_numberOfLeadingZeros 0 = .ok (.iload_n 0, 1) := by decide +kernel
theorem dJ6_numberOfLeadingZeros_1 : decode cJ6_numberOfLeadingZeros 1 = .ok (.ifCond .gt 14, 3) := by decide +kernel
theorem dJ6_numberOfLeadingZeros_4 : decode cJ6_numberOfLeadingZeros 4 = .ok (.iload_n 0, 1) := by decide +kernel
theorem dJ6_numberOfLeadingZeros_5 : decode cJ6_numberOfLeadingZeros 5 = .ok (.ifCond .ne 8, 3) := by decide +kernel
theorem dJ6_numberOfLeadingZeros_8 : decode cJ6_numberOfLeadingZeros 8 = .ok (.bipush 32, 2) := by decide +kernel
theorem dJ6_numberOfLeadingZeros_10 : decode cJ6_numberOfLeadingZeros 10 = .ok (.goto 4, 3) := by decide +kernel
theorem dJ6_numberOfLeadingZeros_13 : decode cJ6_numberOfLeadingZeros 13 = .ok (.iconst 0, 1) := by decide +kernel
theorem dJ6_numberOfLeadingZeros_14 : decode cJ6_numberOfLeadingZeros 14 = .ok (.ireturn, 1) := by decide +kernel
theorem dJ6_numberOfLeadingZeros_15 : decode cJ6_numberOfLeadingZeros 15 = .ok (.bipush 31, 2) := by decide +kernel
theorem dJ6_numberOfLeadingZeros_17 : decode cJ6_numberOfLeadingZeros 17 = .ok (.istore_n 1, 1) := by decide +kernel
theorem dJ6_numberOfLeadingZeros_18 : decode cJ6_numberOfLeadingZeros 18 = .ok (.iload_n 0, 1) := by decide +kernel
theorem dJ6_numberOfLeadingZeros_19 : decode cJ6_numberOfLeadingZeros 19 = .ok (.ldc_w 264, 3) := by decide +kernel
theorem dJ6_numberOfLeadingZeros_22 : decode cJ6_numberOfLeadingZeros 22 = .ok (.if_icmp .lt 11, 3) := by decide +kernel
theorem dJ6_numberOfLeadingZeros_25 : decode cJ6_numberOfLeadingZeros 25 = .ok (.iinc 1 (-16), 3) := by decide +kernel
theorem dJ6_numberOfLeadingZeros_28 : decode cJ6_numberOfLeadingZeros 28 = .ok (.iload_n 0, 1) := by decide +kernel
theorem dJ6_numberOfLeadingZeros_29 : decode cJ6_numberOfLeadingZeros 29 = .ok (.bipush 16, 2) := by decide +kernel
theorem dJ6_numberOfLeadingZeros_31 : decode cJ6_numberOfLeadingZeros 31 = .ok (.iushr, 1) := by decide +kernel
theorem dJ6_numberOfLeadingZeros_32 : decode cJ6_numberOfLeadingZeros 32 = .ok (.istore_n 0, 1) := by decide +kernel
theorem dJ6_numberOfLeadingZeros_33 : decode cJ6_numberOfLeadingZeros 33 = .ok (.iload_n 0, 1) := by decide +kernel
theorem dJ6_numberOfLeadingZeros_34 : decode cJ6_numberOfLeadingZeros 34 = .ok (.sipush 256, 3) := by decide +kernel
theorem dJ6_numberOfLeadingZeros_37 : decode cJ6_numberOfLeadingZeros 37 = .ok (.if_icmp .lt 11, 3) := by decide +kernel
theorem dJ6_numberOfLeadingZeros_40 : decode cJ6_numberOfLeadingZeros 40 = .ok (.iinc 1 (-8), 3) := by decide +kernel
theorem dJ6_numberOfLeadingZeros_43 : decode cJ6_numberOfLeadingZeros 43 = .ok (.iload_n 0, 1) := by decide +kernel
theorem dJ6_numberOfLeadingZeros_44 : decode cJ6_numberOfLeadingZeros 44 = .ok (.bipush 8, 2) := by decide +kernel
theorem dJ6_numberOfLeadingZeros_46 : decode cJ6_numberOfLeadingZeros 46 = .ok (.iushr, 1) := by decide +kernel
theorem dJ6_numberOfLeadingZeros_47 : decode cJ6_numberOfLeadingZeros 47 = .ok (.istore_n 0, 1) := by decide +kernel
theorem dJ6_numberOfLeadingZeros_48 : decode cJ6_numberOfLeadingZeros 48 = .ok (.iload_n 0, 1) := by decide +kernel
theorem dJ6_numberOfLeadingZeros_49 : decode cJ6_numberOfLeadingZeros 49 = .ok (.bipush 16, 2) := by decide +kernel
theorem dJ6_numberOfLeadingZeros_51 : decode cJ6_numberOfLeadingZeros 51 = .ok (.if_icmp .lt 10, 3) := by decide +kernel
theorem dJ6_numberOfLeadingZeros_54 : decode cJ6_numberOfLeadingZeros 54 = .ok (.iinc 1 (-4), 3) := by decide +kernel
theorem dJ6_numberOfLeadingZeros_57 : decode cJ6_numberOfLeadingZeros 57 = .ok (.iload_n 0, 1) := by decide +kernel
theorem dJ6_numberOfLeadingZeros_58 : decode cJ6_numberOfLeadingZeros 58 = .ok (.iconst 4, 1) := by decide +kernel
theorem dJ6_numberOfLeadingZeros_59 : decode cJ6_numberOfLeadingZeros 59 = .ok (.iushr, 1) := by decide +kernel
theorem dJ6_numberOfLeadingZeros_60 : decode cJ6_numberOfLeadingZeros 60 = .ok (.istore_n 0, 1) := by decide +kernel
theorem dJ6_numberOfLeadingZeros_61 : decode cJ6_numberOfLeadingZeros 61 = .ok (.iload_n 0, 1) := by decide +kernel
theorem dJ6_numberOfLeadingZeros_62 : decode cJ6_numberOfLeadingZeros 62 = .ok (.iconst 4, 1) := by decide +kernel
theorem dJ6_numberOfLeadingZeros_63 : decode cJ6_numberOfLeadingZeros 63 = .ok (.if_icmp .lt 10, 3) := by decide +kernel
theorem dJ6_numberOfLeadingZeros_66 : decode cJ6_numberOfLeadingZeros 66 = .ok (.iinc 1 (-2), 3) := by decide +kernel
theorem dJ6_numberOfLeadingZeros_69 : decode cJ6_numberOfLeadingZeros 69 = .ok (.iload_n 0, 1) := by decide +kernel
theorem dJ6_numberOfLeadingZeros_70 : decode cJ6_numberOfLeadingZeros 70 = .ok (.iconst 2, 1) := by decide +kernel
theorem dJ6_numberOfLeadingZeros_71 : decode cJ6_numberOfLeadingZeros 71 = .ok (.iushr, 1) := by decide +kernel
theorem dJ6_numberOfLeadingZeros_72 : decode cJ6_numberOfLeadingZeros 72 = .ok (.istore_n 0, 1) := by decide +kernel
theorem dJ6_numberOfLeadingZeros_73 : decode cJ6_numberOfLeadingZeros 73 = .ok (.iload_n 1, 1) := by decide +kernel
theorem dJ6_numberOfLeadingZeros_74 : decode cJ6_numberOfLeadingZeros 74 = .ok (.iload_n 0, 1) := by decide +kernel
theorem dJ6_numberOfLeadingZeros_75 : decode cJ6_numberOfLeadingZeros 75 = .ok (.iconst 1, 1) := by decide +kernel
theorem dJ6_numberOfLeadingZeros_76 : decode cJ6_numberOfLeadingZeros 76 = .ok (.iushr, 1) := by decide +kernel
theorem dJ6_numberOfLeadingZeros_77 : decode cJ6_numberOfLeadingZeros 77 = .ok (.isub, 1) := by decide +kernel
theorem dJ6_numberOfLeadingZeros_78 : decode cJ6_numberOfLeadingZeros 78 = .ok (.ireturn, 1) := by decide +kernel
theorem dJ9_abs_0 : decode cJ9_abs 0 = .ok (.iload_n 0, 1) := by decide +kernel
theorem dJ9_abs_1 : decode cJ9_abs 1 = .ok (.ifCond .ge 8, 3) := by decide +kernel
theorem dJ9_abs_4 : decode cJ9_abs 4 = .ok (.iload_n 0, 1) := by decide +kernel
theorem dJ9_abs_5 : decode cJ9_abs 5 = .ok (.ineg, 1) := by decide +kernel
theorem dJ9_abs_6 : decode cJ9_abs 6 = .ok (.goto 4, 3) := by decide +kernel
theorem dJ9_abs_9 : decode cJ9_abs 9 = .ok (.iload_n 0, 1) := by decide +kernel
theorem dJ9_abs_10 : decode cJ9_abs 10 = .ok (.ireturn, 1) := by decide +kernel
theorem dJ9_max_0 : decode cJ9_max 0 = .ok (.iload_n 0, 1) := by decide +kernel
theorem dJ9_max_1 : decode cJ9_max 1 = .ok (.iload_n 1, 1) := by decide +kernel
theorem dJ9_max_2 : decode cJ9_max 2 = .ok (.if_icmp .lt 7, 3) := by decide +kernel
theorem dJ9_max_5 : decode cJ9_max 5 = .ok (.iload_n 0, 1) := by decide +kernel
theorem dJ9_max_6 : decode cJ9_max 6 = .ok (.goto 4, 3) := by decide +kernel
theorem dJ9_max_9 : decode cJ9_max 9 = .ok (.iload_n 1, 1) := by decide +kernel
theorem dJ9_max_10 : decode cJ9_max 10 = .ok (.ireturn, 1) := by decide +kernel
theorem dJ9_min_0 : decode cJ9_min 0 = .ok (.iload_n 0, 1) := by decide +kernel
theorem dJ9_min_1 : decode cJ9_min 1 = .ok (.iload_n 1, 1) := by decide +kernel
theorem dJ9_min_2 : decode cJ9_min 2 = .ok (.if_icmp .gt 7, 3) := by decide +kernel
theorem dJ9_min_5 : decode cJ9_min 5 = .ok (.iload_n 0, 1) := by decide +kernel
theorem dJ9_min_6 : decode cJ9_min 6 = .ok (.goto 4, 3) := by decide +kernel
theorem dJ9_min_9 : decode cJ9_min 9 = .ok (.iload_n 1, 1) := by decide +kernel
theorem dJ9_min_10 : decode cJ9_min 10 = .ok (.ireturn, 1) := by decide +kernel
theorem dJ0_length_0 : decode cJ0_length 0 = .ok (.aload_n 0, 1) := by decide +kernel
theorem dJ0_length_1 : decode cJ0_length 1 = .ok (.getfield 9, 3) := by decide +kernel
theorem dJ0_length_4 : decode cJ0_length 4 = .ok (.arraylength, 1) := by decide +kernel
theorem dJ0_length_5 : decode cJ0_length 5 = .ok (.aload_n 0, 1) := by decide +kernel
theorem dJ0_length_6 : decode cJ0_length 6 = .ok (.invokevirtual 335, 3) := by decide +kernel
theorem dJ0_length_9 : decode cJ0_length 9 = .ok (.ishr, 1) := by decide +kernel
theorem dJ0_length_10 : decode cJ0_length 10 = .ok (.ireturn, 1) := by decide +kernel
theorem dJ0_charAt_0 : decode cJ0_charAt 0 = .ok (.aload_n 0, 1) := by decide +kernel
theorem dJ0_charAt_1 : decode cJ0_charAt 1 = .ok (.invokevirtual 492, 3) := by decide +kernel
theorem dJ0_charAt_4 : decode cJ0_charAt 4 = .ok (.ifCond .eq 12, 3) := by decide +kernel
theorem dJ0_charAt_7 : decode cJ0_charAt 7 = .ok (.aload_n 0, 1) := by decide +kernel
theorem dJ0_charAt_8 : decode cJ0_charAt 8 = .ok (.getfield 9, 3) := by decide +kernel
theorem dJ0_charAt_11 : decode cJ0_charAt 11 = .ok (.iload_n 1, 1) := by decide +kernel
theorem dJ0_charAt_12 : decode cJ0_charAt 12 = .ok (.invokestatic 495, 3) := by decide +kernel
theorem dJ0_charAt_15 : decode cJ0_charAt 15 = .ok (.ireturn, 1) := by decide +kernel
theorem dJ0_charAt_16 : decode cJ0_charAt 16 = .ok (.aload_n 0, 1) := by decide +kernel
theorem dJ0_charAt_17 : decode cJ0_charAt 17 = .ok (.getfield 9, 3) := by decide +kernel
theorem dJ0_charAt_20 : decode cJ0_charAt 20 = .ok (.iload_n 1, 1) := by decide +kernel
theorem dJ0_charAt_21 : decode cJ0_charAt 21 = .ok (.invokestatic 498, 3) := by decide +kernel
theorem dJ0_charAt_24 : decode cJ0_charAt 24 = .ok (.ireturn, 1) := by decide +kernel
theorem dJ0_coder_0 : decode cJ0_coder 0 = .ok (.getstatic 38, 3) := by decide +kernel
theorem dJ0_coder_3 : decode cJ0_coder 3 = .ok (.ifCond .eq 10, 3) := by decide +kernel
theorem dJ0_coder_6 : decode cJ0_coder 6 = .ok (.aload_n 0, 1) := by decide +kernel
theorem dJ0_coder_7 : decode cJ0_coder 7 = .ok (.getfield 15, 3) := by decide +kernel
theorem dJ0_coder_10 : decode cJ0_coder 10 = .ok (.goto 4, 3) := by decide +kernel
theorem dJ0_coder_13 : decode cJ0_coder 13 = .ok (.iconst 1, 1) := by decide +kernel
theorem dJ0_coder_14 : decode cJ0_coder 14 = .ok (.ireturn, 1) := by decide +kernel
theorem dJ0_isLatin1_0 : decode cJ0_isLatin1 0 = .ok (.getstatic 38, 3) := by decide +kernel
theorem dJ0_isLatin1_3 : decode cJ0_isLatin1 3 = .ok (.ifCond .eq 14, 3) := by decide +kernel
theorem dJ0_isLatin1_6 : decode cJ0_isLatin1 6 = .ok (.aload_n 0, 1) := by decide +kernel
theorem dJ0_isLatin1_7 : decode cJ0_isLatin1 7 = .ok (.getfield 15, 3) := by decide +kernel
theorem dJ0_isLatin1_10 : decode cJ0_isLatin1 10 = .ok (.ifCond .ne 7, 3) := by decide +kernel
theorem dJ0_isLatin1_13 : decode cJ0_isLatin1 13 = .ok (.iconst 1, 1) := by decide +kernel
theorem dJ0_isLatin1_14 : decode cJ0_isLatin1 14 = .ok (.goto 4, 3) := by decide +kernel
theorem dJ0_isLatin1_17 : decode cJ0_isLatin1 17 = .ok (.iconst 0, 1) := by decide +kernel
theorem dJ0_isLatin1_18 : decode cJ0_isLatin1 18 = .ok (.ireturn, 1) := by decide +kernel
theorem dJ0_checkIndex_0 : decode cJ0_checkIndex 0 = .ok (.iload_n 0, 1) := by decide +kernel
theorem dJ0_checkIndex_1 : decode cJ0_checkIndex 1 = .ok (.iload_n 1, 1) := by decide +kernel
theorem dJ0_checkIndex_2 : decode cJ0_checkIndex 2 = .ok (.getstatic 1053, 3) := by decide +kernel
theorem dJ0_checkIndex_5 : decode cJ0_checkIndex 5 = .ok (.invokestatic 1059, 3) := by decide +kernel
theorem dJ0_checkIndex_8 : decode cJ0_checkIndex 8 = .ok (.pop, 1) := by decide +kernel
theorem dJ0_checkIndex_9 : decode cJ0_checkIndex 9 = .ok (.return_, 1) := by decide +kernel
theorem dJ1_charAt_0 : decode cJ1_charAt 0 = .ok (.iload_n 1, 1) := by decide +kernel
theorem dJ1_charAt_1 : decode cJ1_charAt 1 = .ok (.aload_n 0, 1) := by decide +kernel
theorem dJ1_charAt_2 : decode cJ1_charAt 2 = .ok (.arraylength, 1) := by decide +kernel
theorem dJ1_charAt_3 : decode cJ1_charAt 3 = .ok (.invokestatic 9, 3) := by decide +kernel
theorem dJ1_charAt_6 : decode cJ1_charAt 6 = .ok (.aload_n 0, 1) := by decide +kernel
theorem dJ1_charAt_7 : decode cJ1_charAt 7 = .ok (.iload_n 1, 1) := by decide +kernel
theorem dJ1_charAt_8 : decode cJ1_charAt 8 = .ok (.baload, 1) := by decide +kernel
theorem dJ1_charAt_9 : decode cJ1_charAt 9 = .ok (.sipush 255, 3) := by decide +kernel
theorem dJ1_charAt_12 : decode cJ1_charAt 12 = .ok (.iand, 1) := by decide +kernel
theorem dJ1_charAt_13 : decode cJ1_charAt 13 = .ok (.i2c, 1) := by decide +kernel
theorem dJ1_charAt_14 : decode cJ1_charAt 14 = .ok (.ireturn, 1) := by decide +kernel
theorem dJ2_getChar_0 : decode cJ2_getChar 0 = .ok (.getstatic 44, 3) := by decide +kernel
theorem dJ2_getChar_3 : decode cJ2_getChar 3 = .ok (.ifCond .ne 25, 3) := by decide +kernel
theorem dJ2_getChar_6 : decode cJ2_getChar 6 = .ok (.iload_n 1, 1) := by decide +kernel
theorem dJ2_getChar_7 : decode cJ2_getChar 7 = .ok (.ifCond .lt 11, 3) := by decide +kernel
theorem dJ2_getChar_10 : decode cJ2_getChar 10 = .ok (.iload_n 1, 1) := by decide +kernel
theorem dJ2_getChar_11 : decode cJ2_getChar 11 = .ok (.aload_n 0, 1) := by decide +kernel
theorem dJ2_getChar_12 : decode cJ2_getChar 12 = .ok (.invokestatic 48, 3) := by decide +kernel
theorem dJ2_getChar_15 : decode cJ2_getChar 15 = .ok (.if_icmp .lt 13, 3) := by decide +kernel
theorem dJ2_getChar_18 : decode cJ2_getChar 18 = .ok (.new 52, 3) := by decide +kernel
theorem dJ2_getChar_21 : decode cJ2_getChar 21 = .ok (.dup, 1) := by decide +kernel
theorem dJ2_getChar_22 : decode cJ2_getChar 22 = .ok (.ldc 54, 2) := by decide +kernel
theorem dJ2_getChar_24 : decode cJ2_getChar 24 = .ok (.invokespecial 56, 3) := by decide +kernel
theorem dJ2_getChar_27 : decode cJ2_getChar 27 = .ok (.athrow, 1) := by decide +kernel
theorem dJ2_getChar_28 : decode cJ2_getChar 28 = .ok (.iload_n 1, 1) := by decide +kernel
theorem dJ2_getChar_29 : decode cJ2_getChar 29 = .ok (.iconst 1, 1) := by decide +kernel
theorem dJ2_getChar_30 : decode cJ2_getChar 30 = .ok (.ishl, 1) := by decide +kernel
theorem dJ2_getChar_31 : decode cJ2_getChar 31 = .ok (.istore_n 1, 1) := by decide +kernel
theorem dJ2_getChar_32 : decode cJ2_getChar 32 = .ok (.aload_n 0, 1) := by decide +kernel
theorem dJ2_getChar_33 : decode cJ2_getChar 33 = .ok (.iload_n 1, 1) := by decide +kernel
theorem dJ2_getChar_34 : decode cJ2_getChar 34 = .ok (.iinc 1 1, 3) := by decide +kernel
theorem dJ2_getChar_37 : decode cJ2_getChar 37 = .ok (.baload, 1) := by decide +kernel
theorem dJ2_getChar_38 : decode cJ2_getChar 38 = .ok (.sipush 255, 3) := by decide +kernel
theorem dJ2_getChar_41 : decode cJ2_getChar 41 = .ok (.iand, 1) := by decide +kernel
theorem dJ2_getChar_42 : decode cJ2_getChar 42 = .ok (.getstatic 59, 3) := by decide +kernel
theorem dJ2_getChar_45 : decode cJ2_getChar 45 = .ok (.ishl, 1) := by decide +kernel
theorem dJ2_getChar_46 : decode cJ2_getChar 46 = .ok (.aload_n 0, 1) := by decide +kernel
theorem dJ2_getChar_47 : decode cJ2_getChar 47 = .ok (.iload_n 1, 1) := by decide +kernel
theorem dJ2_getChar_48 : decode cJ2_getChar 48 = .ok (.baload, 1) := by decide +kernel
theorem dJ2_getChar_49 : decode cJ2_getChar 49 = .ok (.sipush 255, 3) := by decide +kernel
theorem dJ2_getChar_52 : decode cJ2_getChar 52 = .ok (.iand, 1) := by decide +kernel
theorem dJ2_getChar_53 : decode cJ2_getChar 53 = .ok (.getstatic 63, 3) := by decide +kernel
theorem dJ2_getChar_56 : decode cJ2_getChar 56 = .ok (.ishl, 1) := by decide +kernel
theorem dJ2_getChar_57 : decode cJ2_getChar 57 = .ok (.ior, 1) := by decide +kernel
theorem dJ2_getChar_58 : decode cJ2_getChar 58 = .ok (.i2c, 1) := by decide +kernel
theorem dJ2_getChar_59 : decode cJ2_getChar 59 = .ok (.ireturn, 1) := by decide +kernel
theorem dJ2_length_0 : decode cJ2_length 0 = .ok (.aload_n 0, 1) := by decide +kernel
theorem dJ2_length_1 : decode cJ2_length 1 = .ok (.arraylength, 1) := by decide +kernel
theorem dJ2_length_2 : decode cJ2_length 2 = .ok (.iconst 1, 1) := by decide +kernel
theorem dJ2_length_3 : decode cJ2_length 3 = .ok (.ishr, 1) := by decide +kernel
theorem dJ2_length_4 : decode cJ2_length 4 = .ok (.ireturn, 1) := by decide +kernel
theorem dJ2_charAt_0 : decode cJ2_charAt 0 = .ok (.iload_n 1, 1) := by decide +kernel
theorem dJ2_charAt_1 : decode cJ2_charAt 1 = .ok (.aload_n 0, 1) := by decide +kernel
theorem dJ2_charAt_2 : decode cJ2_charAt 2 = .ok (.invokestatic 67, 3) := by decide +kernel
theorem dJ2_charAt_5 : decode cJ2_charAt 5 = .ok (.aload_n 0, 1) := by decide +kernel
theorem dJ2_charAt_6 : decode cJ2_charAt 6 = .ok (.iload_n 1, 1) := by decide +kernel
theorem dJ2_charAt_7 : decode cJ2_charAt 7 = .ok (.invokestatic 71, 3) := by decide +kernel
theorem dJ2_charAt_10 : decode cJ2_charAt 10 = .ok (.ireturn, 1) := by decide +kernel
theorem dJ2_checkIndex_0 : decode cJ2_checkIndex 0 = .ok (.iload_n 0, 1) := by decide +kernel
theorem dJ2_checkIndex_1 : decode cJ2_checkIndex 1 = .ok (.aload_n 1, 1) := by decide +kernel
theorem dJ2_checkIndex_2 : decode cJ2_checkIndex 2 = .ok (.invokestatic 48, 3) := by decide +kernel
theorem dJ2_checkIndex_5 : decode cJ2_checkIndex 5 = .ok (.invokestatic 414, 3) := by decide +kernel
theorem dJ2_checkIndex_8 : decode cJ2_checkIndex 8 = .ok (.return_, 1) := by decide +kernel
theorem dJ3_checkIndex_0 : decode cJ3_checkIndex 0 = .ok (.iload_n 0, 1) := by decide +kernel
theorem dJ3_checkIndex_1 : decode cJ3_checkIndex 1 = .ok (.ifCond .lt 8, 3) := by decide +kernel
theorem dJ3_checkIndex_4 : decode cJ3_checkIndex 4 = .ok (.iload_n 0, 1) := by decide +kernel
theorem dJ3_checkIndex_5 : decode cJ3_checkIndex 5 = .ok (.iload_n 1, 1) := by decide +kernel
theorem dJ3_checkIndex_6 : decode cJ3_checkIndex 6 = .ok (.if_icmp .lt 10, 3) := by decide +kernel
theorem dJ3_checkIndex_9 : decode cJ3_checkIndex 9 = .ok (.aload_n 2, 1) := by decide +kernel
theorem dJ3_checkIndex_10 : decode cJ3_checkIndex 10 = .ok (.iload_n 0, 1) := by decide +kernel
theorem dJ3_checkIndex_11 : decode cJ3_checkIndex 11 = .ok (.iload_n 1, 1) := by decide +kernel
theorem dJ3_checkIndex_12 : decode cJ3_checkIndex 12 = .ok (.invokestatic 95, 3) := by decide +kernel
theorem dJ3_checkIndex_15 : decode cJ3_checkIndex 15 = .ok (.athrow, 1) := by decide +kernel
theorem dJ3_checkIndex_16 : decode cJ3_checkIndex 16 = .ok (.iload_n 0, 1) := by decide +kernel
theorem dJ3_checkIndex_17 : decode cJ3_checkIndex 17 = .ok (.ireturn, 1) := by decide +kernel
end
section
theorem dX6_init_0 : decode cX6_init 0 = .ok (.aload_n 0, 1) := by decide +kernel
theorem dX6_init_1 : decode cX6_init 1 = .ok (.invokespecial 1, 3) := by decide +kernel
theorem dX6_init_4 : decode cX6_init 4 = .ok (.aload_n 0, 1) := by decide +kernel
theorem dX6_init_5 : decode cX6_init 5 = .ok (.new 7, 3) := by decide +kernel
theorem dX6_init_8 : decode cX6_init 8 = .ok (.dup, 1) := by decide +kernel
theorem dX6_init_9 : decode cX6_init 9 = .ok (.invokespecial 9, 3) := by decide +kernel
theorem dX6_init_12 : decode cX6_init 12 = .ok (.putfield 10, 3) := by decide +kernel
theorem dX6_init_15 : decode cX6_init 15 = .ok (.aload_n 0, 1) := by decide +kernel
theorem dX6_init_16 : decode cX6_init 16 = .ok (.new 7, 3) := by decide +kernel
theorem dX6_init_19 : decode cX6_init 19 = .ok (.dup, 1) := by decide +kernel
theorem dX6_init_20 : decode cX6_init 20 = .ok (.invokespecial 9, 3) := by decide +kernel
theorem dX6_init_23 : decode cX6_init 23 = .ok (.putfield 16, 3) := by decide +kernel
theorem dX6_init_26 : decode cX6_init 26 = .ok (.aload_n 0, 1) := by decide +kernel
theorem dX6_init_27 : decode cX6_init 27 = .ok (.new 7, 3) := by decide +kernel
theorem dX6_init_30 : decode cX6_init 30 = .ok (.dup, 1) := by decide +kernel
theorem dX6_init_31 : decode cX6_init 31 = .ok (.invokespecial 9, 3) := by decide +kernel
theorem dX6_init_34 : decode cX6_init 34 = .ok (.putfield 19, 3) := by decide +kernel
theorem dX6_init_37 : decode cX6_init 37 = .ok (.aload_n 0, 1) := by decide +kernel
theorem dX6_init_38 : decode cX6_init 38 = .ok (.iconst 0, 1) := by decide +kernel
theorem dX6_init_39 : decode cX6_init 39 = .ok (.putfield 22, 3) := by decide +kernel
theorem dX6_init_42 : decode cX6_init 42 = .ok (.aload_n 0, 1) := by decide +kernel
theorem dX6_init_43 : decode cX6_init 43 = .ok (.new 26, 3) := by decide +kernel
theorem dX6_init_46 : decode cX6_init 46 = .ok (.dup, 1) := by decide +kernel
theorem dX6_init_47 : decode cX6_init 47 = .ok (.invokespecial 28, 3) := by decide +kernel
theorem dX6_init_50 : decode cX6_init 50 = .ok (.putfield 29, 3) := by decide +kernel
theorem dX6_init_53 : decode cX6_init 53 = .ok (.aload_n 0, 1) := by decide +kernel
theorem dX6_init_54 : decode cX6_init 54 = .ok (.iconst 4, 1) := by decide +kernel
theorem dX6_init_55 : decode cX6_init 55 = .ok (.anewarray 33, 3) := by decide +kernel
theorem dX6_init_58 : decode cX6_init 58 = .ok (.putfield 35, 3) := by decide +kernel
theorem dX6_init_61 : decode cX6_init 61 = .ok (.iconst 0, 1) := by decide +kernel
theorem dX6_init_62 : decode cX6_init 62 = .ok (.istore_n 1, 1) := by decide +kernel
theorem dX6_init_63 : decode cX6_init 63 = .ok (.iload_n 1, 1) := by decide +kernel
theorem dX6_init_64 : decode cX6_init 64 = .ok (.iconst 4, 1) := by decide +kernel
theorem dX6_init_65 : decode cX6_init 65 = .ok (.if_icmp .ge 22, 3) := by decide +kernel
theorem dX6_init_68 : decode cX6_init 68 = .ok (.aload_n 0, 1) := by decide +kernel
theorem dX6_init_69 : decode cX6_init 69 = .ok (.getfield 35, 3) := by decide +kernel
theorem dX6_init_72 : decode cX6_init 72 = .ok (.iload_n 1, 1) := by decide +kernel
theorem dX6_init_73 : decode cX6_init 73 = .ok (.new 33, 3) := by decide +kernel
theorem dX6_init_76 : decode cX6_init 76 = .ok (.dup, 1) := by decide +kernel
theorem dX6_init_77 : decode cX6_init 77 = .ok (.invokespecial 39, 3) := by decide +kernel
theorem dX6_init_80 : decode cX6_init 80 = .ok (.aastore, 1) := by decide +kernel
theorem dX6_init_81 : decode cX6_init 81 = .ok (.iinc 1 1, 3) := by decide +kernel
theorem dX6_init_84 : decode cX6_init 84 = .ok (.goto (-21), 3) := by decide +kernel
theorem dX6_init_87 : decode cX6_init 87 = .ok (.aload_n 0, 1) := by decide +kernel
theorem dX6_init_88 : decode cX6_init 88 = .ok (.bipush 7, 2) := by decide +kernel
theorem dX6_init_90 : decode cX6_init 90 = .ok (.newarray .int, 2) := by decide +kernel
theorem dX6_init_92 : decode cX6_init 92 = .ok (.putfield 40, 3) := by decide +kernel
theorem dX6_init_95 : decode cX6_init 95 = .ok (.return_, 1) := by decide +kernel
theorem dX6_cloud_0 : decode cX6_cloud 0 = .ok (.iload_n 1, 1) := by decide +kernel
theorem dX6_cloud_1 : decode cX6_cloud 1 = .ok (.iload_n 2, 1) := by decide +kernel
theorem dX6_cloud_2 : decode cX6_cloud 2 = .ok (.invokestatic 44, 3) := by decide +kernel
theorem dX6_cloud_5 : decode cX6_cloud 5 = .ok (.ifCond .ne 10, 3) := by decide +kernel
theorem dX6_cloud_8 : decode cX6_cloud 8 = .ok (.aload_n 0, 1) := by decide +kernel
theorem dX6_cloud_9 : decode cX6_cloud 9 = .ok (.ldc 50, 2) := by decide +kernel
theorem dX6_cloud_11 : decode cX6_cloud 11 = .ok (.invokevirtual 51, 3) := by decide +kernel
theorem dX6_cloud_14 : decode cX6_cloud 14 = .ok (.ireturn, 1) := by decide +kernel
theorem dX6_cloud_15 : decode cX6_cloud 15 = .ok (.aload_n 0, 1) := by decide +kernel
theorem dX6_cloud_16 : decode cX6_cloud 16 = .ok (.getfield 10, 3) := by decide +kernel
theorem dX6_cloud_19 : decode cX6_cloud 19 = .ok (.getfield 55, 3) := by decide +kernel
theorem dX6_cloud_22 : decode cX6_cloud 22 = .ok (.iload_n 1, 1) := by decide +kernel
theorem dX6_cloud_23 : decode cX6_cloud 23 = .ok (.invokevirtual 59, 3) := by decide +kernel
theorem dX6_cloud_26 : decode cX6_cloud 26 = .ok (.istore_n 3, 1) := by decide +kernel
theorem dX6_cloud_27 : decode cX6_cloud 27 = .ok (.aload_n 0, 1) := by decide +kernel
theorem dX6_cloud_28 : decode cX6_cloud 28 = .ok (.getfield 10, 3) := by decide +kernel
theorem dX6_cloud_31 : decode cX6_cloud 31 = .ok (.getfield 55, 3) := by decide +kernel
theorem dX6_cloud_34 : decode cX6_cloud 34 = .ok (.iload_n 1, 1) := by decide +kernel
theorem dX6_cloud_35 : decode cX6_cloud 35 = .ok (.iload_n 2, 1) := by decide +kernel
theorem dX6_cloud_36 : decode cX6_cloud 36 = .ok (.invokevirtual 62, 3) := by decide +kernel
theorem dX6_cloud_39 : decode cX6_cloud 39 = .ok (.iload_n 3, 1) := by decide +kernel
theorem dX6_cloud_40 : decode cX6_cloud 40 = .ok (.ireturn, 1) := by decide +kernel
theorem dX6_cloudOf_0 : decode cX6_cloudOf 0 = .ok (.iload_n 1, 1) := by decide +kernel
theorem dX6_cloudOf_1 : decode cX6_cloudOf 1 = .ok (.iconst 0, 1) := by decide +kernel
theorem dX6_cloudOf_2 : decode cX6_cloudOf 2 = .ok (.iconst 4, 1) := by decide +kernel
theorem dX6_cloudOf_3 : decode cX6_cloudOf 3 = .ok (.invokestatic 66, 3) := by decide +kernel
theorem dX6_cloudOf_6 : decode cX6_cloudOf 6 = .ok (.ifCond .ne 10, 3) := by decide +kernel
theorem dX6_cloudOf_9 : decode cX6_cloudOf 9 = .ok (.aload_n 0, 1) := by decide +kernel
theorem dX6_cloudOf_10 : decode cX6_cloudOf 10 = .ok (.ldc 50, 2) := by decide +kernel
theorem dX6_cloudOf_12 : decode cX6_cloudOf 12 = .ok (.invokevirtual 51, 3) := by decide +kernel
theorem dX6_cloudOf_15 : decode cX6_cloudOf 15 = .ok (.ireturn, 1) := by decide +kernel
theorem dX6_cloudOf_16 : decode cX6_cloudOf 16 = .ok (.aload_n 0, 1) := by decide +kernel
theorem dX6_cloudOf_17 : decode cX6_cloudOf 17 = .ok (.getfield 10, 3) := by decide +kernel
theorem dX6_cloudOf_20 : decode cX6_cloudOf 20 = .ok (.getfield 55, 3) := by decide +kernel
theorem dX6_cloudOf_23 : decode cX6_cloudOf 23 = .ok (.iload_n 1, 1) := by decide +kernel
theorem dX6_cloudOf_24 : decode cX6_cloudOf 24 = .ok (.invokevirtual 59, 3) := by decide +kernel
theorem dX6_cloudOf_27 : decode cX6_cloudOf 27 = .ok (.ireturn, 1) := by decide +kernel
theorem dX6_rod_0 : decode cX6_rod 0 = .ok (.iload_n 1, 1) := by decide +kernel
theorem dX6_rod_1 : decode cX6_rod 1 = .ok (.invokestatic 70, 3) := by decide +kernel
theorem dX6_rod_4 : decode cX6_rod 4 = .ok (.ifCond .eq 10, 3) := by decide +kernel
theorem dX6_rod_7 : decode cX6_rod 7 = .ok (.iload_n 2, 1) := by decide +kernel
theorem dX6_rod_8 : decode cX6_rod 8 = .ok (.invokestatic 74, 3) := by decide +kernel
theorem dX6_rod_11 : decode cX6_rod 11 = .ok (.ifCond .ne 10, 3) := by decide +kernel
theorem dX6_rod_14 : decode cX6_rod 14 = .ok (.aload_n 0, 1) := by decide +kernel
theorem dX6_rod_15 : decode cX6_rod 15 = .ok (.ldc 50, 2) := by decide +kernel
theorem dX6_rod_17 : decode cX6_rod 17 = .ok (.invokevirtual 51, 3) := by decide +kernel
theorem dX6_rod_20 : decode cX6_rod 20 = .ok (.ireturn, 1) := by decide +kernel
theorem dX6_rod_21 : decode cX6_rod 21 = .ok (.aload_n 0, 1) := by decide +kernel
theorem dX6_rod_22 : decode cX6_rod 22 = .ok (.getfield 10, 3) := by decide +kernel
theorem dX6_rod_25 : decode cX6_rod 25 = .ok (.invokevirtual 77, 3) := by decide +kernel
theorem dX6_rod_28 : decode cX6_rod 28 = .ok (.ifCond .eq 10, 3) := by decide +kernel
theorem dX6_rod_31 : decode cX6_rod 31 = .ok (.aload_n 0, 1) := by decide +kernel
theorem dX6_rod_32 : decode cX6_rod 32 = .ok (.ldc 81, 2) := by decide +kernel
theorem dX6_rod_34 : decode cX6_rod 34 = .ok (.invokevirtual 51, 3) := by decide +kernel
theorem dX6_rod_37 : decode cX6_rod 37 = .ok (.ireturn, 1) := by decide +kernel
theorem dX6_rod_38 : decode cX6_rod 38 = .ok (.aload_n 0, 1) := by decide +kernel
theorem dX6_rod_39 : decode cX6_rod 39 = .ok (.getfield 10, 3) := by decide +kernel
theorem dX6_rod_42 : decode cX6_rod 42 = .ok (.iload_n 1, 1) := by decide +kernel
theorem dX6_rod_43 : decode cX6_rod 43 = .ok (.iload_n 2, 1) := by decide +kernel
theorem dX6_rod_44 : decode cX6_rod 44 = .ok (.invokevirtual 82, 3) := by decide +kernel
theorem dX6_rod_47 : decode cX6_rod 47 = .ok (.pop, 1) := by decide +kernel
theorem dX6_rod_48 : decode cX6_rod 48 = .ok (.aload_n 0, 1) := by decide +kernel
theorem dX6_rod_49 : decode cX6_rod 49 = .ok (.getfield 10, 3) := by decide +kernel
theorem dX6_rod_52 : decode cX6_rod 52 = .ok (.getfield 86, 3) := by decide +kernel
theorem dX6_rod_55 : decode cX6_rod 55 = .ok (.iconst 1, 1) := by decide +kernel
theorem dX6_rod_56 : decode cX6_rod 56 = .ok (.isub, 1) := by decide +kernel
theorem dX6_rod_57 : decode cX6_rod 57 = .ok (.ireturn, 1) := by decide +kernel
theorem dX6_of_0 : decode cX6_of 0 = .ok (.aload_n 0, 1) := by decide +kernel
theorem dX6_of_1 : decode cX6_of 1 = .ok (.iload_n 1, 1) := by decide +kernel
theorem dX6_of_2 : decode cX6_of 2 = .ok (.invokevirtual 90, 3) := by decide +kernel
theorem dX6_of_5 : decode cX6_of 5 = .ok (.ifCond .eq 13, 3) := by decide +kernel
theorem dX6_of_8 : decode cX6_of 8 = .ok (.iload_n 2, 1) := by decide +kernel
theorem dX6_of_9 : decode cX6_of 9 = .ok (.iconst 0, 1) := by decide +kernel
theorem dX6_of_10 : decode cX6_of 10 = .ok (.bipush 9, 2) := by decide +kernel
theorem dX6_of_12 : decode cX6_of 12 = .ok (.invokestatic 66, 3) := by decide +kernel
theorem dX6_of_15 : decode cX6_of 15 = .ok (.ifCond .ne 10, 3) := by decide +kernel
theorem dX6_of_18 : decode cX6_of 18 = .ok (.aload_n 0, 1) := by decide +kernel
theorem dX6_of_19 : decode cX6_of 19 = .ok (.ldc 50, 2) := by decide +kernel
theorem dX6_of_21 : decode cX6_of 21 = .ok (.invokevirtual 51, 3) := by decide +kernel
theorem dX6_of_24 : decode cX6_of 24 = .ok (.ireturn, 1) := by decide +kernel
theorem dX6_of_25 : decode cX6_of 25 = .ok (.aload_n 0, 1) := by decide +kernel
theorem dX6_of_26 : decode cX6_of 26 = .ok (.getfield 10, 3) := by decide +kernel
theorem dX6_of_29 : decode cX6_of 29 = .ok (.getfield 93, 3) := by decide +kernel
theorem dX6_of_32 : decode cX6_of 32 = .ok (.iload_n 1, 1) := by decide +kernel
theorem dX6_of_33 : decode cX6_of 33 = .ok (.aaload, 1) := by decide +kernel
theorem dX6_of_34 : decode cX6_of 34 = .ok (.astore_n 3, 1) := by decide +kernel
theorem dX6_of_35 : decode cX6_of 35 = .ok (.iload_n 2, 1) := by decide +kernel
theorem dX6_of_36 : decode cX6_of 36 = .ok (.tableswitch 85 7 9 #[28, 43, 65], 28) := by decide +kernel
theorem dX6_of_64 : decode cX6_of 64 = .ok (.aload_n 3, 1) := by decide +kernel
theorem dX6_of_65 : decode cX6_of 65 = .ok (.aload_n 0, 1) := by decide +kernel
theorem dX6_of_66 : decode cX6_of 66 = .ok (.getfield 10, 3) := by decide +kernel
theorem dX6_of_69 : decode cX6_of 69 = .ok (.getfield 55, 3) := by decide +kernel
theorem dX6_of_72 : decode cX6_of 72 = .ok (.getfield 97, 3) := by decide +kernel
theorem dX6_of_75 : decode cX6_of 75 = .ok (.invokevirtual 100, 3) := by decide +kernel
theorem dX6_of_78 : decode cX6_of 78 = .ok (.ireturn, 1) := by decide +kernel
theorem dX6_of_79 : decode cX6_of 79 = .ok (.aload_n 3, 1) := by decide +kernel
theorem dX6_of_80 : decode cX6_of 80 = .ok (.aload_n 0, 1) := by decide +kernel
theorem dX6_of_81 : decode cX6_of 81 = .ok (.getfield 10, 3) := by decide +kernel
theorem dX6_of_84 : decode cX6_of 84 = .ok (.getfield 55, 3) := by decide +kernel
theorem dX6_of_87 : decode cX6_of 87 = .ok (.getfield 105, 3) := by decide +kernel
theorem dX6_of_90 : decode cX6_of 90 = .ok (.aload_n 0, 1) := by decide +kernel
theorem dX6_of_91 : decode cX6_of 91 = .ok (.getfield 10, 3) := by decide +kernel
theorem dX6_of_94 : decode cX6_of 94 = .ok (.invokevirtual 108, 3) := by decide +kernel
theorem dX6_of_97 : decode cX6_of 97 = .ok (.invokevirtual 112, 3) := by decide +kernel
theorem dX6_of_100 : decode cX6_of 100 = .ok (.ireturn, 1) := by decide +kernel
theorem dX6_of_101 : decode cX6_of 101 = .ok (.aload_n 3, 1) := by decide +kernel
theorem dX6_of_102 : decode cX6_of 102 = .ok (.aload_n 0, 1) := by decide +kernel
theorem dX6_of_103 : decode cX6_of 103 = .ok (.getfield 10, 3) := by decide +kernel
theorem dX6_of_106 : decode cX6_of 106 = .ok (.invokevirtual 108, 3) := by decide +kernel
theorem dX6_of_109 : decode cX6_of 109 = .ok (.invokevirtual 116, 3) := by decide +kernel
theorem dX6_of_112 : decode cX6_of 112 = .ok (.ifCond .eq 7, 3) := by decide +kernel
theorem dX6_of_115 : decode cX6_of 115 = .ok (.iconst 1, 1) := by decide +kernel
theorem dX6_of_116 : decode cX6_of 116 = .ok (.goto 4, 3) := by decide +kernel
theorem dX6_of_119 : decode cX6_of 119 = .ok (.iconst 0, 1) := by decide +kernel
theorem dX6_of_120 : decode cX6_of 120 = .ok (.ireturn, 1) := by decide +kernel
theorem dX6_of_121 : decode cX6_of 121 = .ok (.aload_n 3, 1) := by decide +kernel
theorem dX6_of_122 : decode cX6_of 122 = .ok (.iload_n 2, 1) := by decide +kernel
theorem dX6_of_123 : decode cX6_of 123 = .ok (.invokevirtual 119, 3) := by decide +kernel
theorem dX6_of_126 : decode cX6_of 126 = .ok (.ireturn, 1) := by decide +kernel
theorem dX6_set_0 : decode cX6_set 0 = .ok (.aload_n 0, 1) := by decide +kernel
theorem dX6_set_1 : decode cX6_set 1 = .ok (.iload_n 1, 1) := by decide +kernel
theorem dX6_set_2 : decode cX6_set 2 = .ok (.invokevirtual 90, 3) := by decide +kernel
theorem dX6_set_5 : decode cX6_set 5 = .ok (.ifCond .ne 10, 3) := by decide +kernel
theorem dX6_set_8 : decode cX6_set 8 = .ok (.aload_n 0, 1) := by decide +kernel
theorem dX6_set_9 : decode cX6_set 9 = .ok (.ldc 50, 2) := by decide +kernel
theorem dX6_set_11 : decode cX6_set 11 = .ok (.invokevirtual 51, 3) := by decide +kernel
theorem dX6_set_14 : decode cX6_set 14 = .ok (.ireturn, 1) := by decide +kernel
theorem dX6_set_15 : decode cX6_set 15 = .ok (.aload_n 0, 1) := by decide +kernel
theorem dX6_set_16 : decode cX6_set 16 = .ok (.getfield 10, 3) := by decide +kernel
theorem dX6_set_19 : decode cX6_set 19 = .ok (.getfield 93, 3) := by decide +kernel
theorem dX6_set_22 : decode cX6_set 22 = .ok (.iload_n 1, 1) := by decide +kernel
theorem dX6_set_23 : decode cX6_set 23 = .ok (.aaload, 1) := by decide +kernel
theorem dX6_set_24 : decode cX6_set 24 = .ok (.astore 4, 2) := by decide +kernel
theorem dX6_set_26 : decode cX6_set 26 = .ok (.iload_n 2, 1) := by decide +kernel
theorem dX6_set_27 : decode cX6_set 27 = .ok (.iconst 1, 1) := by decide +kernel
theorem dX6_set_28 : decode cX6_set 28 = .ok (.if_icmp .ne 26, 3) := by decide +kernel
theorem dX6_set_31 : decode cX6_set 31 = .ok (.iload_n 3, 1) := by decide +kernel
theorem dX6_set_32 : decode cX6_set 32 = .ok (.invokestatic 74, 3) := by decide +kernel
theorem dX6_set_35 : decode cX6_set 35 = .ok (.ifCond .eq 19, 3) := by decide +kernel
theorem dX6_set_38 : decode cX6_set 38 = .ok (.aload 4, 2) := by decide +kernel
theorem dX6_set_40 : decode cX6_set 40 = .ok (.getfield 120, 3) := by decide +kernel
theorem dX6_set_43 : decode cX6_set 43 = .ok (.istore 5, 2) := by decide +kernel
theorem dX6_set_45 : decode cX6_set 45 = .ok (.aload 4, 2) := by decide +kernel
theorem dX6_set_47 : decode cX6_set 47 = .ok (.iload_n 3, 1) := by decide +kernel
theorem dX6_set_48 : decode cX6_set 48 = .ok (.putfield 120, 3) := by decide +kernel
theorem dX6_set_51 : decode cX6_set 51 = .ok (.iload 5, 2) := by decide +kernel
theorem dX6_set_53 : decode cX6_set 53 = .ok (.ireturn, 1) := by decide +kernel
theorem dX6_set_54 : decode cX6_set 54 = .ok (.iload_n 2, 1) := by decide +kernel
theorem dX6_set_55 : decode cX6_set 55 = .ok (.iconst 2, 1) := by decide +kernel
theorem dX6_set_56 : decode cX6_set 56 = .ok (.if_icmp .ne 26, 3) := by decide +kernel
theorem dX6_set_59 : decode cX6_set 59 = .ok (.iload_n 3, 1) := by decide +kernel
theorem dX6_set_60 : decode cX6_set 60 = .ok (.invokestatic 121, 3) := by decide +kernel
theorem dX6_set_63 : decode cX6_set 63 = .ok (.ifCond .eq 19, 3) := by decide +kernel
theorem dX6_set_66 : decode cX6_set 66 = .ok (.aload 4, 2) := by decide +kernel
theorem dX6_set_68 : decode cX6_set 68 = .ok (.getfield 124, 3) := by decide +kernel
theorem dX6_set_71 : decode cX6_set 71 = .ok (.istore 5, 2) := by decide +kernel
theorem dX6_set_73 : decode cX6_set 73 = .ok (.aload 4, 2) := by decide +kernel
theorem dX6_set_75 : decode cX6_set 75 = .ok (.iload_n 3, 1) := by decide +kernel
theorem dX6_set_76 : decode cX6_set 76 = .ok (.putfield 124, 3) := by decide +kernel
theorem dX6_set_79 : decode cX6_set 79 = .ok (.iload 5, 2) := by decide +kernel
theorem dX6_set_81 : decode cX6_set 81 = .ok (.ireturn, 1) := by decide +kernel
theorem dX6_set_82 : decode cX6_set 82 = .ok (.aload_n 0, 1) := by decide +kernel
theorem dX6_set_83 : decode cX6_set 83 = .ok (.ldc 50, 2) := by decide +kernel
theorem dX6_set_85 : decode cX6_set 85 = .ok (.invokevirtual 51, 3) := by decide +kernel
theorem dX6_set_88 : decode cX6_set 88 = .ok (.ireturn, 1) := by decide +kernel
theorem dX6_pays_0 : decode cX6_pays 0 = .ok (.aload_n 0, 1) := by decide +kernel
theorem dX6_pays_1 : decode cX6_pays 1 = .ok (.iload_n 1, 1) := by decide +kernel
theorem dX6_pays_2 : decode cX6_pays 2 = .ok (.invokevirtual 90, 3) := by decide +kernel
theorem dX6_pays_5 : decode cX6_pays 5 = .ok (.ifCond .eq 17, 3) := by decide +kernel
theorem dX6_pays_8 : decode cX6_pays 8 = .ok (.iload_n 2, 1) := by decide +kernel
theorem dX6_pays_9 : decode cX6_pays 9 = .ok (.invokestatic 127, 3) := by decide +kernel
theorem dX6_pays_12 : decode cX6_pays 12 = .ok (.ifCond .eq 10, 3) := by decide +kernel
theorem dX6_pays_15 : decode cX6_pays 15 = .ok (.iload_n 3, 1) := by decide +kernel
theorem dX6_pays_16 : decode cX6_pays 16 = .ok (.invokestatic 127, 3) := by decide +kernel
theorem dX6_pays_19 : decode cX6_pays 19 = .ok (.ifCond .ne 10, 3) := by decide +kernel
theorem dX6_pays_22 : decode cX6_pays 22 = .ok (.aload_n 0, 1) := by decide +kernel
theorem dX6_pays_23 : decode cX6_pays 23 = .ok (.ldc 50, 2) := by decide +kernel
theorem dX6_pays_25 : decode cX6_pays 25 = .ok (.invokevirtual 51, 3) := by decide +kernel
theorem dX6_pays_28 : decode cX6_pays 28 = .ok (.ireturn, 1) := by decide +kernel
theorem dX6_pays_29 : decode cX6_pays 29 = .ok (.aload_n 0, 1) := by decide +kernel
theorem dX6_pays_30 : decode cX6_pays 30 = .ok (.getfield 10, 3) := by decide +kernel
theorem dX6_pays_33 : decode cX6_pays 33 = .ok (.getfield 93, 3) := by decide +kernel
theorem dX6_pays_36 : decode cX6_pays 36 = .ok (.iload_n 1, 1) := by decide +kernel
theorem dX6_pays_37 : decode cX6_pays 37 = .ok (.aaload, 1) := by decide +kernel
theorem dX6_pays_38 : decode cX6_pays 38 = .ok (.astore 4, 2) := by decide +kernel
theorem dX6_pays_40 : decode cX6_pays 40 = .ok (.aload 4, 2) := by decide +kernel
theorem dX6_pays_42 : decode cX6_pays 42 = .ok (.iload_n 2, 1) := by decide +kernel
theorem dX6_pays_43 : decode cX6_pays 43 = .ok (.putfield 130, 3) := by decide +kernel
theorem dX6_pays_46 : decode cX6_pays 46 = .ok (.aload 4, 2) := by decide +kernel
theorem dX6_pays_48 : decode cX6_pays 48 = .ok (.iload_n 3, 1) := by decide +kernel
theorem dX6_pays_49 : decode cX6_pays 49 = .ok (.putfield 133, 3) := by decide +kernel
theorem dX6_pays_52 : decode cX6_pays 52 = .ok (.aload 4, 2) := by decide +kernel
theorem dX6_pays_54 : decode cX6_pays 54 = .ok (.invokevirtual 136, 3) := by decide +kernel
theorem dX6_pays_57 : decode cX6_pays 57 = .ok (.ireturn, 1) := by decide +kernel
theorem dX6_turn_0 : decode cX6_turn 0 = .ok (.aload_n 0, 1) := by decide +kernel
theorem dX6_turn_1 : decode cX6_turn 1 = .ok (.iload_n 1, 1) := by decide +kernel
theorem dX6_turn_2 : decode cX6_turn 2 = .ok (.invokevirtual 90, 3) := by decide +kernel
theorem dX6_turn_5 : decode cX6_turn 5 = .ok (.ifCond .eq 10, 3) := by decide +kernel
theorem dX6_turn_8 : decode cX6_turn 8 = .ok (.iload_n 2, 1) := by decide +kernel
theorem dX6_turn_9 : decode cX6_turn 9 = .ok (.invokestatic 70, 3) := by decide +kernel
theorem dX6_turn_12 : decode cX6_turn 12 = .ok (.ifCond .ne 10, 3) := by decide +kernel
theorem dX6_turn_15 : decode cX6_turn 15 = .ok (.aload_n 0, 1) := by decide +kernel
theorem dX6_turn_16 : decode cX6_turn 16 = .ok (.ldc 50, 2) := by decide +kernel
theorem dX6_turn_18 : decode cX6_turn 18 = .ok (.invokevirtual 51, 3) := by decide +kernel
theorem dX6_turn_21 : decode cX6_turn 21 = .ok (.ireturn, 1) := by decide +kernel
theorem dX6_turn_22 : decode cX6_turn 22 = .ok (.aload_n 0, 1) := by decide +kernel
theorem dX6_turn_23 : decode cX6_turn 23 = .ok (.getfield 10, 3) := by decide +kernel
theorem dX6_turn_26 : decode cX6_turn 26 = .ok (.getfield 93, 3) := by decide +kernel
theorem dX6_turn_29 : decode cX6_turn 29 = .ok (.iload_n 1, 1) := by decide +kernel
theorem dX6_turn_30 : decode cX6_turn 30 = .ok (.aaload, 1) := by decide +kernel
theorem dX6_turn_31 : decode cX6_turn 31 = .ok (.getfield 139, 3) := by decide +kernel
theorem dX6_turn_34 : decode cX6_turn 34 = .ok (.istore_n 3, 1) := by decide +kernel
theorem dX6_turn_35 : decode cX6_turn 35 = .ok (.aload_n 0, 1) := by decide +kernel
theorem dX6_turn_36 : decode cX6_turn 36 = .ok (.getfield 10, 3) := by decide +kernel
theorem dX6_turn_39 : decode cX6_turn 39 = .ok (.getfield 93, 3) := by decide +kernel
theorem dX6_turn_42 : decode cX6_turn 42 = .ok (.iload_n 1, 1) := by decide +kernel
theorem dX6_turn_43 : decode cX6_turn 43 = .ok (.aaload, 1) := by decide +kernel
theorem dX6_turn_44 : decode cX6_turn 44 = .ok (.iload_n 2, 1) := by decide +kernel
theorem dX6_turn_45 : decode cX6_turn 45 = .ok (.putfield 139, 3) := by decide +kernel
theorem dX6_turn_48 : decode cX6_turn 48 = .ok (.iload_n 3, 1) := by decide +kernel
theorem dX6_turn_49 : decode cX6_turn 49 = .ok (.ireturn, 1) := by decide +kernel
theorem dX6_as_0 : decode cX6_as 0 = .ok (.aload_n 0, 1) := by decide +kernel
theorem dX6_as_1 : decode cX6_as 1 = .ok (.iload_n 1, 1) := by decide +kernel
theorem dX6_as_2 : decode cX6_as 2 = .ok (.invokevirtual 90, 3) := by decide +kernel
theorem dX6_as_5 : decode cX6_as 5 = .ok (.ifCond .eq 10, 3) := by decide +kernel
theorem dX6_as_8 : decode cX6_as 8 = .ok (.iload_n 2, 1) := by decide +kernel
theorem dX6_as_9 : decode cX6_as 9 = .ok (.invokestatic 70, 3) := by decide +kernel
theorem dX6_as_12 : decode cX6_as 12 = .ok (.ifCond .ne 10, 3) := by decide +kernel
theorem dX6_as_15 : decode cX6_as 15 = .ok (.aload_n 0, 1) := by decide +kernel
theorem dX6_as_16 : decode cX6_as 16 = .ok (.ldc 50, 2) := by decide +kernel
theorem dX6_as_18 : decode cX6_as 18 = .ok (.invokevirtual 51, 3) := by decide +kernel
theorem dX6_as_21 : decode cX6_as 21 = .ok (.ireturn, 1) := by decide +kernel
theorem dX6_as_22 : decode cX6_as 22 = .ok (.aload_n 0, 1) := by decide +kernel
theorem dX6_as_23 : decode cX6_as 23 = .ok (.getfield 10, 3) := by decide +kernel
theorem dX6_as_26 : decode cX6_as 26 = .ok (.getfield 93, 3) := by decide +kernel
theorem dX6_as_29 : decode cX6_as 29 = .ok (.iload_n 1, 1) := by decide +kernel
theorem dX6_as_30 : decode cX6_as 30 = .ok (.aaload, 1) := by decide +kernel
theorem dX6_as_31 : decode cX6_as 31 = .ok (.iload_n 2, 1) := by decide +kernel
theorem dX6_as_32 : decode cX6_as 32 = .ok (.invokevirtual 142, 3) := by decide +kernel
theorem dX6_as_35 : decode cX6_as 35 = .ok (.ifCond .ne 10, 3) := by decide +kernel
theorem dX6_as_38 : decode cX6_as 38 = .ok (.aload_n 0, 1) := by decide +kernel
theorem dX6_as_39 : decode cX6_as 39 = .ok (.ldc 145, 2) := by decide +kernel
theorem dX6_as_41 : decode cX6_as 41 = .ok (.invokevirtual 51, 3) := by decide +kernel
theorem dX6_as_44 : decode cX6_as 44 = .ok (.ireturn, 1) := by decide +kernel
theorem dX6_as_45 : decode cX6_as 45 = .ok (.aload_n 0, 1) := by decide +kernel
theorem dX6_as_46 : decode cX6_as 46 = .ok (.getfield 10, 3) := by decide +kernel
theorem dX6_as_49 : decode cX6_as 49 = .ok (.getfield 93, 3) := by decide +kernel
theorem dX6_as_52 : decode cX6_as 52 = .ok (.iload_n 1, 1) := by decide +kernel
theorem dX6_as_53 : decode cX6_as 53 = .ok (.aaload, 1) := by decide +kernel
theorem dX6_as_54 : decode cX6_as 54 = .ok (.getfield 124, 3) := by decide +kernel
theorem dX6_as_57 : decode cX6_as 57 = .ok (.ireturn, 1) := by decide +kernel
theorem dX6_down_0 : decode cX6_down 0 = .ok (.aload_n 0, 1) := by decide +kernel
theorem dX6_down_1 : decode cX6_down 1 = .ok (.iload_n 1, 1) := by decide +kernel
theorem dX6_down_2 : decode cX6_down 2 = .ok (.invokevirtual 90, 3) := by decide +kernel
theorem dX6_down_5 : decode cX6_down 5 = .ok (.ifCond .ne 10, 3) := by decide +kernel
theorem dX6_down_8 : decode cX6_down 8 = .ok (.aload_n 0, 1) := by decide +kernel
theorem dX6_down_9 : decode cX6_down 9 = .ok (.ldc 50, 2) := by decide +kernel
theorem dX6_down_11 : decode cX6_down 11 = .ok (.invokevirtual 51, 3) := by decide +kernel
theorem dX6_down_14 : decode cX6_down 14 = .ok (.ireturn, 1) := by decide +kernel
theorem dX6_down_15 : decode cX6_down 15 = .ok (.aload_n 0, 1) := by decide +kernel
theorem dX6_down_16 : decode cX6_down 16 = .ok (.getfield 10, 3) := by decide +kernel
theorem dX6_down_19 : decode cX6_down 19 = .ok (.getfield 93, 3) := by decide +kernel
theorem dX6_down_22 : decode cX6_down 22 = .ok (.iload_n 1, 1) := by decide +kernel
theorem dX6_down_23 : decode cX6_down 23 = .ok (.aaload, 1) := by decide +kernel
theorem dX6_down_24 : decode cX6_down 24 = .ok (.getfield 146, 3) := by decide +kernel
theorem dX6_down_27 : decode cX6_down 27 = .ok (.istore_n 2, 1) := by decide +kernel
theorem dX6_down_28 : decode cX6_down 28 = .ok (.aload_n 0, 1) := by decide +kernel
theorem dX6_down_29 : decode cX6_down 29 = .ok (.getfield 10, 3) := by decide +kernel
theorem dX6_down_32 : decode cX6_down 32 = .ok (.iload_n 1, 1) := by decide +kernel
theorem dX6_down_33 : decode cX6_down 33 = .ok (.invokevirtual 149, 3) := by decide +kernel
theorem dX6_down_36 : decode cX6_down 36 = .ok (.iload_n 2, 1) := by decide +kernel
theorem dX6_down_37 : decode cX6_down 37 = .ok (.ireturn, 1) := by decide +kernel
theorem dX6_settle_0 : decode cX6_settle 0 = .ok (.aload_n 0, 1) := by decide +kernel
theorem dX6_settle_1 : decode cX6_settle 1 = .ok (.iload_n 1, 1) := by decide +kernel
theorem dX6_settle_2 : decode cX6_settle 2 = .ok (.invokevirtual 90, 3) := by decide +kernel
theorem dX6_settle_5 : decode cX6_settle 5 = .ok (.ifCond .ne 10, 3) := by decide +kernel
theorem dX6_settle_8 : decode cX6_settle 8 = .ok (.aload_n 0, 1) := by decide +kernel
theorem dX6_settle_9 : decode cX6_settle 9 = .ok (.ldc 50, 2) := by decide +kernel
theorem dX6_settle_11 : decode cX6_settle 11 = .ok (.invokevirtual 51, 3) := by decide +kernel
theorem dX6_settle_14 : decode cX6_settle 14 = .ok (.ireturn, 1) := by decide +kernel
theorem dX6_settle_15 : decode cX6_settle 15 = .ok (.aload_n 0, 1) := by decide +kernel
theorem dX6_settle_16 : decode cX6_settle 16 = .ok (.getfield 10, 3) := by decide +kernel
theorem dX6_settle_19 : decode cX6_settle 19 = .ok (.getfield 93, 3) := by decide +kernel
theorem dX6_settle_22 : decode cX6_settle 22 = .ok (.iload_n 1, 1) := by decide +kernel
theorem dX6_settle_23 : decode cX6_settle 23 = .ok (.aaload, 1) := by decide +kernel
theorem dX6_settle_24 : decode cX6_settle 24 = .ok (.getfield 146, 3) := by decide +kernel
theorem dX6_settle_27 : decode cX6_settle 27 = .ok (.istore_n 2, 1) := by decide +kernel
theorem dX6_settle_28 : decode cX6_settle 28 = .ok (.aload_n 0, 1) := by decide +kernel
theorem dX6_settle_29 : decode cX6_settle 29 = .ok (.getfield 10, 3) := by decide +kernel
theorem dX6_settle_32 : decode cX6_settle 32 = .ok (.getfield 93, 3) := by decide +kernel
theorem dX6_settle_35 : decode cX6_settle 35 = .ok (.iload_n 1, 1) := by decide +kernel
theorem dX6_settle_36 : decode cX6_settle 36 = .ok (.aaload, 1) := by decide +kernel
theorem dX6_settle_37 : decode cX6_settle 37 = .ok (.iconst 0, 1) := by decide +kernel
theorem dX6_settle_38 : decode cX6_settle 38 = .ok (.putfield 146, 3) := by decide +kernel
theorem dX6_settle_41 : decode cX6_settle 41 = .ok (.iload_n 2, 1) := by decide +kernel
theorem dX6_settle_42 : decode cX6_settle 42 = .ok (.ireturn, 1) := by decide +kernel
theorem dX6_hours_0 : decode cX6_hours 0 = .ok (.iload_n 1, 1) := by decide +kernel
theorem dX6_hours_1 : decode cX6_hours 1 = .ok (.iconst 1, 1) := by decide +kernel
theorem dX6_hours_2 : decode cX6_hours 2 = .ok (.bipush 100, 2) := by decide +kernel
theorem dX6_hours_4 : decode cX6_hours 4 = .ok (.invokestatic 66, 3) := by decide +kernel
theorem dX6_hours_7 : decode cX6_hours 7 = .ok (.ifCond .ne 10, 3) := by decide +kernel
theorem dX6_hours_10 : decode cX6_hours 10 = .ok (.aload_n 0, 1) := by decide +kernel
theorem dX6_hours_11 : decode cX6_hours 11 = .ok (.ldc 50, 2) := by decide +kernel
theorem dX6_hours_13 : decode cX6_hours 13 = .ok (.invokevirtual 51, 3) := by decide +kernel
theorem dX6_hours_16 : decode cX6_hours 16 = .ok (.ireturn, 1) := by decide +kernel
theorem dX6_hours_17 : decode cX6_hours 17 = .ok (.aload_n 0, 1) := by decide +kernel
theorem dX6_hours_18 : decode cX6_hours 18 = .ok (.getfield 10, 3) := by decide +kernel
theorem dX6_hours_21 : decode cX6_hours 21 = .ok (.getfield 153, 3) := by decide +kernel
theorem dX6_hours_24 : decode cX6_hours 24 = .ok (.iload_n 1, 1) := by decide +kernel
theorem dX6_hours_25 : decode cX6_hours 25 = .ok (.iadd, 1) := by decide +kernel
theorem dX6_hours_26 : decode cX6_hours 26 = .ok (.sipush 9999, 3) := by decide +kernel
theorem dX6_hours_29 : decode cX6_hours 29 = .ok (.if_icmp .le 10, 3) := by decide +kernel
theorem dX6_hours_32 : decode cX6_hours 32 = .ok (.aload_n 0, 1) := by decide +kernel
theorem dX6_hours_33 : decode cX6_hours 33 = .ok (.ldc 156, 2) := by decide +kernel
theorem dX6_hours_35 : decode cX6_hours 35 = .ok (.invokevirtual 51, 3) := by decide +kernel
theorem dX6_hours_38 : decode cX6_hours 38 = .ok (.ireturn, 1) := by decide +kernel
theorem dX6_hours_39 : decode cX6_hours 39 = .ok (.aload_n 0, 1) := by decide +kernel
theorem dX6_hours_40 : decode cX6_hours 40 = .ok (.getfield 10, 3) := by decide +kernel
theorem dX6_hours_43 : decode cX6_hours 43 = .ok (.iload_n 1, 1) := by decide +kernel
theorem dX6_hours_44 : decode cX6_hours 44 = .ok (.invokevirtual 157, 3) := by decide +kernel
theorem dX6_hours_47 : decode cX6_hours 47 = .ok (.aload_n 0, 1) := by decide +kernel
theorem dX6_hours_48 : decode cX6_hours 48 = .ok (.getfield 10, 3) := by decide +kernel
theorem dX6_hours_51 : decode cX6_hours 51 = .ok (.iconst 5, 1) := by decide +kernel
theorem dX6_hours_52 : decode cX6_hours 52 = .ok (.invokevirtual 160, 3) := by decide +kernel
theorem dX6_hours_55 : decode cX6_hours 55 = .ok (.ireturn, 1) := by decide +kernel
theorem dX6_days_0 : decode cX6_days 0 = .ok (.iload_n 1, 1) := by decide +kernel
theorem dX6_days_1 : decode cX6_days 1 = .ok (.iconst 1, 1) := by decide +kernel
theorem dX6_days_2 : decode cX6_days 2 = .ok (.iconst 4, 1) := by decide +kernel
theorem dX6_days_3 : decode cX6_days 3 = .ok (.invokestatic 66, 3) := by decide +kernel
theorem dX6_days_6 : decode cX6_days 6 = .ok (.ifCond .ne 10, 3) := by decide +kernel
theorem dX6_days_9 : decode cX6_days 9 = .ok (.aload_n 0, 1) := by decide +kernel
theorem dX6_days_10 : decode cX6_days 10 = .ok (.ldc 50, 2) := by decide +kernel
theorem dX6_days_12 : decode cX6_days 12 = .ok (.invokevirtual 51, 3) := by decide +kernel
theorem dX6_days_15 : decode cX6_days 15 = .ok (.ireturn, 1) := by decide +kernel
theorem dX6_days_16 : decode cX6_days 16 = .ok (.aload_n 0, 1) := by decide +kernel
theorem dX6_days_17 : decode cX6_days 17 = .ok (.getfield 10, 3) := by decide +kernel
theorem dX6_days_20 : decode cX6_days 20 = .ok (.getfield 153, 3) := by decide +kernel
theorem dX6_days_23 : decode cX6_days 23 = .ok (.iload_n 1, 1) := by decide +kernel
theorem dX6_days_24 : decode cX6_days 24 = .ok (.bipush 24, 2) := by decide +kernel
theorem dX6_days_26 : decode cX6_days 26 = .ok (.imul, 1) := by decide +kernel
theorem dX6_days_27 : decode cX6_days 27 = .ok (.iadd, 1) := by decide +kernel
theorem dX6_days_28 : decode cX6_days 28 = .ok (.sipush 9999, 3) := by decide +kernel
theorem dX6_days_31 : decode cX6_days 31 = .ok (.if_icmp .le 10, 3) := by decide +kernel
theorem dX6_days_34 : decode cX6_days 34 = .ok (.aload_n 0, 1) := by decide +kernel
theorem dX6_days_35 : decode cX6_days 35 = .ok (.ldc 156, 2) := by decide +kernel
theorem dX6_days_37 : decode cX6_days 37 = .ok (.invokevirtual 51, 3) := by decide +kernel
theorem dX6_days_40 : decode cX6_days 40 = .ok (.ireturn, 1) := by decide +kernel
theorem dX6_days_41 : decode cX6_days 41 = .ok (.iconst 0, 1) := by decide +kernel
theorem dX6_days_42 : decode cX6_days 42 = .ok (.istore_n 2, 1) := by decide +kernel
theorem dX6_days_43 : decode cX6_days 43 = .ok (.iload_n 2, 1) := by decide +kernel
theorem dX6_days_44 : decode cX6_days 44 = .ok (.iload_n 1, 1) := by decide +kernel
theorem dX6_days_45 : decode cX6_days 45 = .ok (.if_icmp .ge 25, 3) := by decide +kernel
theorem dX6_days_48 : decode cX6_days 48 = .ok (.aload_n 0, 1) := by decide +kernel
theorem dX6_days_49 : decode cX6_days 49 = .ok (.getfield 10, 3) := by decide +kernel
theorem dX6_days_52 : decode cX6_days 52 = .ok (.invokevirtual 163, 3) := by decide +kernel
theorem dX6_days_55 : decode cX6_days 55 = .ok (.aload_n 0, 1) := by decide +kernel
theorem dX6_days_56 : decode cX6_days 56 = .ok (.getfield 10, 3) := by decide +kernel
theorem dX6_days_59 : decode cX6_days 59 = .ok (.bipush 24, 2) := by decide +kernel
theorem dX6_days_61 : decode cX6_days 61 = .ok (.invokevirtual 157, 3) := by decide +kernel
theorem dX6_days_64 : decode cX6_days 64 = .ok (.iinc 2 1, 3) := by decide +kernel
theorem dX6_days_67 : decode cX6_days 67 = .ok (.goto (-24), 3) := by decide +kernel
theorem dX6_days_70 : decode cX6_days 70 = .ok (.aload_n 0, 1) := by decide +kernel
theorem dX6_days_71 : decode cX6_days 71 = .ok (.getfield 10, 3) := by decide +kernel
theorem dX6_days_74 : decode cX6_days 74 = .ok (.iconst 5, 1) := by decide +kernel
theorem dX6_days_75 : decode cX6_days 75 = .ok (.invokevirtual 160, 3) := by decide +kernel
theorem dX6_days_78 : decode cX6_days 78 = .ok (.ireturn, 1) := by decide +kernel
theorem dX6_seed_0 : decode cX6_seed 0 = .ok (.aload_n 0, 1) := by decide +kernel
theorem dX6_seed_1 : decode cX6_seed 1 = .ok (.getfield 10, 3) := by decide +kernel
theorem dX6_seed_4 : decode cX6_seed 4 = .ok (.getfield 166, 3) := by decide +kernel
theorem dX6_seed_7 : decode cX6_seed 7 = .ok (.istore_n 2, 1) := by decide +kernel
theorem dX6_seed_8 : decode cX6_seed 8 = .ok (.aload_n 0, 1) := by decide +kernel
theorem dX6_seed_9 : decode cX6_seed 9 = .ok (.getfield 10, 3) := by decide +kernel
theorem dX6_seed_12 : decode cX6_seed 12 = .ok (.iload_n 1, 1) := by decide +kernel
theorem dX6_seed_13 : decode cX6_seed 13 = .ok (.putfield 166, 3) := by decide +kernel
theorem dX6_seed_16 : decode cX6_seed 16 = .ok (.iload_n 2, 1) := by decide +kernel
theorem dX6_seed_17 : decode cX6_seed 17 = .ok (.ireturn, 1) := by decide +kernel
theorem dX6_now_0 : decode cX6_now 0 = .ok (.iload_n 1, 1) := by decide +kernel
theorem dX6_now_1 : decode cX6_now 1 = .ok (.tableswitch 90 0 5 #[39, 47, 55, 64, 74, 82], 39) := by decide +kernel
theorem dX6_now_40 : decode cX6_now 40 = .ok (.aload_n 0, 1) := by decide +kernel
theorem dX6_now_41 : decode cX6_now 41 = .ok (.getfield 10, 3) := by decide +kernel
theorem dX6_now_44 : decode cX6_now 44 = .ok (.getfield 153, 3) := by decide +kernel
theorem dX6_now_47 : decode cX6_now 47 = .ok (.ireturn, 1) := by decide +kernel
theorem dX6_now_48 : decode cX6_now 48 = .ok (.aload_n 0, 1) := by decide +kernel
theorem dX6_now_49 : decode cX6_now 49 = .ok (.getfield 10, 3) := by decide +kernel
theorem dX6_now_52 : decode cX6_now 52 = .ok (.invokevirtual 108, 3) := by decide +kernel
theorem dX6_now_55 : decode cX6_now 55 = .ok (.ireturn, 1) := by decide +kernel
theorem dX6_now_56 : decode cX6_now 56 = .ok (.aload_n 0, 1) := by decide +kernel
theorem dX6_now_57 : decode cX6_now 57 = .ok (.getfield 10, 3) := by decide +kernel
theorem dX6_now_60 : decode cX6_now 60 = .ok (.iconst 5, 1) := by decide +kernel
theorem dX6_now_61 : decode cX6_now 61 = .ok (.invokevirtual 160, 3) := by decide +kernel
theorem dX6_now_64 : decode cX6_now 64 = .ok (.ireturn, 1) := by decide +kernel
theorem dX6_now_65 : decode cX6_now 65 = .ok (.aload_n 0, 1) := by decide +kernel
theorem dX6_now_66 : decode cX6_now 66 = .ok (.getfield 10, 3) := by decide +kernel
theorem dX6_now_69 : decode cX6_now 69 = .ok (.bipush 6, 2) := by decide +kernel
theorem dX6_now_71 : decode cX6_now 71 = .ok (.invokevirtual 160, 3) := by decide +kernel
theorem dX6_now_74 : decode cX6_now 74 = .ok (.ireturn, 1) := by decide +kernel
theorem dX6_now_75 : decode cX6_now 75 = .ok (.aload_n 0, 1) := by decide +kernel
theorem dX6_now_76 : decode cX6_now 76 = .ok (.getfield 10, 3) := by decide +kernel
theorem dX6_now_79 : decode cX6_now 79 = .ok (.getfield 169, 3) := by decide +kernel
theorem dX6_now_82 : decode cX6_now 82 = .ok (.ireturn, 1) := by decide +kernel
theorem dX6_now_83 : decode cX6_now 83 = .ok (.aload_n 0, 1) := by decide +kernel
theorem dX6_now_84 : decode cX6_now 84 = .ok (.getfield 10, 3) := by decide +kernel
theorem dX6_now_87 : decode cX6_now 87 = .ok (.invokevirtual 172, 3) := by decide +kernel
theorem dX6_now_90 : decode cX6_now 90 = .ok (.ireturn, 1) := by decide +kernel
theorem dX6_now_91 : decode cX6_now 91 = .ok (.aload_n 0, 1) := by decide +kernel
theorem dX6_now_92 : decode cX6_now 92 = .ok (.ldc 50, 2) := by decide +kernel
theorem dX6_now_94 : decode cX6_now 94 = .ok (.invokevirtual 51, 3) := by decide +kernel
theorem dX6_now_97 : decode cX6_now 97 = .ok (.ireturn, 1) := by decide +kernel
theorem dX6_on_0 : decode cX6_on 0 = .ok (.aload_n 0, 1) := by decide +kernel
theorem dX6_on_1 : decode cX6_on 1 = .ok (.iload_n 1, 1) := by decide +kernel
theorem dX6_on_2 : decode cX6_on 2 = .ok (.invokevirtual 90, 3) := by decide +kernel
theorem dX6_on_5 : decode cX6_on 5 = .ok (.ifCond .eq 22, 3) := by decide +kernel
theorem dX6_on_8 : decode cX6_on 8 = .ok (.iload_n 2, 1) := by decide +kernel
theorem dX6_on_9 : decode cX6_on 9 = .ok (.iconst 0, 1) := by decide +kernel
theorem dX6_on_10 : decode cX6_on 10 = .ok (.bipush 100, 2) := by decide +kernel
theorem dX6_on_12 : decode cX6_on 12 = .ok (.invokestatic 66, 3) := by decide +kernel
theorem dX6_on_15 : decode cX6_on 15 = .ok (.ifCond .eq 12, 3) := by decide +kernel
theorem dX6_on_18 : decode cX6_on 18 = .ok (.iload_n 3, 1) := by decide +kernel
theorem dX6_on_19 : decode cX6_on 19 = .ok (.iconst 0, 1) := by decide +kernel
theorem dX6_on_20 : decode cX6_on 20 = .ok (.iconst 1, 1) := by decide +kernel
theorem dX6_on_21 : decode cX6_on 21 = .ok (.invokestatic 66, 3) := by decide +kernel
theorem dX6_on_24 : decode cX6_on 24 = .ok (.ifCond .ne 10, 3) := by decide +kernel
theorem dX6_on_27 : decode cX6_on 27 = .ok (.aload_n 0, 1) := by decide +kernel
theorem dX6_on_28 : decode cX6_on 28 = .ok (.ldc 50, 2) := by decide +kernel
theorem dX6_on_30 : decode cX6_on 30 = .ok (.invokevirtual 51, 3) := by decide +kernel
theorem dX6_on_33 : decode cX6_on 33 = .ok (.ireturn, 1) := by decide +kernel
theorem dX6_on_34 : decode cX6_on 34 = .ok (.aload_n 0, 1) := by decide +kernel
theorem dX6_on_35 : decode cX6_on 35 = .ok (.invokevirtual 175, 3) := by decide +kernel
theorem dX6_on_38 : decode cX6_on 38 = .ok (.aload_n 0, 1) := by decide +kernel
theorem dX6_on_39 : decode cX6_on 39 = .ok (.getfield 16, 3) := by decide +kernel
theorem dX6_on_42 : decode cX6_on 42 = .ok (.iload_n 2, 1) := by decide +kernel
theorem dX6_on_43 : decode cX6_on 43 = .ok (.invokevirtual 157, 3) := by decide +kernel
theorem dX6_on_46 : decode cX6_on 46 = .ok (.iload_n 3, 1) := by decide +kernel
theorem dX6_on_47 : decode cX6_on 47 = .ok (.ifCond .ne 18, 3) := by decide +kernel
theorem dX6_on_50 : decode cX6_on 50 = .ok (.aload_n 0, 1) := by decide +kernel
theorem dX6_on_51 : decode cX6_on 51 = .ok (.getfield 16, 3) := by decide +kernel
theorem dX6_on_54 : decode cX6_on 54 = .ok (.getfield 93, 3) := by decide +kernel
theorem dX6_on_57 : decode cX6_on 57 = .ok (.iload_n 1, 1) := by decide +kernel
theorem dX6_on_58 : decode cX6_on 58 = .ok (.aaload, 1) := by decide +kernel
theorem dX6_on_59 : decode cX6_on 59 = .ok (.getfield 146, 3) := by decide +kernel
theorem dX6_on_62 : decode cX6_on 62 = .ok (.goto 15, 3) := by decide +kernel
theorem dX6_on_65 : decode cX6_on 65 = .ok (.aload_n 0, 1) := by decide +kernel
theorem dX6_on_66 : decode cX6_on 66 = .ok (.getfield 16, 3) := by decide +kernel
theorem dX6_on_69 : decode cX6_on 69 = .ok (.getfield 93, 3) := by decide +kernel
theorem dX6_on_72 : decode cX6_on 72 = .ok (.iload_n 1, 1) := by decide +kernel
theorem dX6_on_73 : decode cX6_on 73 = .ok (.aaload, 1) := by decide +kernel
theorem dX6_on_74 : decode cX6_on 74 = .ok (.getfield 178, 3) := by decide +kernel
theorem dX6_on_77 : decode cX6_on 77 = .ok (.ireturn, 1) := by decide +kernel
theorem dX6_next_0 : decode cX6_next 0 = .ok (.iload_n 1, 1) := by decide +kernel
theorem dX6_next_1 : decode cX6_next 1 = .ok (.iconst 0, 1) := by decide +kernel
theorem dX6_next_2 : decode cX6_next 2 = .ok (.iconst 3, 1) := by decide +kernel
theorem dX6_next_3 : decode cX6_next 3 = .ok (.invokestatic 66, 3) := by decide +kernel
theorem dX6_next_6 : decode cX6_next 6 = .ok (.ifCond .ne 10, 3) := by decide +kernel
theorem dX6_next_9 : decode cX6_next 9 = .ok (.aload_n 0, 1) := by decide +kernel
theorem dX6_next_10 : decode cX6_next 10 = .ok (.ldc 50, 2) := by decide +kernel
theorem dX6_next_12 : decode cX6_next 12 = .ok (.invokevirtual 51, 3) := by decide +kernel
theorem dX6_next_15 : decode cX6_next 15 = .ok (.ireturn, 1) := by decide +kernel
theorem dX6_next_16 : decode cX6_next 16 = .ok (.aload_n 0, 1) := by decide +kernel
theorem dX6_next_17 : decode cX6_next 17 = .ok (.invokevirtual 181, 3) := by decide +kernel
theorem dX6_next_20 : decode cX6_next 20 = .ok (.istore_n 2, 1) := by decide +kernel
theorem dX6_next_21 : decode cX6_next 21 = .ok (.iload_n 2, 1) := by decide +kernel
theorem dX6_next_22 : decode cX6_next 22 = .ok (.ifCond .ge 10, 3) := by decide +kernel
theorem dX6_next_25 : decode cX6_next 25 = .ok (.aload_n 0, 1) := by decide +kernel
theorem dX6_next_26 : decode cX6_next 26 = .ok (.ldc 184, 2) := by decide +kernel
theorem dX6_next_28 : decode cX6_next 28 = .ok (.invokevirtual 51, 3) := by decide +kernel
theorem dX6_next_31 : decode cX6_next 31 = .ok (.ireturn, 1) := by decide +kernel
theorem dX6_next_32 : decode cX6_next 32 = .ok (.iload_n 1, 1) := by decide +kernel
theorem dX6_next_33 : decode cX6_next 33 = .ok (.tableswitch 58 0 2 #[27, 29, 47], 27) := by decide +kernel
theorem dX6_next_60 : decode cX6_next 60 = .ok (.iload_n 2, 1) := by decide +kernel
theorem dX6_next_61 : decode cX6_next 61 = .ok (.ireturn, 1) := by decide +kernel
theorem dX6_next_62 : decode cX6_next 62 = .ok (.aload_n 0, 1) := by decide +kernel
theorem dX6_next_63 : decode cX6_next 63 = .ok (.getfield 16, 3) := by decide +kernel
theorem dX6_next_66 : decode cX6_next 66 = .ok (.aload_n 0, 1) := by decide +kernel
theorem dX6_next_67 : decode cX6_next 67 = .ok (.getfield 16, 3) := by decide +kernel
theorem dX6_next_70 : decode cX6_next 70 = .ok (.getfield 55, 3) := by decide +kernel
theorem dX6_next_73 : decode cX6_next 73 = .ok (.getfield 97, 3) := by decide +kernel
theorem dX6_next_76 : decode cX6_next 76 = .ok (.invokevirtual 185, 3) := by decide +kernel
theorem dX6_next_79 : decode cX6_next 79 = .ok (.ireturn, 1) := by decide +kernel
theorem dX6_next_80 : decode cX6_next 80 = .ok (.aload_n 0, 1) := by decide +kernel
theorem dX6_next_81 : decode cX6_next 81 = .ok (.getfield 16, 3) := by decide +kernel
theorem dX6_next_84 : decode cX6_next 84 = .ok (.getfield 55, 3) := by decide +kernel
theorem dX6_next_87 : decode cX6_next 87 = .ok (.getfield 105, 3) := by decide +kernel
theorem dX6_next_90 : decode cX6_next 90 = .ok (.ireturn, 1) := by decide +kernel
theorem dX6_next_91 : decode cX6_next 91 = .ok (.aload_n 0, 1) := by decide +kernel
theorem dX6_next_92 : decode cX6_next 92 = .ok (.getfield 16, 3) := by decide +kernel
theorem dX6_next_95 : decode cX6_next 95 = .ok (.getfield 55, 3) := by decide +kernel
theorem dX6_next_98 : decode cX6_next 98 = .ok (.getfield 97, 3) := by decide +kernel
theorem dX6_next_101 : decode cX6_next 101 = .ok (.ireturn, 1) := by decide +kernel
theorem dX6_struck_0 : decode cX6_struck 0 = .ok (.iload_n 1, 1) := by decide +kernel
theorem dX6_struck_1 : decode cX6_struck 1 = .ok (.invokestatic 74, 3) := by decide +kernel
theorem dX6_struck_4 : decode cX6_struck 4 = .ok (.ifCond .ne 10, 3) := by decide +kernel
theorem dX6_struck_7 : decode cX6_struck 7 = .ok (.aload_n 0, 1) := by decide +kernel
theorem dX6_struck_8 : decode cX6_struck 8 = .ok (.ldc 50, 2) := by decide +kernel
theorem dX6_struck_10 : decode cX6_struck 10 = .ok (.invokevirtual 51, 3) := by decide +kernel
theorem dX6_struck_13 : decode cX6_struck 13 = .ok (.ireturn, 1) := by decide +kernel
theorem dX6_struck_14 : decode cX6_struck 14 = .ok (.aload_n 0, 1) := by decide +kernel
theorem dX6_struck_15 : decode cX6_struck 15 = .ok (.getfield 10, 3) := by decide +kernel
theorem dX6_struck_18 : decode cX6_struck 18 = .ok (.iload_n 1, 1) := by decide +kernel
theorem dX6_struck_19 : decode cX6_struck 19 = .ok (.invokevirtual 185, 3) := by decide +kernel
theorem dX6_struck_22 : decode cX6_struck 22 = .ok (.ireturn, 1) := by decide +kernel
theorem dX6_reach_0 : decode cX6_reach 0 = .ok (.aload_n 0, 1) := by decide +kernel
theorem dX6_reach_1 : decode cX6_reach 1 = .ok (.iload_n 1, 1) := by decide +kernel
theorem dX6_reach_2 : decode cX6_reach 2 = .ok (.invokevirtual 90, 3) := by decide +kernel
theorem dX6_reach_5 : decode cX6_reach 5 = .ok (.ifCond .ne 10, 3) := by decide +kernel
theorem dX6_reach_8 : decode cX6_reach 8 = .ok (.aload_n 0, 1) := by decide +kernel
theorem dX6_reach_9 : decode cX6_reach 9 = .ok (.ldc 50, 2) := by decide +kernel
theorem dX6_reach_11 : decode cX6_reach 11 = .ok (.invokevirtual 51, 3) := by decide +kernel
theorem dX6_reach_14 : decode cX6_reach 14 = .ok (.ireturn, 1) := by decide +kernel
theorem dX6_reach_15 : decode cX6_reach 15 = .ok (.iconst 0, 1) := by decide +kernel
theorem dX6_reach_16 : decode cX6_reach 16 = .ok (.istore_n 2, 1) := by decide +kernel
theorem dX6_reach_17 : decode cX6_reach 17 = .ok (.iconst 0, 1) := by decide +kernel
theorem dX6_reach_18 : decode cX6_reach 18 = .ok (.istore_n 3, 1) := by decide +kernel
theorem dX6_reach_19 : decode cX6_reach 19 = .ok (.iload_n 3, 1) := by decide +kernel
theorem dX6_reach_20 : decode cX6_reach 20 = .ok (.bipush 16, 2) := by decide +kernel
theorem dX6_reach_22 : decode cX6_reach 22 = .ok (.if_icmp .ge 27, 3) := by decide +kernel
theorem dX6_reach_25 : decode cX6_reach 25 = .ok (.aload_n 0, 1) := by decide +kernel
theorem dX6_reach_26 : decode cX6_reach 26 = .ok (.getfield 10, 3) := by decide +kernel
theorem dX6_reach_29 : decode cX6_reach 29 = .ok (.iload_n 3, 1) := by decide +kernel
theorem dX6_reach_30 : decode cX6_reach 30 = .ok (.invokevirtual 185, 3) := by decide +kernel
theorem dX6_reach_33 : decode cX6_reach 33 = .ok (.iload_n 1, 1) := by decide +kernel
theorem dX6_reach_34 : decode cX6_reach 34 = .ok (.if_icmp .ne 9, 3) := by decide +kernel
theorem dX6_reach_37 : decode cX6_reach 37 = .ok (.iload_n 2, 1) := by decide +kernel
theorem dX6_reach_38 : decode cX6_reach 38 = .ok (.iconst 1, 1) := by decide +kernel
theorem dX6_reach_39 : decode cX6_reach 39 = .ok (.iload_n 3, 1) := by decide +kernel
theorem dX6_reach_40 : decode cX6_reach 40 = .ok (.ishl, 1) := by decide +kernel
theorem dX6_reach_41 : decode cX6_reach 41 = .ok (.ior, 1) := by decide +kernel
theorem dX6_reach_42 : decode cX6_reach 42 = .ok (.istore_n 2, 1) := by decide +kernel
theorem dX6_reach_43 : decode cX6_reach 43 = .ok (.iinc 3 1, 3) := by decide +kernel
theorem dX6_reach_46 : decode cX6_reach 46 = .ok (.goto (-27), 3) := by decide +kernel
theorem dX6_reach_49 : decode cX6_reach 49 = .ok (.iload_n 2, 1) := by decide +kernel
theorem dX6_reach_50 : decode cX6_reach 50 = .ok (.ireturn, 1) := by decide +kernel
theorem dX6_steals_0 : decode cX6_steals 0 = .ok (.aload_n 0, 1) := by decide +kernel
theorem dX6_steals_1 : decode cX6_steals 1 = .ok (.iload_n 1, 1) := by decide +kernel
theorem dX6_steals_2 : decode cX6_steals 2 = .ok (.invokevirtual 90, 3) := by decide +kernel
theorem dX6_steals_5 : decode cX6_steals 5 = .ok (.ifCond .ne 10, 3) := by decide +kernel
theorem dX6_steals_8 : decode cX6_steals 8 = .ok (.aload_n 0, 1) := by decide +kernel
theorem dX6_steals_9 : decode cX6_steals 9 = .ok (.ldc 50, 2) := by decide +kernel
theorem dX6_steals_11 : decode cX6_steals 11 = .ok (.invokevirtual 51, 3) := by decide +kernel
theorem dX6_steals_14 : decode cX6_steals 14 = .ok (.ireturn, 1) := by decide +kernel
theorem dX6_steals_15 : decode cX6_steals 15 = .ok (.aload_n 0, 1) := by decide +kernel
theorem dX6_steals_16 : decode cX6_steals 16 = .ok (.invokevirtual 181, 3) := by decide +kernel
theorem dX6_steals_19 : decode cX6_steals 19 = .ok (.ifCond .lt 7, 3) := by decide +kernel
theorem dX6_steals_22 : decode cX6_steals 22 = .ok (.iconst 1, 1) := by decide +kernel
theorem dX6_steals_23 : decode cX6_steals 23 = .ok (.goto 4, 3) := by decide +kernel
theorem dX6_steals_26 : decode cX6_steals 26 = .ok (.iconst 0, 1) := by decide +kernel
theorem dX6_steals_27 : decode cX6_steals 27 = .ok (.istore_n 2, 1) := by decide +kernel
theorem dX6_steals_28 : decode cX6_steals 28 = .ok (.iconst 0, 1) := by decide +kernel
theorem dX6_steals_29 : decode cX6_steals 29 = .ok (.istore_n 3, 1) := by decide +kernel
theorem dX6_steals_30 : decode cX6_steals 30 = .ok (.iload_n 2, 1) := by decide +kernel
theorem dX6_steals_31 : decode cX6_steals 31 = .ok (.ifCond .eq 26, 3) := by decide +kernel
theorem dX6_steals_34 : decode cX6_steals 34 = .ok (.iload_n 3, 1) := by decide +kernel
theorem dX6_steals_35 : decode cX6_steals 35 = .ok (.bipush 60, 2) := by decide +kernel
theorem dX6_steals_37 : decode cX6_steals 37 = .ok (.if_icmp .gt 20, 3) := by decide +kernel
theorem dX6_steals_40 : decode cX6_steals 40 = .ok (.aload_n 0, 1) := by decide +kernel
theorem dX6_steals_41 : decode cX6_steals 41 = .ok (.iload_n 1, 1) := by decide +kernel
theorem dX6_steals_42 : decode cX6_steals 42 = .ok (.iload_n 3, 1) := by decide +kernel
theorem dX6_steals_43 : decode cX6_steals 43 = .ok (.invokevirtual 188, 3) := by decide +kernel
theorem dX6_steals_46 : decode cX6_steals 46 = .ok (.ifCond .eq 5, 3) := by decide +kernel
theorem dX6_steals_49 : decode cX6_steals 49 = .ok (.iload_n 3, 1) := by decide +kernel
theorem dX6_steals_50 : decode cX6_steals 50 = .ok (.ireturn, 1) := by decide +kernel
theorem dX6_steals_51 : decode cX6_steals 51 = .ok (.iinc 3 1, 3) := by decide +kernel
theorem dX6_steals_54 : decode cX6_steals 54 = .ok (.goto (-24), 3) := by decide +kernel
theorem dX6_steals_57 : decode cX6_steals 57 = .ok (.aload_n 0, 1) := by decide +kernel
theorem dX6_steals_58 : decode cX6_steals 58 = .ok (.ldc 184, 2) := by decide +kernel
theorem dX6_steals_60 : decode cX6_steals 60 = .ok (.invokevirtual 51, 3) := by decide +kernel
theorem dX6_steals_63 : decode cX6_steals 63 = .ok (.ireturn, 1) := by decide +kernel
theorem dX6_ducks_0 : decode cX6_ducks 0 = .ok (.aload_n 0, 1) := by decide +kernel
theorem dX6_ducks_1 : decode cX6_ducks 1 = .ok (.iload_n 1, 1) := by decide +kernel
theorem dX6_ducks_2 : decode cX6_ducks 2 = .ok (.invokevirtual 90, 3) := by decide +kernel
theorem dX6_ducks_5 : decode cX6_ducks 5 = .ok (.ifCond .ne 10, 3) := by decide +kernel
theorem dX6_ducks_8 : decode cX6_ducks 8 = .ok (.aload_n 0, 1) := by decide +kernel
theorem dX6_ducks_9 : decode cX6_ducks 9 = .ok (.ldc 50, 2) := by decide +kernel
theorem dX6_ducks_11 : decode cX6_ducks 11 = .ok (.invokevirtual 51, 3) := by decide +kernel
theorem dX6_ducks_14 : decode cX6_ducks 14 = .ok (.ireturn, 1) := by decide +kernel
theorem dX6_ducks_15 : decode cX6_ducks 15 = .ok (.aload_n 0, 1) := by decide +kernel
theorem dX6_ducks_16 : decode cX6_ducks 16 = .ok (.invokevirtual 181, 3) := by decide +kernel
theorem dX6_ducks_19 : decode cX6_ducks 19 = .ok (.ifCond .lt 7, 3) := by decide +kernel
theorem dX6_ducks_22 : decode cX6_ducks 22 = .ok (.iconst 1, 1) := by decide +kernel
theorem dX6_ducks_23 : decode cX6_ducks 23 = .ok (.goto 4, 3) := by decide +kernel
theorem dX6_ducks_26 : decode cX6_ducks 26 = .ok (.iconst 0, 1) := by decide +kernel
theorem dX6_ducks_27 : decode cX6_ducks 27 = .ok (.istore_n 2, 1) := by decide +kernel
theorem dX6_ducks_28 : decode cX6_ducks 28 = .ok (.bipush 60, 2) := by decide +kernel
theorem dX6_ducks_30 : decode cX6_ducks 30 = .ok (.istore_n 3, 1) := by decide +kernel
theorem dX6_ducks_31 : decode cX6_ducks 31 = .ok (.iload_n 3, 1) := by decide +kernel
theorem dX6_ducks_32 : decode cX6_ducks 32 = .ok (.ifCond .lt 24, 3) := by decide +kernel
theorem dX6_ducks_35 : decode cX6_ducks 35 = .ok (.iload_n 2, 1) := by decide +kernel
theorem dX6_ducks_36 : decode cX6_ducks 36 = .ok (.ifCond .eq 12, 3) := by decide +kernel
theorem dX6_ducks_39 : decode cX6_ducks 39 = .ok (.aload_n 0, 1) := by decide +kernel
theorem dX6_ducks_40 : decode cX6_ducks 40 = .ok (.iload_n 1, 1) := by decide +kernel
theorem dX6_ducks_41 : decode cX6_ducks 41 = .ok (.iload_n 3, 1) := by decide +kernel
theorem dX6_ducks_42 : decode cX6_ducks 42 = .ok (.invokevirtual 188, 3) := by decide +kernel
theorem dX6_ducks_45 : decode cX6_ducks 45 = .ok (.ifCond .ne 5, 3) := by decide +kernel
theorem dX6_ducks_48 : decode cX6_ducks 48 = .ok (.iload_n 3, 1) := by decide +kernel
theorem dX6_ducks_49 : decode cX6_ducks 49 = .ok (.ireturn, 1) := by decide +kernel
theorem dX6_ducks_50 : decode cX6_ducks 50 = .ok (.iinc 3 (-1), 3) := by decide +kernel
theorem dX6_ducks_53 : decode cX6_ducks 53 = .ok (.goto (-22), 3) := by decide +kernel
theorem dX6_ducks_56 : decode cX6_ducks 56 = .ok (.aload_n 0, 1) := by decide +kernel
theorem dX6_ducks_57 : decode cX6_ducks 57 = .ok (.ldc 184, 2) := by decide +kernel
theorem dX6_ducks_59 : decode cX6_ducks 59 = .ok (.invokevirtual 51, 3) := by decide +kernel
theorem dX6_ducks_62 : decode cX6_ducks 62 = .ok (.ireturn, 1) := by decide +kernel
theorem dX6_place_0 : decode cX6_place 0 = .ok (.aload_n 0, 1) := by decide +kernel
theorem dX6_place_1 : decode cX6_place 1 = .ok (.iload_n 1, 1) := by decide +kernel
theorem dX6_place_2 : decode cX6_place 2 = .ok (.invokevirtual 90, 3) := by decide +kernel
theorem dX6_place_5 : decode cX6_place 5 = .ok (.ifCond .eq 13, 3) := by decide +kernel
theorem dX6_place_8 : decode cX6_place 8 = .ok (.iload_n 2, 1) := by decide +kernel
theorem dX6_place_9 : decode cX6_place 9 = .ok (.iconst 0, 1) := by decide +kernel
theorem dX6_place_10 : decode cX6_place 10 = .ok (.bipush 100, 2) := by decide +kernel
theorem dX6_place_12 : decode cX6_place 12 = .ok (.invokestatic 66, 3) := by decide +kernel
theorem dX6_place_15 : decode cX6_place 15 = .ok (.ifCond .ne 10, 3) := by decide +kernel
theorem dX6_place_18 : decode cX6_place 18 = .ok (.aload_n 0, 1) := by decide +kernel
theorem dX6_place_19 : decode cX6_place 19 = .ok (.ldc 50, 2) := by decide +kernel
theorem dX6_place_21 : decode cX6_place 21 = .ok (.invokevirtual 51, 3) := by decide +kernel
theorem dX6_place_24 : decode cX6_place 24 = .ok (.ireturn, 1) := by decide +kernel
theorem dX6_place_25 : decode cX6_place 25 = .ok (.iconst 0, 1) := by decide +kernel
theorem dX6_place_26 : decode cX6_place 26 = .ok (.istore_n 3, 1) := by decide +kernel
theorem dX6_place_27 : decode cX6_place 27 = .ok (.iconst (-1), 1) := by decide +kernel
theorem dX6_place_28 : decode cX6_place 28 = .ok (.istore 4, 2) := by decide +kernel
theorem dX6_place_30 : decode cX6_place 30 = .ok (.iconst 0, 1) := by decide +kernel
theorem dX6_place_31 : decode cX6_place 31 = .ok (.istore 5, 2) := by decide +kernel
theorem dX6_place_33 : decode cX6_place 33 = .ok (.iload 5, 2) := by decide +kernel
theorem dX6_place_35 : decode cX6_place 35 = .ok (.bipush 16, 2) := by decide +kernel
theorem dX6_place_37 : decode cX6_place 37 = .ok (.if_icmp .ge 69, 3) := by decide +kernel
theorem dX6_place_40 : decode cX6_place 40 = .ok (.aload_n 0, 1) := by decide +kernel
theorem dX6_place_41 : decode cX6_place 41 = .ok (.invokevirtual 175, 3) := by decide +kernel
theorem dX6_place_44 : decode cX6_place 44 = .ok (.aload_n 0, 1) := by decide +kernel
theorem dX6_place_45 : decode cX6_place 45 = .ok (.getfield 16, 3) := by decide +kernel
theorem dX6_place_48 : decode cX6_place 48 = .ok (.getfield 93, 3) := by decide +kernel
theorem dX6_place_51 : decode cX6_place 51 = .ok (.iload_n 1, 1) := by decide +kernel
theorem dX6_place_52 : decode cX6_place 52 = .ok (.aaload, 1) := by decide +kernel
theorem dX6_place_53 : decode cX6_place 53 = .ok (.iload 5, 2) := by decide +kernel
theorem dX6_place_55 : decode cX6_place 55 = .ok (.putfield 120, 3) := by decide +kernel
theorem dX6_place_58 : decode cX6_place 58 = .ok (.aload_n 0, 1) := by decide +kernel
theorem dX6_place_59 : decode cX6_place 59 = .ok (.getfield 16, 3) := by decide +kernel
theorem dX6_place_62 : decode cX6_place 62 = .ok (.iload_n 2, 1) := by decide +kernel
theorem dX6_place_63 : decode cX6_place 63 = .ok (.invokevirtual 157, 3) := by decide +kernel
theorem dX6_place_66 : decode cX6_place 66 = .ok (.aload_n 0, 1) := by decide +kernel
theorem dX6_place_67 : decode cX6_place 67 = .ok (.getfield 16, 3) := by decide +kernel
theorem dX6_place_70 : decode cX6_place 70 = .ok (.getfield 93, 3) := by decide +kernel
theorem dX6_place_73 : decode cX6_place 73 = .ok (.iload_n 1, 1) := by decide +kernel
theorem dX6_place_74 : decode cX6_place 74 = .ok (.aaload, 1) := by decide +kernel
theorem dX6_place_75 : decode cX6_place 75 = .ok (.getfield 178, 3) := by decide +kernel
theorem dX6_place_78 : decode cX6_place 78 = .ok (.iload 4, 2) := by decide +kernel
theorem dX6_place_80 : decode cX6_place 80 = .ok (.if_icmp .le 20, 3) := by decide +kernel
theorem dX6_place_83 : decode cX6_place 83 = .ok (.aload_n 0, 1) := by decide +kernel
theorem dX6_place_84 : decode cX6_place 84 = .ok (.getfield 16, 3) := by decide +kernel
theorem dX6_place_87 : decode cX6_place 87 = .ok (.getfield 93, 3) := by decide +kernel
theorem dX6_place_90 : decode cX6_place 90 = .ok (.iload_n 1, 1) := by decide +kernel
theorem dX6_place_91 : decode cX6_place 91 = .ok (.aaload, 1) := by decide +kernel
theorem dX6_place_92 : decode cX6_place 92 = .ok (.getfield 178, 3) := by decide +kernel
theorem dX6_place_95 : decode cX6_place 95 = .ok (.istore 4, 2) := by decide +kernel
theorem dX6_place_97 : decode cX6_place 97 = .ok (.iload 5, 2) := by decide +kernel
theorem dX6_place_99 : decode cX6_place 99 = .ok (.istore_n 3, 1) := by decide +kernel
theorem dX6_place_100 : decode cX6_place 100 = .ok (.iinc 5 1, 3) := by decide +kernel
theorem dX6_place_103 : decode cX6_place 103 = .ok (.goto (-70), 3) := by decide +kernel
theorem dX6_place_106 : decode cX6_place 106 = .ok (.iload_n 3, 1) := by decide +kernel
theorem dX6_place_107 : decode cX6_place 107 = .ok (.ireturn, 1) := by decide +kernel
theorem dX6_thief_0 : decode cX6_thief 0 = .ok (.aload_n 0, 1) := by decide +kernel
theorem dX6_thief_1 : decode cX6_thief 1 = .ok (.iload_n 1, 1) := by decide +kernel
theorem dX6_thief_2 : decode cX6_thief 2 = .ok (.invokevirtual 90, 3) := by decide +kernel
theorem dX6_thief_5 : decode cX6_thief 5 = .ok (.ifCond .eq 13, 3) := by decide +kernel
theorem dX6_thief_8 : decode cX6_thief 8 = .ok (.iload_n 2, 1) := by decide +kernel
theorem dX6_thief_9 : decode cX6_thief 9 = .ok (.iconst 0, 1) := by decide +kernel
theorem dX6_thief_10 : decode cX6_thief 10 = .ok (.bipush 60, 2) := by decide +kernel
theorem dX6_thief_12 : decode cX6_thief 12 = .ok (.invokestatic 66, 3) := by decide +kernel
theorem dX6_thief_15 : decode cX6_thief 15 = .ok (.ifCond .ne 10, 3) := by decide +kernel
theorem dX6_thief_18 : decode cX6_thief 18 = .ok (.aload_n 0, 1) := by decide +kernel
theorem dX6_thief_19 : decode cX6_thief 19 = .ok (.ldc 50, 2) := by decide +kernel
theorem dX6_thief_21 : decode cX6_thief 21 = .ok (.invokevirtual 51, 3) := by decide +kernel
theorem dX6_thief_24 : decode cX6_thief 24 = .ok (.ireturn, 1) := by decide +kernel
theorem dX6_thief_25 : decode cX6_thief 25 = .ok (.aload_n 0, 1) := by decide +kernel
theorem dX6_thief_26 : decode cX6_thief 26 = .ok (.invokevirtual 175, 3) := by decide +kernel
theorem dX6_thief_29 : decode cX6_thief 29 = .ok (.aload_n 0, 1) := by decide +kernel
theorem dX6_thief_30 : decode cX6_thief 30 = .ok (.getfield 16, 3) := by decide +kernel
theorem dX6_thief_33 : decode cX6_thief 33 = .ok (.iload_n 2, 1) := by decide +kernel
theorem dX6_thief_34 : decode cX6_thief 34 = .ok (.invokevirtual 157, 3) := by decide +kernel
theorem dX6_thief_37 : decode cX6_thief 37 = .ok (.aload_n 0, 1) := by decide +kernel
theorem dX6_thief_38 : decode cX6_thief 38 = .ok (.getfield 16, 3) := by decide +kernel
theorem dX6_thief_41 : decode cX6_thief 41 = .ok (.getfield 93, 3) := by decide +kernel
theorem dX6_thief_44 : decode cX6_thief 44 = .ok (.iload_n 1, 1) := by decide +kernel
theorem dX6_thief_45 : decode cX6_thief 45 = .ok (.aaload, 1) := by decide +kernel
theorem dX6_thief_46 : decode cX6_thief 46 = .ok (.getfield 178, 3) := by decide +kernel
theorem dX6_thief_49 : decode cX6_thief 49 = .ok (.istore_n 3, 1) := by decide +kernel
theorem dX6_thief_50 : decode cX6_thief 50 = .ok (.iconst (-1), 1) := by decide +kernel
theorem dX6_thief_51 : decode cX6_thief 51 = .ok (.istore 4, 2) := by decide +kernel
theorem dX6_thief_53 : decode cX6_thief 53 = .ok (.iconst 0, 1) := by decide +kernel
theorem dX6_thief_54 : decode cX6_thief 54 = .ok (.istore 5, 2) := by decide +kernel
theorem dX6_thief_56 : decode cX6_thief 56 = .ok (.iload 5, 2) := by decide +kernel
theorem dX6_thief_58 : decode cX6_thief 58 = .ok (.aload_n 0, 1) := by decide +kernel
theorem dX6_thief_59 : decode cX6_thief 59 = .ok (.getfield 10, 3) := by decide +kernel
theorem dX6_thief_62 : decode cX6_thief 62 = .ok (.getfield 86, 3) := by decide +kernel
theorem dX6_thief_65 : decode cX6_thief 65 = .ok (.if_icmp .ge 78, 3) := by decide +kernel
theorem dX6_thief_68 : decode cX6_thief 68 = .ok (.iload 5, 2) := by decide +kernel
theorem dX6_thief_70 : decode cX6_thief 70 = .ok (.iload_n 1, 1) := by decide +kernel
theorem dX6_thief_71 : decode cX6_thief 71 = .ok (.if_icmp .ne 6, 3) := by decide +kernel
theorem dX6_thief_74 : decode cX6_thief 74 = .ok (.goto 63, 3) := by decide +kernel
theorem dX6_thief_77 : decode cX6_thief 77 = .ok (.aload_n 0, 1) := by decide +kernel
theorem dX6_thief_78 : decode cX6_thief 78 = .ok (.invokevirtual 175, 3) := by decide +kernel
theorem dX6_thief_81 : decode cX6_thief 81 = .ok (.aload_n 0, 1) := by decide +kernel
theorem dX6_thief_82 : decode cX6_thief 82 = .ok (.getfield 16, 3) := by decide +kernel
theorem dX6_thief_85 : decode cX6_thief 85 = .ok (.iload 5, 2) := by decide +kernel
theorem dX6_thief_87 : decode cX6_thief 87 = .ok (.invokevirtual 149, 3) := by decide +kernel
theorem dX6_thief_90 : decode cX6_thief 90 = .ok (.aload_n 0, 1) := by decide +kernel
theorem dX6_thief_91 : decode cX6_thief 91 = .ok (.getfield 16, 3) := by decide +kernel
theorem dX6_thief_94 : decode cX6_thief 94 = .ok (.iload_n 2, 1) := by decide +kernel
theorem dX6_thief_95 : decode cX6_thief 95 = .ok (.invokevirtual 157, 3) := by decide +kernel
theorem dX6_thief_98 : decode cX6_thief 98 = .ok (.aload_n 0, 1) := by decide +kernel
theorem dX6_thief_99 : decode cX6_thief 99 = .ok (.getfield 16, 3) := by decide +kernel
theorem dX6_thief_102 : decode cX6_thief 102 = .ok (.getfield 93, 3) := by decide +kernel
theorem dX6_thief_105 : decode cX6_thief 105 = .ok (.iload 5, 2) := by decide +kernel
theorem dX6_thief_107 : decode cX6_thief 107 = .ok (.iload_n 1, 1) := by decide +kernel
theorem dX6_thief_108 : decode cX6_thief 108 = .ok (.if_icmp .ge 9, 3) := by decide +kernel
theorem dX6_thief_111 : decode cX6_thief 111 = .ok (.iload_n 1, 1) := by decide +kernel
theorem dX6_thief_112 : decode cX6_thief 112 = .ok (.iconst 1, 1) := by decide +kernel
theorem dX6_thief_113 : decode cX6_thief 113 = .ok (.isub, 1) := by decide +kernel
theorem dX6_thief_114 : decode cX6_thief 114 = .ok (.goto 4, 3) := by decide +kernel
theorem dX6_thief_117 : decode cX6_thief 117 = .ok (.iload_n 1, 1) := by decide +kernel
theorem dX6_thief_118 : decode cX6_thief 118 = .ok (.aaload, 1) := by decide +kernel
theorem dX6_thief_119 : decode cX6_thief 119 = .ok (.getfield 178, 3) := by decide +kernel
theorem dX6_thief_122 : decode cX6_thief 122 = .ok (.istore 6, 2) := by decide +kernel
theorem dX6_thief_124 : decode cX6_thief 124 = .ok (.iload 6, 2) := by decide +kernel
theorem dX6_thief_126 : decode cX6_thief 126 = .ok (.iload_n 3, 1) := by decide +kernel
theorem dX6_thief_127 : decode cX6_thief 127 = .ok (.if_icmp .le 10, 3) := by decide +kernel
theorem dX6_thief_130 : decode cX6_thief 130 = .ok (.iload 6, 2) := by decide +kernel
theorem dX6_thief_132 : decode cX6_thief 132 = .ok (.istore_n 3, 1) := by decide +kernel
theorem dX6_thief_133 : decode cX6_thief 133 = .ok (.iload 5, 2) := by decide +kernel
theorem dX6_thief_135 : decode cX6_thief 135 = .ok (.istore 4, 2) := by decide +kernel
theorem dX6_thief_137 : decode cX6_thief 137 = .ok (.iinc 5 1, 3) := by decide +kernel
theorem dX6_thief_140 : decode cX6_thief 140 = .ok (.goto (-84), 3) := by decide +kernel
theorem dX6_thief_143 : decode cX6_thief 143 = .ok (.iload 4, 2) := by decide +kernel
theorem dX6_thief_145 : decode cX6_thief 145 = .ok (.ifCond .ge 12, 3) := by decide +kernel
theorem dX6_thief_148 : decode cX6_thief 148 = .ok (.aload_n 0, 1) := by decide +kernel
theorem dX6_thief_149 : decode cX6_thief 149 = .ok (.ldc 184, 2) := by decide +kernel
theorem dX6_thief_151 : decode cX6_thief 151 = .ok (.invokevirtual 51, 3) := by decide +kernel
theorem dX6_thief_154 : decode cX6_thief 154 = .ok (.goto 5, 3) := by decide +kernel
theorem dX6_thief_157 : decode cX6_thief 157 = .ok (.iload 4, 2) := by decide +kernel
theorem dX6_thief_159 : decode cX6_thief 159 = .ok (.ireturn, 1) := by decide +kernel
theorem dX6_kind_0 : decode cX6_kind 0 = .ok (.aload_n 0, 1) := by decide +kernel
theorem dX6_kind_1 : decode cX6_kind 1 = .ok (.iload_n 1, 1) := by decide +kernel
theorem dX6_kind_2 : decode cX6_kind 2 = .ok (.invokevirtual 90, 3) := by decide +kernel
theorem dX6_kind_5 : decode cX6_kind 5 = .ok (.ifCond .eq 13, 3) := by decide +kernel
theorem dX6_kind_8 : decode cX6_kind 8 = .ok (.iload_n 2, 1) := by decide +kernel
theorem dX6_kind_9 : decode cX6_kind 9 = .ok (.iconst 0, 1) := by decide +kernel
theorem dX6_kind_10 : decode cX6_kind 10 = .ok (.bipush 60, 2) := by decide +kernel
theorem dX6_kind_12 : decode cX6_kind 12 = .ok (.invokestatic 66, 3) := by decide +kernel
theorem dX6_kind_15 : decode cX6_kind 15 = .ok (.ifCond .ne 10, 3) := by decide +kernel
theorem dX6_kind_18 : decode cX6_kind 18 = .ok (.aload_n 0, 1) := by decide +kernel
theorem dX6_kind_19 : decode cX6_kind 19 = .ok (.ldc 50, 2) := by decide +kernel
theorem dX6_kind_21 : decode cX6_kind 21 = .ok (.invokevirtual 51, 3) := by decide +kernel
theorem dX6_kind_24 : decode cX6_kind 24 = .ok (.ireturn, 1) := by decide +kernel
theorem dX6_kind_25 : decode cX6_kind 25 = .ok (.iconst 0, 1) := by decide +kernel
theorem dX6_kind_26 : decode cX6_kind 26 = .ok (.istore_n 3, 1) := by decide +kernel
theorem dX6_kind_27 : decode cX6_kind 27 = .ok (.iconst (-1), 1) := by decide +kernel
theorem dX6_kind_28 : decode cX6_kind 28 = .ok (.istore 4, 2) := by decide +kernel
theorem dX6_kind_30 : decode cX6_kind 30 = .ok (.iconst 0, 1) := by decide +kernel
theorem dX6_kind_31 : decode cX6_kind 31 = .ok (.istore 5, 2) := by decide +kernel
theorem dX6_kind_33 : decode cX6_kind 33 = .ok (.iconst 0, 1) := by decide +kernel
theorem dX6_kind_34 : decode cX6_kind 34 = .ok (.istore 6, 2) := by decide +kernel
theorem dX6_kind_36 : decode cX6_kind 36 = .ok (.iload 6, 2) := by decide +kernel
theorem dX6_kind_38 : decode cX6_kind 38 = .ok (.bipush 6, 2) := by decide +kernel
theorem dX6_kind_40 : decode cX6_kind 40 = .ok (.if_icmp .ge 86, 3) := by decide +kernel
theorem dX6_kind_43 : decode cX6_kind 43 = .ok (.aload_n 0, 1) := by decide +kernel
theorem dX6_kind_44 : decode cX6_kind 44 = .ok (.invokevirtual 175, 3) := by decide +kernel
theorem dX6_kind_47 : decode cX6_kind 47 = .ok (.aload_n 0, 1) := by decide +kernel
theorem dX6_kind_48 : decode cX6_kind 48 = .ok (.getfield 16, 3) := by decide +kernel
theorem dX6_kind_51 : decode cX6_kind 51 = .ok (.getfield 93, 3) := by decide +kernel
theorem dX6_kind_54 : decode cX6_kind 54 = .ok (.iload_n 1, 1) := by decide +kernel
theorem dX6_kind_55 : decode cX6_kind 55 = .ok (.aaload, 1) := by decide +kernel
theorem dX6_kind_56 : decode cX6_kind 56 = .ok (.astore 7, 2) := by decide +kernel
theorem dX6_kind_58 : decode cX6_kind 58 = .ok (.aload 7, 2) := by decide +kernel
theorem dX6_kind_60 : decode cX6_kind 60 = .ok (.iload 6, 2) := by decide +kernel
theorem dX6_kind_62 : decode cX6_kind 62 = .ok (.putfield 139, 3) := by decide +kernel
theorem dX6_kind_65 : decode cX6_kind 65 = .ok (.aload_n 0, 1) := by decide +kernel
theorem dX6_kind_66 : decode cX6_kind 66 = .ok (.getfield 16, 3) := by decide +kernel
theorem dX6_kind_69 : decode cX6_kind 69 = .ok (.iload_n 2, 1) := by decide +kernel
theorem dX6_kind_70 : decode cX6_kind 70 = .ok (.invokevirtual 157, 3) := by decide +kernel
theorem dX6_kind_73 : decode cX6_kind 73 = .ok (.aload 7, 2) := by decide +kernel
theorem dX6_kind_75 : decode cX6_kind 75 = .ok (.getfield 178, 3) := by decide +kernel
theorem dX6_kind_78 : decode cX6_kind 78 = .ok (.iload 4, 2) := by decide +kernel
theorem dX6_kind_80 : decode cX6_kind 80 = .ok (.if_icmp .gt 23, 3) := by decide +kernel
theorem dX6_kind_83 : decode cX6_kind 83 = .ok (.aload 7, 2) := by decide +kernel
theorem dX6_kind_85 : decode cX6_kind 85 = .ok (.getfield 178, 3) := by decide +kernel
theorem dX6_kind_88 : decode cX6_kind 88 = .ok (.iload 4, 2) := by decide +kernel
theorem dX6_kind_90 : decode cX6_kind 90 = .ok (.if_icmp .ne 30, 3) := by decide +kernel
theorem dX6_kind_93 : decode cX6_kind 93 = .ok (.aload 7, 2) := by decide +kernel
theorem dX6_kind_95 : decode cX6_kind 95 = .ok (.getfield 146, 3) := by decide +kernel
theorem dX6_kind_98 : decode cX6_kind 98 = .ok (.iload 5, 2) := by decide +kernel
theorem dX6_kind_100 : decode cX6_kind 100 = .ok (.if_icmp .ge 20, 3) := by decide +kernel
theorem dX6_kind_103 : decode cX6_kind 103 = .ok (.iload 6, 2) := by decide +kernel
theorem dX6_kind_105 : decode cX6_kind 105 = .ok (.istore_n 3, 1) := by decide +kernel
theorem dX6_kind_106 : decode cX6_kind 106 = .ok (.aload 7, 2) := by decide +kernel
theorem dX6_kind_108 : decode cX6_kind 108 = .ok (.getfield 178, 3) := by decide +kernel
theorem dX6_kind_111 : decode cX6_kind 111 = .ok (.istore 4, 2) := by decide +kernel
theorem dX6_kind_113 : decode cX6_kind 113 = .ok (.aload 7, 2) := by decide +kernel
theorem dX6_kind_115 : decode cX6_kind 115 = .ok (.getfield 146, 3) := by decide +kernel
theorem dX6_kind_118 : decode cX6_kind 118 = .ok (.istore 5, 2) := by decide +kernel
theorem dX6_kind_120 : decode cX6_kind 120 = .ok (.iinc 6 1, 3) := by decide +kernel
theorem dX6_kind_123 : decode cX6_kind 123 = .ok (.goto (-87), 3) := by decide +kernel
theorem dX6_kind_126 : decode cX6_kind 126 = .ok (.iload_n 3, 1) := by decide +kernel
theorem dX6_kind_127 : decode cX6_kind 127 = .ok (.ireturn, 1) := by decide +kernel
theorem dX6_clocks_0 : decode cX6_clocks 0 = .ok (.aload_n 0, 1) := by decide +kernel
theorem dX6_clocks_1 : decode cX6_clocks 1 = .ok (.iload_n 1, 1) := by decide +kernel
theorem dX6_clocks_2 : decode cX6_clocks 2 = .ok (.invokevirtual 90, 3) := by decide +kernel
theorem dX6_clocks_5 : decode cX6_clocks 5 = .ok (.ifCond .eq 13, 3) := by decide +kernel
theorem dX6_clocks_8 : decode cX6_clocks 8 = .ok (.iload_n 2, 1) := by decide +kernel
theorem dX6_clocks_9 : decode cX6_clocks 9 = .ok (.iconst 0, 1) := by decide +kernel
theorem dX6_clocks_10 : decode cX6_clocks 10 = .ok (.bipush 100, 2) := by decide +kernel
theorem dX6_clocks_12 : decode cX6_clocks 12 = .ok (.invokestatic 66, 3) := by decide +kernel
theorem dX6_clocks_15 : decode cX6_clocks 15 = .ok (.ifCond .ne 10, 3) := by decide +kernel
theorem dX6_clocks_18 : decode cX6_clocks 18 = .ok (.aload_n 0, 1) := by decide +kernel
theorem dX6_clocks_19 : decode cX6_clocks 19 = .ok (.ldc 50, 2) := by decide +kernel
theorem dX6_clocks_21 : decode cX6_clocks 21 = .ok (.invokevirtual 51, 3) := by decide +kernel
theorem dX6_clocks_24 : decode cX6_clocks 24 = .ok (.ireturn, 1) := by decide +kernel
theorem dX6_clocks_25 : decode cX6_clocks 25 = .ok (.aload_n 0, 1) := by decide +kernel
theorem dX6_clocks_26 : decode cX6_clocks 26 = .ok (.iload_n 1, 1) := by decide +kernel
theorem dX6_clocks_27 : decode cX6_clocks 27 = .ok (.iload_n 2, 1) := by decide +kernel
theorem dX6_clocks_28 : decode cX6_clocks 28 = .ok (.invokevirtual 191, 3) := by decide +kernel
theorem dX6_clocks_31 : decode cX6_clocks 31 = .ok (.ireturn, 1) := by decide +kernel
theorem dX6_covers_0 : decode cX6_covers 0 = .ok (.aload_n 0, 1) := by decide +kernel
theorem dX6_covers_1 : decode cX6_covers 1 = .ok (.iload_n 1, 1) := by decide +kernel
theorem dX6_covers_2 : decode cX6_covers 2 = .ok (.invokevirtual 90, 3) := by decide +kernel
theorem dX6_covers_5 : decode cX6_covers 5 = .ok (.ifCond .eq 13, 3) := by decide +kernel
theorem dX6_covers_8 : decode cX6_covers 8 = .ok (.iload_n 2, 1) := by decide +kernel
theorem dX6_covers_9 : decode cX6_covers 9 = .ok (.iconst 0, 1) := by decide +kernel
theorem dX6_covers_10 : decode cX6_covers 10 = .ok (.bipush 100, 2) := by decide +kernel
theorem dX6_covers_12 : decode cX6_covers 12 = .ok (.invokestatic 66, 3) := by decide +kernel
theorem dX6_covers_15 : decode cX6_covers 15 = .ok (.ifCond .ne 10, 3) := by decide +kernel
theorem dX6_covers_18 : decode cX6_covers 18 = .ok (.aload_n 0, 1) := by decide +kernel
theorem dX6_covers_19 : decode cX6_covers 19 = .ok (.ldc 50, 2) := by decide +kernel
theorem dX6_covers_21 : decode cX6_covers 21 = .ok (.invokevirtual 51, 3) := by decide +kernel
theorem dX6_covers_24 : decode cX6_covers 24 = .ok (.ireturn, 1) := by decide +kernel
theorem dX6_covers_25 : decode cX6_covers 25 = .ok (.aload_n 0, 1) := by decide +kernel
theorem dX6_covers_26 : decode cX6_covers 26 = .ok (.iload_n 1, 1) := by decide +kernel
theorem dX6_covers_27 : decode cX6_covers 27 = .ok (.iload_n 2, 1) := by decide +kernel
theorem dX6_covers_28 : decode cX6_covers 28 = .ok (.invokevirtual 191, 3) := by decide +kernel
theorem dX6_covers_31 : decode cX6_covers 31 = .ok (.istore_n 3, 1) := by decide +kernel
theorem dX6_covers_32 : decode cX6_covers 32 = .ok (.iload_n 3, 1) := by decide +kernel
theorem dX6_covers_33 : decode cX6_covers 33 = .ok (.iload_n 3, 1) := by decide +kernel
theorem dX6_covers_34 : decode cX6_covers 34 = .ok (.invokestatic 194, 3) := by decide +kernel
theorem dX6_covers_37 : decode cX6_covers 37 = .ok (.invokestatic 197, 3) := by decide +kernel
theorem dX6_covers_40 : decode cX6_covers 40 = .ok (.ireturn, 1) := by decide +kernel
theorem dX6_from_0 : decode cX6_from 0 = .ok (.aload_n 0, 1) := by decide +kernel
theorem dX6_from_1 : decode cX6_from 1 = .ok (.iload_n 1, 1) := by decide +kernel
theorem dX6_from_2 : decode cX6_from 2 = .ok (.invokevirtual 90, 3) := by decide +kernel
theorem dX6_from_5 : decode cX6_from 5 = .ok (.ifCond .eq 13, 3) := by decide +kernel
theorem dX6_from_8 : decode cX6_from 8 = .ok (.iload_n 2, 1) := by decide +kernel
theorem dX6_from_9 : decode cX6_from 9 = .ok (.iconst 0, 1) := by decide +kernel
theorem dX6_from_10 : decode cX6_from 10 = .ok (.bipush 100, 2) := by decide +kernel
theorem dX6_from_12 : decode cX6_from 12 = .ok (.invokestatic 66, 3) := by decide +kernel
theorem dX6_from_15 : decode cX6_from 15 = .ok (.ifCond .ne 10, 3) := by decide +kernel
theorem dX6_from_18 : decode cX6_from 18 = .ok (.aload_n 0, 1) := by decide +kernel
theorem dX6_from_19 : decode cX6_from 19 = .ok (.ldc 50, 2) := by decide +kernel
theorem dX6_from_21 : decode cX6_from 21 = .ok (.invokevirtual 51, 3) := by decide +kernel
theorem dX6_from_24 : decode cX6_from 24 = .ok (.ireturn, 1) := by decide +kernel
theorem dX6_from_25 : decode cX6_from 25 = .ok (.aload_n 0, 1) := by decide +kernel
theorem dX6_from_26 : decode cX6_from 26 = .ok (.iload_n 1, 1) := by decide +kernel
theorem dX6_from_27 : decode cX6_from 27 = .ok (.iload_n 2, 1) := by decide +kernel
theorem dX6_from_28 : decode cX6_from 28 = .ok (.invokevirtual 191, 3) := by decide +kernel
theorem dX6_from_31 : decode cX6_from 31 = .ok (.invokestatic 194, 3) := by decide +kernel
theorem dX6_from_34 : decode cX6_from 34 = .ok (.ireturn, 1) := by decide +kernel
theorem dX6_strays_0 : decode cX6_strays 0 = .ok (.iload_n 1, 1) := by decide +kernel
theorem dX6_strays_1 : decode cX6_strays 1 = .ok (.iconst 0, 1) := by decide +kernel
theorem dX6_strays_2 : decode cX6_strays 2 = .ok (.bipush 100, 2) := by decide +kernel
theorem dX6_strays_4 : decode cX6_strays 4 = .ok (.invokestatic 66, 3) := by decide +kernel
theorem dX6_strays_7 : decode cX6_strays 7 = .ok (.ifCond .ne 10, 3) := by decide +kernel
theorem dX6_strays_10 : decode cX6_strays 10 = .ok (.aload_n 0, 1) := by decide +kernel
theorem dX6_strays_11 : decode cX6_strays 11 = .ok (.ldc 50, 2) := by decide +kernel
theorem dX6_strays_13 : decode cX6_strays 13 = .ok (.invokevirtual 51, 3) := by decide +kernel
theorem dX6_strays_16 : decode cX6_strays 16 = .ok (.ireturn, 1) := by decide +kernel
theorem dX6_strays_17 : decode cX6_strays 17 = .ok (.aload_n 0, 1) := by decide +kernel
theorem dX6_strays_18 : decode cX6_strays 18 = .ok (.invokevirtual 175, 3) := by decide +kernel
theorem dX6_strays_21 : decode cX6_strays 21 = .ok (.aload_n 0, 1) := by decide +kernel
theorem dX6_strays_22 : decode cX6_strays 22 = .ok (.getfield 16, 3) := by decide +kernel
theorem dX6_strays_25 : decode cX6_strays 25 = .ok (.iload_n 1, 1) := by decide +kernel
theorem dX6_strays_26 : decode cX6_strays 26 = .ok (.invokevirtual 157, 3) := by decide +kernel
theorem dX6_strays_29 : decode cX6_strays 29 = .ok (.aload_n 0, 1) := by decide +kernel
theorem dX6_strays_30 : decode cX6_strays 30 = .ok (.getfield 16, 3) := by decide +kernel
theorem dX6_strays_33 : decode cX6_strays 33 = .ok (.getfield 169, 3) := by decide +kernel
theorem dX6_strays_36 : decode cX6_strays 36 = .ok (.ireturn, 1) := by decide +kernel
theorem dX6_fork_0 : decode cX6_fork 0 = .ok (.aload_n 0, 1) := by decide +kernel
theorem dX6_fork_1 : decode cX6_fork 1 = .ok (.iload_n 1, 1) := by decide +kernel
theorem dX6_fork_2 : decode cX6_fork 2 = .ok (.invokevirtual 90, 3) := by decide +kernel
theorem dX6_fork_5 : decode cX6_fork 5 = .ok (.ifCond .eq 12, 3) := by decide +kernel
theorem dX6_fork_8 : decode cX6_fork 8 = .ok (.iload_n 2, 1) := by decide +kernel
theorem dX6_fork_9 : decode cX6_fork 9 = .ok (.iconst 0, 1) := by decide +kernel
theorem dX6_fork_10 : decode cX6_fork 10 = .ok (.iconst 1, 1) := by decide +kernel
theorem dX6_fork_11 : decode cX6_fork 11 = .ok (.invokestatic 66, 3) := by decide +kernel
theorem dX6_fork_14 : decode cX6_fork 14 = .ok (.ifCond .ne 10, 3) := by decide +kernel
theorem dX6_fork_17 : decode cX6_fork 17 = .ok (.aload_n 0, 1) := by decide +kernel
theorem dX6_fork_18 : decode cX6_fork 18 = .ok (.ldc 50, 2) := by decide +kernel
theorem dX6_fork_20 : decode cX6_fork 20 = .ok (.invokevirtual 51, 3) := by decide +kernel
theorem dX6_fork_23 : decode cX6_fork 23 = .ok (.ireturn, 1) := by decide +kernel
theorem dX6_fork_24 : decode cX6_fork 24 = .ok (.aload_n 0, 1) := by decide +kernel
theorem dX6_fork_25 : decode cX6_fork 25 = .ok (.getfield 10, 3) := by decide +kernel
theorem dX6_fork_28 : decode cX6_fork 28 = .ok (.invokevirtual 200, 3) := by decide +kernel
theorem dX6_fork_31 : decode cX6_fork 31 = .ok (.istore_n 3, 1) := by decide +kernel
theorem dX6_fork_32 : decode cX6_fork 32 = .ok (.aload_n 0, 1) := by decide +kernel
theorem dX6_fork_33 : decode cX6_fork 33 = .ok (.getfield 10, 3) := by decide +kernel
theorem dX6_fork_36 : decode cX6_fork 36 = .ok (.iload_n 1, 1) := by decide +kernel
theorem dX6_fork_37 : decode cX6_fork 37 = .ok (.invokevirtual 203, 3) := by decide +kernel
theorem dX6_fork_40 : decode cX6_fork 40 = .ok (.istore 4, 2) := by decide +kernel
theorem dX6_fork_42 : decode cX6_fork 42 = .ok (.iload 4, 2) := by decide +kernel
theorem dX6_fork_44 : decode cX6_fork 44 = .ok (.iload_n 3, 1) := by decide +kernel
theorem dX6_fork_45 : decode cX6_fork 45 = .ok (.invokestatic 206, 3) := by decide +kernel
theorem dX6_fork_48 : decode cX6_fork 48 = .ok (.istore 5, 2) := by decide +kernel
theorem dX6_fork_50 : decode cX6_fork 50 = .ok (.iload 4, 2) := by decide +kernel
theorem dX6_fork_52 : decode cX6_fork 52 = .ok (.ifCond .eq 8, 3) := by decide +kernel
theorem dX6_fork_55 : decode cX6_fork 55 = .ok (.iload 5, 2) := by decide +kernel
theorem dX6_fork_57 : decode cX6_fork 57 = .ok (.ifCond .ne 13, 3) := by decide +kernel
theorem dX6_fork_60 : decode cX6_fork 60 = .ok (.iload_n 2, 1) := by decide +kernel
theorem dX6_fork_61 : decode cX6_fork 61 = .ok (.ifCond .ne 7, 3) := by decide +kernel
theorem dX6_fork_64 : decode cX6_fork 64 = .ok (.iconst 0, 1) := by decide +kernel
theorem dX6_fork_65 : decode cX6_fork 65 = .ok (.goto 4, 3) := by decide +kernel
theorem dX6_fork_68 : decode cX6_fork 68 = .ok (.iconst 1, 1) := by decide +kernel
theorem dX6_fork_69 : decode cX6_fork 69 = .ok (.ireturn, 1) := by decide +kernel
theorem dX6_fork_70 : decode cX6_fork 70 = .ok (.iload_n 2, 1) := by decide +kernel
theorem dX6_fork_71 : decode cX6_fork 71 = .ok (.ifCond .ne 11, 3) := by decide +kernel
theorem dX6_fork_74 : decode cX6_fork 74 = .ok (.iload 4, 2) := by decide +kernel
theorem dX6_fork_76 : decode cX6_fork 76 = .ok (.iload 5, 2) := by decide +kernel
theorem dX6_fork_78 : decode cX6_fork 78 = .ok (.idiv, 1) := by decide +kernel
theorem dX6_fork_79 : decode cX6_fork 79 = .ok (.goto 7, 3) := by decide +kernel
theorem dX6_fork_82 : decode cX6_fork 82 = .ok (.iload_n 3, 1) := by decide +kernel
theorem dX6_fork_83 : decode cX6_fork 83 = .ok (.iload 5, 2) := by decide +kernel
theorem dX6_fork_85 : decode cX6_fork 85 = .ok (.idiv, 1) := by decide +kernel
theorem dX6_fork_86 : decode cX6_fork 86 = .ok (.ireturn, 1) := by decide +kernel
theorem dX6_share_0 : decode cX6_share 0 = .ok (.aload_n 0, 1) := by decide +kernel
theorem dX6_share_1 : decode cX6_share 1 = .ok (.iload_n 1, 1) := by decide +kernel
theorem dX6_share_2 : decode cX6_share 2 = .ok (.invokevirtual 90, 3) := by decide +kernel
theorem dX6_share_5 : decode cX6_share 5 = .ok (.ifCond .ne 10, 3) := by decide +kernel
theorem dX6_share_8 : decode cX6_share 8 = .ok (.aload_n 0, 1) := by decide +kernel
theorem dX6_share_9 : decode cX6_share 9 = .ok (.ldc 50, 2) := by decide +kernel
theorem dX6_share_11 : decode cX6_share 11 = .ok (.invokevirtual 51, 3) := by decide +kernel
theorem dX6_share_14 : decode cX6_share 14 = .ok (.ireturn, 1) := by decide +kernel
theorem dX6_share_15 : decode cX6_share 15 = .ok (.aload_n 0, 1) := by decide +kernel
theorem dX6_share_16 : decode cX6_share 16 = .ok (.getfield 10, 3) := by decide +kernel
theorem dX6_share_19 : decode cX6_share 19 = .ok (.invokevirtual 200, 3) := by decide +kernel
theorem dX6_share_22 : decode cX6_share 22 = .ok (.istore_n 2, 1) := by decide +kernel
theorem dX6_share_23 : decode cX6_share 23 = .ok (.iload_n 2, 1) := by decide +kernel
theorem dX6_share_24 : decode cX6_share 24 = .ok (.ifCond .ne 5, 3) := by decide +kernel
theorem dX6_share_27 : decode cX6_share 27 = .ok (.iconst 0, 1) := by decide +kernel
theorem dX6_share_28 : decode cX6_share 28 = .ok (.ireturn, 1) := by decide +kernel
theorem dX6_share_29 : decode cX6_share 29 = .ok (.aload_n 0, 1) := by decide +kernel
theorem dX6_share_30 : decode cX6_share 30 = .ok (.getfield 10, 3) := by decide +kernel
theorem dX6_share_33 : decode cX6_share 33 = .ok (.getfield 55, 3) := by decide +kernel
theorem dX6_share_36 : decode cX6_share 36 = .ok (.getfield 105, 3) := by decide +kernel
theorem dX6_share_39 : decode cX6_share 39 = .ok (.istore_n 3, 1) := by decide +kernel
theorem dX6_share_40 : decode cX6_share 40 = .ok (.iconst 0, 1) := by decide +kernel
theorem dX6_share_41 : decode cX6_share 41 = .ok (.istore 4, 2) := by decide +kernel
theorem dX6_share_43 : decode cX6_share 43 = .ok (.aload_n 0, 1) := by decide +kernel
theorem dX6_share_44 : decode cX6_share 44 = .ok (.getfield 10, 3) := by decide +kernel
theorem dX6_share_47 : decode cX6_share 47 = .ok (.iload_n 1, 1) := by decide +kernel
theorem dX6_share_48 : decode cX6_share 48 = .ok (.invokevirtual 203, 3) := by decide +kernel
theorem dX6_share_51 : decode cX6_share 51 = .ok (.iload_n 2, 1) := by decide +kernel
theorem dX6_share_52 : decode cX6_share 52 = .ok (.irem, 1) := by decide +kernel
theorem dX6_share_53 : decode cX6_share 53 = .ok (.istore 5, 2) := by decide +kernel
theorem dX6_share_55 : decode cX6_share 55 = .ok (.iconst 0, 1) := by decide +kernel
theorem dX6_share_56 : decode cX6_share 56 = .ok (.istore 6, 2) := by decide +kernel
theorem dX6_share_58 : decode cX6_share 58 = .ok (.iload 6, 2) := by decide +kernel
theorem dX6_share_60 : decode cX6_share 60 = .ok (.aload_n 0, 1) := by decide +kernel
theorem dX6_share_61 : decode cX6_share 61 = .ok (.getfield 10, 3) := by decide +kernel
theorem dX6_share_64 : decode cX6_share 64 = .ok (.getfield 86, 3) := by decide +kernel
theorem dX6_share_67 : decode cX6_share 67 = .ok (.if_icmp .ge 59, 3) := by decide +kernel
theorem dX6_share_70 : decode cX6_share 70 = .ok (.iload_n 3, 1) := by decide +kernel
theorem dX6_share_71 : decode cX6_share 71 = .ok (.aload_n 0, 1) := by decide +kernel
theorem dX6_share_72 : decode cX6_share 72 = .ok (.getfield 10, 3) := by decide +kernel
theorem dX6_share_75 : decode cX6_share 75 = .ok (.iload 6, 2) := by decide +kernel
theorem dX6_share_77 : decode cX6_share 77 = .ok (.invokevirtual 203, 3) := by decide +kernel
theorem dX6_share_80 : decode cX6_share 80 = .ok (.iload_n 2, 1) := by decide +kernel
theorem dX6_share_81 : decode cX6_share 81 = .ok (.idiv, 1) := by decide +kernel
theorem dX6_share_82 : decode cX6_share 82 = .ok (.isub, 1) := by decide +kernel
theorem dX6_share_83 : decode cX6_share 83 = .ok (.istore_n 3, 1) := by decide +kernel
theorem dX6_share_84 : decode cX6_share 84 = .ok (.aload_n 0, 1) := by decide +kernel
theorem dX6_share_85 : decode cX6_share 85 = .ok (.getfield 10, 3) := by decide +kernel
theorem dX6_share_88 : decode cX6_share 88 = .ok (.iload 6, 2) := by decide +kernel
theorem dX6_share_90 : decode cX6_share 90 = .ok (.invokevirtual 203, 3) := by decide +kernel
theorem dX6_share_93 : decode cX6_share 93 = .ok (.iload_n 2, 1) := by decide +kernel
theorem dX6_share_94 : decode cX6_share 94 = .ok (.irem, 1) := by decide +kernel
theorem dX6_share_95 : decode cX6_share 95 = .ok (.istore 7, 2) := by decide +kernel
theorem dX6_share_97 : decode cX6_share 97 = .ok (.iload 7, 2) := by decide +kernel
theorem dX6_share_99 : decode cX6_share 99 = .ok (.iload 5, 2) := by decide +kernel
theorem dX6_share_101 : decode cX6_share 101 = .ok (.if_icmp .gt 16, 3) := by decide +kernel
theorem dX6_share_104 : decode cX6_share 104 = .ok (.iload 7, 2) := by decide +kernel
theorem dX6_share_106 : decode cX6_share 106 = .ok (.iload 5, 2) := by decide +kernel
theorem dX6_share_108 : decode cX6_share 108 = .ok (.if_icmp .ne 12, 3) := by decide +kernel
theorem dX6_share_111 : decode cX6_share 111 = .ok (.iload 6, 2) := by decide +kernel
theorem dX6_share_113 : decode cX6_share 113 = .ok (.iload_n 1, 1) := by decide +kernel
theorem dX6_share_114 : decode cX6_share 114 = .ok (.if_icmp .ge 6, 3) := by decide +kernel
theorem dX6_share_117 : decode cX6_share 117 = .ok (.iinc 4 1, 3) := by decide +kernel
theorem dX6_share_120 : decode cX6_share 120 = .ok (.iinc 6 1, 3) := by decide +kernel
theorem dX6_share_123 : decode cX6_share 123 = .ok (.goto (-65), 3) := by decide +kernel
theorem dX6_share_126 : decode cX6_share 126 = .ok (.aload_n 0, 1) := by decide +kernel
theorem dX6_share_127 : decode cX6_share 127 = .ok (.getfield 10, 3) := by decide +kernel
theorem dX6_share_130 : decode cX6_share 130 = .ok (.iload_n 1, 1) := by decide +kernel
theorem dX6_share_131 : decode cX6_share 131 = .ok (.invokevirtual 203, 3) := by decide +kernel
theorem dX6_share_134 : decode cX6_share 134 = .ok (.iload_n 2, 1) := by decide +kernel
theorem dX6_share_135 : decode cX6_share 135 = .ok (.idiv, 1) := by decide +kernel
theorem dX6_share_136 : decode cX6_share 136 = .ok (.iload 4, 2) := by decide +kernel
theorem dX6_share_138 : decode cX6_share 138 = .ok (.iload_n 3, 1) := by decide +kernel
theorem dX6_share_139 : decode cX6_share 139 = .ok (.if_icmp .ge 7, 3) := by decide +kernel
theorem dX6_share_142 : decode cX6_share 142 = .ok (.iconst 1, 1) := by decide +kernel
theorem dX6_share_143 : decode cX6_share 143 = .ok (.goto 4, 3) := by decide +kernel
theorem dX6_share_146 : decode cX6_share 146 = .ok (.iconst 0, 1) := by decide +kernel
theorem dX6_share_147 : decode cX6_share 147 = .ok (.iadd, 1) := by decide +kernel
theorem dX6_share_148 : decode cX6_share 148 = .ok (.ireturn, 1) := by decide +kernel
theorem dX6_feed_0 : decode cX6_feed 0 = .ok (.iload_n 2, 1) := by decide +kernel
theorem dX6_feed_1 : decode cX6_feed 1 = .ok (.iconst 1, 1) := by decide +kernel
theorem dX6_feed_2 : decode cX6_feed 2 = .ok (.iconst 4, 1) := by decide +kernel
theorem dX6_feed_3 : decode cX6_feed 3 = .ok (.invokestatic 66, 3) := by decide +kernel
theorem dX6_feed_6 : decode cX6_feed 6 = .ok (.ifCond .ne 10, 3) := by decide +kernel
theorem dX6_feed_9 : decode cX6_feed 9 = .ok (.aload_n 0, 1) := by decide +kernel
theorem dX6_feed_10 : decode cX6_feed 10 = .ok (.ldc 50, 2) := by decide +kernel
theorem dX6_feed_12 : decode cX6_feed 12 = .ok (.invokevirtual 51, 3) := by decide +kernel
theorem dX6_feed_15 : decode cX6_feed 15 = .ok (.ireturn, 1) := by decide +kernel
theorem dX6_feed_16 : decode cX6_feed 16 = .ok (.aload_n 0, 1) := by decide +kernel
theorem dX6_feed_17 : decode cX6_feed 17 = .ok (.getfield 29, 3) := by decide +kernel
theorem dX6_feed_20 : decode cX6_feed 20 = .ok (.getfield 209, 3) := by decide +kernel
theorem dX6_feed_23 : decode cX6_feed 23 = .ok (.getfield 213, 3) := by decide +kernel
theorem dX6_feed_26 : decode cX6_feed 26 = .ok (.iload_n 2, 1) := by decide +kernel
theorem dX6_feed_27 : decode cX6_feed 27 = .ok (.iadd, 1) := by decide +kernel
theorem dX6_feed_28 : decode cX6_feed 28 = .ok (.bipush 120, 2) := by decide +kernel
theorem dX6_feed_30 : decode cX6_feed 30 = .ok (.if_icmp .le 10, 3) := by decide +kernel
theorem dX6_feed_33 : decode cX6_feed 33 = .ok (.aload_n 0, 1) := by decide +kernel
theorem dX6_feed_34 : decode cX6_feed 34 = .ok (.ldc 81, 2) := by decide +kernel
theorem dX6_feed_36 : decode cX6_feed 36 = .ok (.invokevirtual 51, 3) := by decide +kernel
theorem dX6_feed_39 : decode cX6_feed 39 = .ok (.ireturn, 1) := by decide +kernel
theorem dX6_feed_40 : decode cX6_feed 40 = .ok (.iload_n 2, 1) := by decide +kernel
theorem dX6_feed_41 : decode cX6_feed 41 = .ok (.iconst 1, 1) := by decide +kernel
theorem dX6_feed_42 : decode cX6_feed 42 = .ok (.isub, 1) := by decide +kernel
theorem dX6_feed_43 : decode cX6_feed 43 = .ok (.istore_n 3, 1) := by decide +kernel
theorem dX6_feed_44 : decode cX6_feed 44 = .ok (.iload_n 3, 1) := by decide +kernel
theorem dX6_feed_45 : decode cX6_feed 45 = .ok (.ifCond .lt 29, 3) := by decide +kernel
theorem dX6_feed_48 : decode cX6_feed 48 = .ok (.aload_n 0, 1) := by decide +kernel
theorem dX6_feed_49 : decode cX6_feed 49 = .ok (.getfield 29, 3) := by decide +kernel
theorem dX6_feed_52 : decode cX6_feed 52 = .ok (.getfield 209, 3) := by decide +kernel
theorem dX6_feed_55 : decode cX6_feed 55 = .ok (.iload_n 1, 1) := by decide +kernel
theorem dX6_feed_56 : decode cX6_feed 56 = .ok (.bipush 8, 2) := by decide +kernel
theorem dX6_feed_58 : decode cX6_feed 58 = .ok (.iload_n 3, 1) := by decide +kernel
theorem dX6_feed_59 : decode cX6_feed 59 = .ok (.imul, 1) := by decide +kernel
theorem dX6_feed_60 : decode cX6_feed 60 = .ok (.iushr, 1) := by decide +kernel
theorem dX6_feed_61 : decode cX6_feed 61 = .ok (.sipush 255, 3) := by decide +kernel
theorem dX6_feed_64 : decode cX6_feed 64 = .ok (.iand, 1) := by decide +kernel
theorem dX6_feed_65 : decode cX6_feed 65 = .ok (.invokevirtual 218, 3) := by decide +kernel
theorem dX6_feed_68 : decode cX6_feed 68 = .ok (.iinc 3 (-1), 3) := by decide +kernel
theorem dX6_feed_71 : decode cX6_feed 71 = .ok (.goto (-27), 3) := by decide +kernel
theorem dX6_feed_74 : decode cX6_feed 74 = .ok (.aload_n 0, 1) := by decide +kernel
theorem dX6_feed_75 : decode cX6_feed 75 = .ok (.getfield 29, 3) := by decide +kernel
theorem dX6_feed_78 : decode cX6_feed 78 = .ok (.getfield 209, 3) := by decide +kernel
theorem dX6_feed_81 : decode cX6_feed 81 = .ok (.getfield 213, 3) := by decide +kernel
theorem dX6_feed_84 : decode cX6_feed 84 = .ok (.ireturn, 1) := by decide +kernel
theorem dX6_wipe_0 : decode cX6_wipe 0 = .ok (.aload_n 0, 1) := by decide +kernel
theorem dX6_wipe_1 : decode cX6_wipe 1 = .ok (.getfield 29, 3) := by decide +kernel
theorem dX6_wipe_4 : decode cX6_wipe 4 = .ok (.getfield 209, 3) := by decide +kernel
theorem dX6_wipe_7 : decode cX6_wipe 7 = .ok (.getfield 213, 3) := by decide +kernel
theorem dX6_wipe_10 : decode cX6_wipe 10 = .ok (.istore_n 1, 1) := by decide +kernel
theorem dX6_wipe_11 : decode cX6_wipe 11 = .ok (.aload_n 0, 1) := by decide +kernel
theorem dX6_wipe_12 : decode cX6_wipe 12 = .ok (.getfield 29, 3) := by decide +kernel
theorem dX6_wipe_15 : decode cX6_wipe 15 = .ok (.getfield 209, 3) := by decide +kernel
theorem dX6_wipe_18 : decode cX6_wipe 18 = .ok (.iconst 0, 1) := by decide +kernel
theorem dX6_wipe_19 : decode cX6_wipe 19 = .ok (.putfield 213, 3) := by decide +kernel
theorem dX6_wipe_22 : decode cX6_wipe 22 = .ok (.iload_n 1, 1) := by decide +kernel
theorem dX6_wipe_23 : decode cX6_wipe 23 = .ok (.ireturn, 1) := by decide +kernel
theorem dX6_plain_0 : decode cX6_plain 0 = .ok (.aload_n 0, 1) := by decide +kernel
theorem dX6_plain_1 : decode cX6_plain 1 = .ok (.invokevirtual 175, 3) := by decide +kernel
theorem dX6_plain_4 : decode cX6_plain 4 = .ok (.aload_n 0, 1) := by decide +kernel
theorem dX6_plain_5 : decode cX6_plain 5 = .ok (.getfield 29, 3) := by decide +kernel
theorem dX6_plain_8 : decode cX6_plain 8 = .ok (.aload_n 0, 1) := by decide +kernel
theorem dX6_plain_9 : decode cX6_plain 9 = .ok (.getfield 16, 3) := by decide +kernel
theorem dX6_plain_12 : decode cX6_plain 12 = .ok (.invokevirtual 220, 3) := by decide +kernel
theorem dX6_plain_15 : decode cX6_plain 15 = .ok (.istore_n 1, 1) := by decide +kernel
theorem dX6_plain_16 : decode cX6_plain 16 = .ok (.iload_n 1, 1) := by decide +kernel
theorem dX6_plain_17 : decode cX6_plain 17 = .ok (.ifCond .lt 14, 3) := by decide +kernel
theorem dX6_plain_20 : decode cX6_plain 20 = .ok (.aload_n 0, 1) := by decide +kernel
theorem dX6_plain_21 : decode cX6_plain 21 = .ok (.getfield 10, 3) := by decide +kernel
theorem dX6_plain_24 : decode cX6_plain 24 = .ok (.aload_n 0, 1) := by decide +kernel
theorem dX6_plain_25 : decode cX6_plain 25 = .ok (.getfield 16, 3) := by decide +kernel
theorem dX6_plain_28 : decode cX6_plain 28 = .ok (.invokevirtual 224, 3) := by decide +kernel
theorem dX6_plain_31 : decode cX6_plain 31 = .ok (.aload_n 0, 1) := by decide +kernel
theorem dX6_plain_32 : decode cX6_plain 32 = .ok (.getfield 29, 3) := by decide +kernel
theorem dX6_plain_35 : decode cX6_plain 35 = .ok (.getfield 209, 3) := by decide +kernel
theorem dX6_plain_38 : decode cX6_plain 38 = .ok (.iconst 0, 1) := by decide +kernel
theorem dX6_plain_39 : decode cX6_plain 39 = .ok (.putfield 213, 3) := by decide +kernel
theorem dX6_plain_42 : decode cX6_plain 42 = .ok (.iload_n 1, 1) := by decide +kernel
theorem dX6_plain_43 : decode cX6_plain 43 = .ok (.ireturn, 1) := by decide +kernel
theorem dX6_sheet_0 : decode cX6_sheet 0 = .ok (.iload_n 1, 1) := by decide +kernel
theorem dX6_sheet_1 : decode cX6_sheet 1 = .ok (.invokestatic 228, 3) := by decide +kernel
theorem dX6_sheet_4 : decode cX6_sheet 4 = .ok (.ifCond .eq 10, 3) := by decide +kernel
theorem dX6_sheet_7 : decode cX6_sheet 7 = .ok (.iload_n 2, 1) := by decide +kernel
theorem dX6_sheet_8 : decode cX6_sheet 8 = .ok (.invokestatic 231, 3) := by decide +kernel
theorem dX6_sheet_11 : decode cX6_sheet 11 = .ok (.ifCond .ne 10, 3) := by decide +kernel
theorem dX6_sheet_14 : decode cX6_sheet 14 = .ok (.aload_n 0, 1) := by decide +kernel
theorem dX6_sheet_15 : decode cX6_sheet 15 = .ok (.ldc 50, 2) := by decide +kernel
theorem dX6_sheet_17 : decode cX6_sheet 17 = .ok (.invokevirtual 51, 3) := by decide +kernel
theorem dX6_sheet_20 : decode cX6_sheet 20 = .ok (.ireturn, 1) := by decide +kernel
theorem dX6_sheet_21 : decode cX6_sheet 21 = .ok (.iload_n 3, 1) := by decide +kernel
theorem dX6_sheet_22 : decode cX6_sheet 22 = .ok (.ifCond .ge 10, 3) := by decide +kernel
theorem dX6_sheet_25 : decode cX6_sheet 25 = .ok (.aload_n 0, 1) := by decide +kernel
theorem dX6_sheet_26 : decode cX6_sheet 26 = .ok (.ldc 234, 2) := by decide +kernel
theorem dX6_sheet_28 : decode cX6_sheet 28 = .ok (.invokevirtual 51, 3) := by decide +kernel
theorem dX6_sheet_31 : decode cX6_sheet 31 = .ok (.ireturn, 1) := by decide +kernel
theorem dX6_sheet_32 : decode cX6_sheet 32 = .ok (.iload_n 3, 1) := by decide +kernel
theorem dX6_sheet_33 : decode cX6_sheet 33 = .ok (.bipush 40, 2) := by decide +kernel
theorem dX6_sheet_35 : decode cX6_sheet 35 = .ok (.if_icmp .le 10, 3) := by decide +kernel
theorem dX6_sheet_38 : decode cX6_sheet 38 = .ok (.aload_n 0, 1) := by decide +kernel
theorem dX6_sheet_39 : decode cX6_sheet 39 = .ok (.ldc 50, 2) := by decide +kernel
theorem dX6_sheet_41 : decode cX6_sheet 41 = .ok (.invokevirtual 51, 3) := by decide +kernel
theorem dX6_sheet_44 : decode cX6_sheet 44 = .ok (.ireturn, 1) := by decide +kernel
theorem dX6_sheet_45 : decode cX6_sheet 45 = .ok (.aload_n 0, 1) := by decide +kernel
theorem dX6_sheet_46 : decode cX6_sheet 46 = .ok (.getfield 35, 3) := by decide +kernel
theorem dX6_sheet_49 : decode cX6_sheet 49 = .ok (.iload_n 1, 1) := by decide +kernel
theorem dX6_sheet_50 : decode cX6_sheet 50 = .ok (.aaload, 1) := by decide +kernel
theorem dX6_sheet_51 : decode cX6_sheet 51 = .ok (.iload_n 2, 1) := by decide +kernel
theorem dX6_sheet_52 : decode cX6_sheet 52 = .ok (.iload_n 3, 1) := by decide +kernel
theorem dX6_sheet_53 : decode cX6_sheet 53 = .ok (.invokevirtual 235, 3) := by decide +kernel
theorem dX6_sheet_56 : decode cX6_sheet 56 = .ok (.aload_n 0, 1) := by decide +kernel
theorem dX6_sheet_57 : decode cX6_sheet 57 = .ok (.getfield 35, 3) := by decide +kernel
theorem dX6_sheet_60 : decode cX6_sheet 60 = .ok (.iload_n 1, 1) := by decide +kernel
theorem dX6_sheet_61 : decode cX6_sheet 61 = .ok (.aaload, 1) := by decide +kernel
theorem dX6_sheet_62 : decode cX6_sheet 62 = .ok (.getfield 238, 3) := by decide +kernel
theorem dX6_sheet_65 : decode cX6_sheet 65 = .ok (.ireturn, 1) := by decide +kernel
theorem dX6_write_0 : decode cX6_write 0 = .ok (.aload_n 0, 1) := by decide +kernel
theorem dX6_write_1 : decode cX6_write 1 = .ok (.iload_n 1, 1) := by decide +kernel
theorem dX6_write_2 : decode cX6_write 2 = .ok (.invokevirtual 239, 3) := by decide +kernel
theorem dX6_write_5 : decode cX6_write 5 = .ok (.istore 5, 2) := by decide +kernel
theorem dX6_write_7 : decode cX6_write 7 = .ok (.iload 5, 2) := by decide +kernel
theorem dX6_write_9 : decode cX6_write 9 = .ok (.ifCond .eq 11, 3) := by decide +kernel
theorem dX6_write_12 : decode cX6_write 12 = .ok (.aload_n 0, 1) := by decide +kernel
theorem dX6_write_13 : decode cX6_write 13 = .ok (.iload 5, 2) := by decide +kernel
theorem dX6_write_15 : decode cX6_write 15 = .ok (.invokevirtual 51, 3) := by decide +kernel
theorem dX6_write_18 : decode cX6_write 18 = .ok (.i2l, 1) := by decide +kernel
theorem dX6_write_19 : decode cX6_write 19 = .ok (.lreturn, 1) := by decide +kernel
theorem dX6_write_20 : decode cX6_write 20 = .ok (.iload_n 2, 1) := by decide +kernel
theorem dX6_write_21 : decode cX6_write 21 = .ok (.iconst 0, 1) := by decide +kernel
theorem dX6_write_22 : decode cX6_write 22 = .ok (.aload_n 0, 1) := by decide +kernel
theorem dX6_write_23 : decode cX6_write 23 = .ok (.getfield 35, 3) := by decide +kernel
theorem dX6_write_26 : decode cX6_write 26 = .ok (.iload_n 1, 1) := by decide +kernel
theorem dX6_write_27 : decode cX6_write 27 = .ok (.aaload, 1) := by decide +kernel
theorem dX6_write_28 : decode cX6_write 28 = .ok (.getfield 238, 3) := by decide +kernel
theorem dX6_write_31 : decode cX6_write 31 = .ok (.iconst 1, 1) := by decide +kernel
theorem dX6_write_32 : decode cX6_write 32 = .ok (.isub, 1) := by decide +kernel
theorem dX6_write_33 : decode cX6_write 33 = .ok (.invokestatic 66, 3) := by decide +kernel
theorem dX6_write_36 : decode cX6_write 36 = .ok (.ifCond .ne 11, 3) := by decide +kernel
theorem dX6_write_39 : decode cX6_write 39 = .ok (.aload_n 0, 1) := by decide +kernel
theorem dX6_write_40 : decode cX6_write 40 = .ok (.ldc 50, 2) := by decide +kernel
theorem dX6_write_42 : decode cX6_write 42 = .ok (.invokevirtual 51, 3) := by decide +kernel
theorem dX6_write_45 : decode cX6_write 45 = .ok (.i2l, 1) := by decide +kernel
theorem dX6_write_46 : decode cX6_write 46 = .ok (.lreturn, 1) := by decide +kernel
theorem dX6_write_47 : decode cX6_write 47 = .ok (.aload_n 0, 1) := by decide +kernel
theorem dX6_write_48 : decode cX6_write 48 = .ok (.getfield 35, 3) := by decide +kernel
theorem dX6_write_51 : decode cX6_write 51 = .ok (.iload_n 1, 1) := by decide +kernel
theorem dX6_write_52 : decode cX6_write 52 = .ok (.aaload, 1) := by decide +kernel
theorem dX6_write_53 : decode cX6_write 53 = .ok (.getfield 242, 3) := by decide +kernel
theorem dX6_write_56 : decode cX6_write 56 = .ok (.iload_n 2, 1) := by decide +kernel
theorem dX6_write_57 : decode cX6_write 57 = .ok (.laload, 1) := by decide +kernel
theorem dX6_write_58 : decode cX6_write 58 = .ok (.lstore 6, 2) := by decide +kernel
theorem dX6_write_60 : decode cX6_write 60 = .ok (.aload_n 0, 1) := by decide +kernel
theorem dX6_write_61 : decode cX6_write 61 = .ok (.getfield 35, 3) := by decide +kernel
theorem dX6_write_64 : decode cX6_write 64 = .ok (.iload_n 1, 1) := by decide +kernel
theorem dX6_write_65 : decode cX6_write 65 = .ok (.aaload, 1) := by decide +kernel
theorem dX6_write_66 : decode cX6_write 66 = .ok (.iload_n 2, 1) := by decide +kernel
theorem dX6_write_67 : decode cX6_write 67 = .ok (.lload_n 3, 1) := by decide +kernel
theorem dX6_write_68 : decode cX6_write 68 = .ok (.invokevirtual 246, 3) := by decide +kernel
theorem dX6_write_71 : decode cX6_write 71 = .ok (.lload 6, 2) := by decide +kernel
theorem dX6_write_73 : decode cX6_write 73 = .ok (.lreturn, 1) := by decide +kernel
theorem dX6_copy_0 : decode cX6_copy 0 = .ok (.iload_n 1, 1) := by decide +kernel
theorem dX6_copy_1 : decode cX6_copy 1 = .ok (.invokestatic 228, 3) := by decide +kernel
theorem dX6_copy_4 : decode cX6_copy 4 = .ok (.ifCond .eq 10, 3) := by decide +kernel
theorem dX6_copy_7 : decode cX6_copy 7 = .ok (.iload_n 3, 1) := by decide +kernel
theorem dX6_copy_8 : decode cX6_copy 8 = .ok (.invokestatic 228, 3) := by decide +kernel
theorem dX6_copy_11 : decode cX6_copy 11 = .ok (.ifCond .ne 10, 3) := by decide +kernel
theorem dX6_copy_14 : decode cX6_copy 14 = .ok (.aload_n 0, 1) := by decide +kernel
theorem dX6_copy_15 : decode cX6_copy 15 = .ok (.ldc 50, 2) := by decide +kernel
theorem dX6_copy_17 : decode cX6_copy 17 = .ok (.invokevirtual 51, 3) := by decide +kernel
theorem dX6_copy_20 : decode cX6_copy 20 = .ok (.ireturn, 1) := by decide +kernel
theorem dX6_copy_21 : decode cX6_copy 21 = .ok (.aload_n 0, 1) := by decide +kernel
theorem dX6_copy_22 : decode cX6_copy 22 = .ok (.getfield 35, 3) := by decide +kernel
theorem dX6_copy_25 : decode cX6_copy 25 = .ok (.iload_n 1, 1) := by decide +kernel
theorem dX6_copy_26 : decode cX6_copy 26 = .ok (.aaload, 1) := by decide +kernel
theorem dX6_copy_27 : decode cX6_copy 27 = .ok (.invokevirtual 250, 3) := by decide +kernel
theorem dX6_copy_30 : decode cX6_copy 30 = .ok (.ifCond .ne 15, 3) := by decide +kernel
theorem dX6_copy_33 : decode cX6_copy 33 = .ok (.aload_n 0, 1) := by decide +kernel
theorem dX6_copy_34 : decode cX6_copy 34 = .ok (.getfield 35, 3) := by decide +kernel
theorem dX6_copy_37 : decode cX6_copy 37 = .ok (.iload_n 3, 1) := by decide +kernel
theorem dX6_copy_38 : decode cX6_copy 38 = .ok (.aaload, 1) := by decide +kernel
theorem dX6_copy_39 : decode cX6_copy 39 = .ok (.invokevirtual 250, 3) := by decide +kernel
theorem dX6_copy_42 : decode cX6_copy 42 = .ok (.ifCond .eq 10, 3) := by decide +kernel
theorem dX6_copy_45 : decode cX6_copy 45 = .ok (.aload_n 0, 1) := by decide +kernel
theorem dX6_copy_46 : decode cX6_copy 46 = .ok (.ldc 253, 2) := by decide +kernel
theorem dX6_copy_48 : decode cX6_copy 48 = .ok (.invokevirtual 51, 3) := by decide +kernel
theorem dX6_copy_51 : decode cX6_copy 51 = .ok (.ireturn, 1) := by decide +kernel
theorem dX6_copy_52 : decode cX6_copy 52 = .ok (.aload_n 0, 1) := by decide +kernel
theorem dX6_copy_53 : decode cX6_copy 53 = .ok (.getfield 35, 3) := by decide +kernel
theorem dX6_copy_56 : decode cX6_copy 56 = .ok (.iload_n 1, 1) := by decide +kernel
theorem dX6_copy_57 : decode cX6_copy 57 = .ok (.aaload, 1) := by decide +kernel
theorem dX6_copy_58 : decode cX6_copy 58 = .ok (.getfield 254, 3) := by decide +kernel
theorem dX6_copy_61 : decode cX6_copy 61 = .ok (.aload_n 0, 1) := by decide +kernel
theorem dX6_copy_62 : decode cX6_copy 62 = .ok (.getfield 35, 3) := by decide +kernel
theorem dX6_copy_65 : decode cX6_copy 65 = .ok (.iload_n 3, 1) := by decide +kernel
theorem dX6_copy_66 : decode cX6_copy 66 = .ok (.aaload, 1) := by decide +kernel
theorem dX6_copy_67 : decode cX6_copy 67 = .ok (.getfield 254, 3) := by decide +kernel
theorem dX6_copy_70 : decode cX6_copy 70 = .ok (.if_icmp .eq 10, 3) := by decide +kernel
theorem dX6_copy_73 : decode cX6_copy 73 = .ok (.aload_n 0, 1) := by decide +kernel
theorem dX6_copy_74 : decode cX6_copy 74 = .ok (.ldc 145, 2) := by decide +kernel
theorem dX6_copy_76 : decode cX6_copy 76 = .ok (.invokevirtual 51, 3) := by decide +kernel
theorem dX6_copy_79 : decode cX6_copy 79 = .ok (.ireturn, 1) := by decide +kernel
theorem dX6_copy_80 : decode cX6_copy 80 = .ok (.aload_n 0, 1) := by decide +kernel
theorem dX6_copy_81 : decode cX6_copy 81 = .ok (.getfield 35, 3) := by decide +kernel
theorem dX6_copy_84 : decode cX6_copy 84 = .ok (.iload_n 1, 1) := by decide +kernel
theorem dX6_copy_85 : decode cX6_copy 85 = .ok (.aaload, 1) := by decide +kernel
theorem dX6_copy_86 : decode cX6_copy 86 = .ok (.iload_n 2, 1) := by decide +kernel
theorem dX6_copy_87 : decode cX6_copy 87 = .ok (.iload 5, 2) := by decide +kernel
theorem dX6_copy_89 : decode cX6_copy 89 = .ok (.invokevirtual 257, 3) := by decide +kernel
theorem dX6_copy_92 : decode cX6_copy 92 = .ok (.ifCond .eq 19, 3) := by decide +kernel
theorem dX6_copy_95 : decode cX6_copy 95 = .ok (.aload_n 0, 1) := by decide +kernel
theorem dX6_copy_96 : decode cX6_copy 96 = .ok (.getfield 35, 3) := by decide +kernel
theorem dX6_copy_99 : decode cX6_copy 99 = .ok (.iload_n 3, 1) := by decide +kernel
theorem dX6_copy_100 : decode cX6_copy 100 = .ok (.aaload, 1) := by decide +kernel
theorem dX6_copy_101 : decode cX6_copy 101 = .ok (.iload 4, 2) := by decide +kernel
theorem dX6_copy_103 : decode cX6_copy 103 = .ok (.iload 5, 2) := by decide +kernel
theorem dX6_copy_105 : decode cX6_copy 105 = .ok (.invokevirtual 257, 3) := by decide +kernel
theorem dX6_copy_108 : decode cX6_copy 108 = .ok (.ifCond .ne 10, 3) := by decide +kernel
theorem dX6_copy_111 : decode cX6_copy 111 = .ok (.aload_n 0, 1) := by decide +kernel
theorem dX6_copy_112 : decode cX6_copy 112 = .ok (.ldc 50, 2) := by decide +kernel
theorem dX6_copy_114 : decode cX6_copy 114 = .ok (.invokevirtual 51, 3) := by decide +kernel
theorem dX6_copy_117 : decode cX6_copy 117 = .ok (.ireturn, 1) := by decide +kernel
theorem dX6_copy_118 : decode cX6_copy 118 = .ok (.aload_n 0, 1) := by decide +kernel
theorem dX6_copy_119 : decode cX6_copy 119 = .ok (.getfield 35, 3) := by decide +kernel
theorem dX6_copy_122 : decode cX6_copy 122 = .ok (.iload_n 1, 1) := by decide +kernel
theorem dX6_copy_123 : decode cX6_copy 123 = .ok (.aaload, 1) := by decide +kernel
theorem dX6_copy_124 : decode cX6_copy 124 = .ok (.getfield 242, 3) := by decide +kernel
theorem dX6_copy_127 : decode cX6_copy 127 = .ok (.iload_n 2, 1) := by decide +kernel
theorem dX6_copy_128 : decode cX6_copy 128 = .ok (.aload_n 0, 1) := by decide +kernel
theorem dX6_copy_129 : decode cX6_copy 129 = .ok (.getfield 35, 3) := by decide +kernel
theorem dX6_copy_132 : decode cX6_copy 132 = .ok (.iload_n 3, 1) := by decide +kernel
theorem dX6_copy_133 : decode cX6_copy 133 = .ok (.aaload, 1) := by decide +kernel
theorem dX6_copy_134 : decode cX6_copy 134 = .ok (.getfield 242, 3) := by decide +kernel
theorem dX6_copy_137 : decode cX6_copy 137 = .ok (.iload 4, 2) := by decide +kernel
theorem dX6_copy_139 : decode cX6_copy 139 = .ok (.iload 5, 2) := by decide +kernel
theorem dX6_copy_141 : decode cX6_copy 141 = .ok (.invokestatic 260, 3) := by decide +kernel
theorem dX6_copy_144 : decode cX6_copy 144 = .ok (.iload 5, 2) := by decide +kernel
theorem dX6_copy_146 : decode cX6_copy 146 = .ok (.ireturn, 1) := by decide +kernel
theorem dX6_lays_0 : decode cX6_lays 0 = .ok (.aload_n 0, 1) := by decide +kernel
theorem dX6_lays_1 : decode cX6_lays 1 = .ok (.iload_n 1, 1) := by decide +kernel
theorem dX6_lays_2 : decode cX6_lays 2 = .ok (.invokevirtual 239, 3) := by decide +kernel
theorem dX6_lays_5 : decode cX6_lays 5 = .ok (.istore_n 2, 1) := by decide +kernel
theorem dX6_lays_6 : decode cX6_lays 6 = .ok (.iload_n 2, 1) := by decide +kernel
theorem dX6_lays_7 : decode cX6_lays 7 = .ok (.ifCond .eq 9, 3) := by decide +kernel
theorem dX6_lays_10 : decode cX6_lays 10 = .ok (.aload_n 0, 1) := by decide +kernel
theorem dX6_lays_11 : decode cX6_lays 11 = .ok (.iload_n 2, 1) := by decide +kernel
theorem dX6_lays_12 : decode cX6_lays 12 = .ok (.invokevirtual 51, 3) := by decide +kernel
theorem dX6_lays_15 : decode cX6_lays 15 = .ok (.ireturn, 1) := by decide +kernel
theorem dX6_lays_16 : decode cX6_lays 16 = .ok (.iconst 0, 1) := by decide +kernel
theorem dX6_lays_17 : decode cX6_lays 17 = .ok (.istore_n 3, 1) := by decide +kernel
theorem dX6_lays_18 : decode cX6_lays 18 = .ok (.aload_n 0, 1) := by decide +kernel
theorem dX6_lays_19 : decode cX6_lays 19 = .ok (.getfield 35, 3) := by decide +kernel
theorem dX6_lays_22 : decode cX6_lays 22 = .ok (.iload_n 1, 1) := by decide +kernel
theorem dX6_lays_23 : decode cX6_lays 23 = .ok (.aaload, 1) := by decide +kernel
theorem dX6_lays_24 : decode cX6_lays 24 = .ok (.getfield 238, 3) := by decide +kernel
theorem dX6_lays_27 : decode cX6_lays 27 = .ok (.aload_n 0, 1) := by decide +kernel
theorem dX6_lays_28 : decode cX6_lays 28 = .ok (.getfield 10, 3) := by decide +kernel
theorem dX6_lays_31 : decode cX6_lays 31 = .ok (.getfield 86, 3) := by decide +kernel
theorem dX6_lays_34 : decode cX6_lays 34 = .ok (.invokestatic 266, 3) := by decide +kernel
theorem dX6_lays_37 : decode cX6_lays 37 = .ok (.istore 4, 2) := by decide +kernel
theorem dX6_lays_39 : decode cX6_lays 39 = .ok (.iconst 0, 1) := by decide +kernel
theorem dX6_lays_40 : decode cX6_lays 40 = .ok (.istore 5, 2) := by decide +kernel
theorem dX6_lays_42 : decode cX6_lays 42 = .ok (.iload 5, 2) := by decide +kernel
theorem dX6_lays_44 : decode cX6_lays 44 = .ok (.iload 4, 2) := by decide +kernel
theorem dX6_lays_46 : decode cX6_lays 46 = .ok (.if_icmp .ge 58, 3) := by decide +kernel
theorem dX6_lays_49 : decode cX6_lays 49 = .ok (.aload_n 0, 1) := by decide +kernel
theorem dX6_lays_50 : decode cX6_lays 50 = .ok (.getfield 35, 3) := by decide +kernel
theorem dX6_lays_53 : decode cX6_lays 53 = .ok (.iload_n 1, 1) := by decide +kernel
theorem dX6_lays_54 : decode cX6_lays 54 = .ok (.aaload, 1) := by decide +kernel
theorem dX6_lays_55 : decode cX6_lays 55 = .ok (.getfield 242, 3) := by decide +kernel
theorem dX6_lays_58 : decode cX6_lays 58 = .ok (.iload 5, 2) := by decide +kernel
theorem dX6_lays_60 : decode cX6_lays 60 = .ok (.laload, 1) := by decide +kernel
theorem dX6_lays_61 : decode cX6_lays 61 = .ok (.lstore 6, 2) := by decide +kernel
theorem dX6_lays_63 : decode cX6_lays 63 = .ok (.lload 6, 2) := by decide +kernel
theorem dX6_lays_65 : decode cX6_lays 65 = .ok (.lconst 0, 1) := by decide +kernel
theorem dX6_lays_66 : decode cX6_lays 66 = .ok (.lcmp, 1) := by decide +kernel
theorem dX6_lays_67 : decode cX6_lays 67 = .ok (.ifCond .lt 31, 3) := by decide +kernel
theorem dX6_lays_70 : decode cX6_lays 70 = .ok (.lload 6, 2) := by decide +kernel
theorem dX6_lays_72 : decode cX6_lays 72 = .ok (.ldc2_w 271, 3) := by decide +kernel
theorem dX6_lays_75 : decode cX6_lays 75 = .ok (.lcmp, 1) := by decide +kernel
theorem dX6_lays_76 : decode cX6_lays 76 = .ok (.ifCond .gt 22, 3) := by decide +kernel
theorem dX6_lays_79 : decode cX6_lays 79 = .ok (.aload_n 0, 1) := by decide +kernel
theorem dX6_lays_80 : decode cX6_lays 80 = .ok (.getfield 10, 3) := by decide +kernel
theorem dX6_lays_83 : decode cX6_lays 83 = .ok (.getfield 93, 3) := by decide +kernel
theorem dX6_lays_86 : decode cX6_lays 86 = .ok (.iload 5, 2) := by decide +kernel
theorem dX6_lays_88 : decode cX6_lays 88 = .ok (.aaload, 1) := by decide +kernel
theorem dX6_lays_89 : decode cX6_lays 89 = .ok (.lload 6, 2) := by decide +kernel
theorem dX6_lays_91 : decode cX6_lays 91 = .ok (.l2i, 1) := by decide +kernel
theorem dX6_lays_92 : decode cX6_lays 92 = .ok (.putfield 124, 3) := by decide +kernel
theorem dX6_lays_95 : decode cX6_lays 95 = .ok (.iinc 3 1, 3) := by decide +kernel
theorem dX6_lays_98 : decode cX6_lays 98 = .ok (.iinc 5 1, 3) := by decide +kernel
theorem dX6_lays_101 : decode cX6_lays 101 = .ok (.goto (-59), 3) := by decide +kernel
theorem dX6_lays_104 : decode cX6_lays 104 = .ok (.iload_n 3, 1) := by decide +kernel
theorem dX6_lays_105 : decode cX6_lays 105 = .ok (.ireturn, 1) := by decide +kernel
theorem dX6_book_0 : decode cX6_book 0 = .ok (.aload_n 0, 1) := by decide +kernel
theorem dX6_book_1 : decode cX6_book 1 = .ok (.iload_n 1, 1) := by decide +kernel
theorem dX6_book_2 : decode cX6_book 2 = .ok (.iload_n 2, 1) := by decide +kernel
theorem dX6_book_3 : decode cX6_book 3 = .ok (.invokevirtual 273, 3) := by decide +kernel
theorem dX6_book_6 : decode cX6_book 6 = .ok (.istore_n 3, 1) := by decide +kernel
theorem dX6_book_7 : decode cX6_book 7 = .ok (.iload_n 3, 1) := by decide +kernel
theorem dX6_book_8 : decode cX6_book 8 = .ok (.ifCond .eq 9, 3) := by decide +kernel
theorem dX6_book_11 : decode cX6_book 11 = .ok (.aload_n 0, 1) := by decide +kernel
theorem dX6_book_12 : decode cX6_book 12 = .ok (.iload_n 3, 1) := by decide +kernel
theorem dX6_book_13 : decode cX6_book 13 = .ok (.invokevirtual 51, 3) := by decide +kernel
theorem dX6_book_16 : decode cX6_book 16 = .ok (.ireturn, 1) := by decide +kernel
theorem dX6_book_17 : decode cX6_book 17 = .ok (.aload_n 0, 1) := by decide +kernel
theorem dX6_book_18 : decode cX6_book 18 = .ok (.invokevirtual 175, 3) := by decide +kernel
theorem dX6_book_21 : decode cX6_book 21 = .ok (.aload_n 0, 1) := by decide +kernel
theorem dX6_book_22 : decode cX6_book 22 = .ok (.getfield 16, 3) := by decide +kernel
theorem dX6_book_25 : decode cX6_book 25 = .ok (.invokevirtual 276, 3) := by decide +kernel
theorem dX6_book_28 : decode cX6_book 28 = .ok (.iconst 0, 1) := by decide +kernel
theorem dX6_book_29 : decode cX6_book 29 = .ok (.istore 4, 2) := by decide +kernel
theorem dX6_book_31 : decode cX6_book 31 = .ok (.iload 4, 2) := by decide +kernel
theorem dX6_book_33 : decode cX6_book 33 = .ok (.aload_n 0, 1) := by decide +kernel
theorem dX6_book_34 : decode cX6_book 34 = .ok (.getfield 35, 3) := by decide +kernel
theorem dX6_book_37 : decode cX6_book 37 = .ok (.iload_n 1, 1) := by decide +kernel
theorem dX6_book_38 : decode cX6_book 38 = .ok (.aaload, 1) := by decide +kernel
theorem dX6_book_39 : decode cX6_book 39 = .ok (.getfield 238, 3) := by decide +kernel
theorem dX6_book_42 : decode cX6_book 42 = .ok (.if_icmp .ge 40, 3) := by decide +kernel
theorem dX6_book_45 : decode cX6_book 45 = .ok (.aload_n 0, 1) := by decide +kernel
theorem dX6_book_46 : decode cX6_book 46 = .ok (.getfield 35, 3) := by decide +kernel
theorem dX6_book_49 : decode cX6_book 49 = .ok (.iload_n 1, 1) := by decide +kernel
theorem dX6_book_50 : decode cX6_book 50 = .ok (.aaload, 1) := by decide +kernel
theorem dX6_book_51 : decode cX6_book 51 = .ok (.iload 4, 2) := by decide +kernel
theorem dX6_book_53 : decode cX6_book 53 = .ok (.aload_n 0, 1) := by decide +kernel
theorem dX6_book_54 : decode cX6_book 54 = .ok (.getfield 16, 3) := by decide +kernel
theorem dX6_book_57 : decode cX6_book 57 = .ok (.getfield 93, 3) := by decide +kernel
theorem dX6_book_60 : decode cX6_book 60 = .ok (.iload_n 2, 1) := by decide +kernel
theorem dX6_book_61 : decode cX6_book 61 = .ok (.aaload, 1) := by decide +kernel
theorem dX6_book_62 : decode cX6_book 62 = .ok (.getfield 178, 3) := by decide +kernel
theorem dX6_book_65 : decode cX6_book 65 = .ok (.i2l, 1) := by decide +kernel
theorem dX6_book_66 : decode cX6_book 66 = .ok (.invokevirtual 246, 3) := by decide +kernel
theorem dX6_book_69 : decode cX6_book 69 = .ok (.aload_n 0, 1) := by decide +kernel
theorem dX6_book_70 : decode cX6_book 70 = .ok (.getfield 16, 3) := by decide +kernel
theorem dX6_book_73 : decode cX6_book 73 = .ok (.invokevirtual 279, 3) := by decide +kernel
theorem dX6_book_76 : decode cX6_book 76 = .ok (.iinc 4 1, 3) := by decide +kernel
theorem dX6_book_79 : decode cX6_book 79 = .ok (.goto (-48), 3) := by decide +kernel
theorem dX6_book_82 : decode cX6_book 82 = .ok (.aload_n 0, 1) := by decide +kernel
theorem dX6_book_83 : decode cX6_book 83 = .ok (.getfield 35, 3) := by decide +kernel
theorem dX6_book_86 : decode cX6_book 86 = .ok (.iload_n 1, 1) := by decide +kernel
theorem dX6_book_87 : decode cX6_book 87 = .ok (.aaload, 1) := by decide +kernel
theorem dX6_book_88 : decode cX6_book 88 = .ok (.getfield 238, 3) := by decide +kernel
theorem dX6_book_91 : decode cX6_book 91 = .ok (.ireturn, 1) := by decide +kernel
theorem dX6_read_0 : decode cX6_read 0 = .ok (.aload_n 0, 1) := by decide +kernel
theorem dX6_read_1 : decode cX6_read 1 = .ok (.iload_n 1, 1) := by decide +kernel
theorem dX6_read_2 : decode cX6_read 2 = .ok (.iload_n 2, 1) := by decide +kernel
theorem dX6_read_3 : decode cX6_read 3 = .ok (.invokevirtual 273, 3) := by decide +kernel
theorem dX6_read_6 : decode cX6_read 6 = .ok (.istore_n 3, 1) := by decide +kernel
theorem dX6_read_7 : decode cX6_read 7 = .ok (.iload_n 3, 1) := by decide +kernel
theorem dX6_read_8 : decode cX6_read 8 = .ok (.ifCond .eq 9, 3) := by decide +kernel
theorem dX6_read_11 : decode cX6_read 11 = .ok (.aload_n 0, 1) := by decide +kernel
theorem dX6_read_12 : decode cX6_read 12 = .ok (.iload_n 3, 1) := by decide +kernel
theorem dX6_read_13 : decode cX6_read 13 = .ok (.invokevirtual 51, 3) := by decide +kernel
theorem dX6_read_16 : decode cX6_read 16 = .ok (.ireturn, 1) := by decide +kernel
theorem dX6_read_17 : decode cX6_read 17 = .ok (.aload_n 0, 1) := by decide +kernel
theorem dX6_read_18 : decode cX6_read 18 = .ok (.invokevirtual 175, 3) := by decide +kernel
theorem dX6_read_21 : decode cX6_read 21 = .ok (.aload_n 0, 1) := by decide +kernel
theorem dX6_read_22 : decode cX6_read 22 = .ok (.getfield 16, 3) := by decide +kernel
theorem dX6_read_25 : decode cX6_read 25 = .ok (.invokevirtual 276, 3) := by decide +kernel
theorem dX6_read_28 : decode cX6_read 28 = .ok (.iconst 0, 1) := by decide +kernel
theorem dX6_read_29 : decode cX6_read 29 = .ok (.istore 4, 2) := by decide +kernel
theorem dX6_read_31 : decode cX6_read 31 = .ok (.iconst 0, 1) := by decide +kernel
theorem dX6_read_32 : decode cX6_read 32 = .ok (.istore 5, 2) := by decide +kernel
theorem dX6_read_34 : decode cX6_read 34 = .ok (.iload 5, 2) := by decide +kernel
theorem dX6_read_36 : decode cX6_read 36 = .ok (.bipush 99, 2) := by decide +kernel
theorem dX6_read_38 : decode cX6_read 38 = .ok (.if_icmp .gt 90, 3) := by decide +kernel
theorem dX6_read_41 : decode cX6_read 41 = .ok (.iconst 0, 1) := by decide +kernel
theorem dX6_read_42 : decode cX6_read 42 = .ok (.istore 6, 2) := by decide +kernel
theorem dX6_read_44 : decode cX6_read 44 = .ok (.iload 6, 2) := by decide +kernel
theorem dX6_read_46 : decode cX6_read 46 = .ok (.bipush 16, 2) := by decide +kernel
theorem dX6_read_48 : decode cX6_read 48 = .ok (.if_icmp .ge 74, 3) := by decide +kernel
theorem dX6_read_51 : decode cX6_read 51 = .ok (.aload_n 0, 1) := by decide +kernel
theorem dX6_read_52 : decode cX6_read 52 = .ok (.getfield 16, 3) := by decide +kernel
theorem dX6_read_55 : decode cX6_read 55 = .ok (.getfield 55, 3) := by decide +kernel
theorem dX6_read_58 : decode cX6_read 58 = .ok (.aload_n 0, 1) := by decide +kernel
theorem dX6_read_59 : decode cX6_read 59 = .ok (.getfield 10, 3) := by decide +kernel
theorem dX6_read_62 : decode cX6_read 62 = .ok (.getfield 55, 3) := by decide +kernel
theorem dX6_read_65 : decode cX6_read 65 = .ok (.invokevirtual 282, 3) := by decide +kernel
theorem dX6_read_68 : decode cX6_read 68 = .ok (.aload_n 0, 1) := by decide +kernel
theorem dX6_read_69 : decode cX6_read 69 = .ok (.getfield 16, 3) := by decide +kernel
theorem dX6_read_72 : decode cX6_read 72 = .ok (.getfield 55, 3) := by decide +kernel
theorem dX6_read_75 : decode cX6_read 75 = .ok (.iload 5, 2) := by decide +kernel
theorem dX6_read_77 : decode cX6_read 77 = .ok (.putfield 105, 3) := by decide +kernel
theorem dX6_read_80 : decode cX6_read 80 = .ok (.aload_n 0, 1) := by decide +kernel
theorem dX6_read_81 : decode cX6_read 81 = .ok (.getfield 16, 3) := by decide +kernel
theorem dX6_read_84 : decode cX6_read 84 = .ok (.getfield 55, 3) := by decide +kernel
theorem dX6_read_87 : decode cX6_read 87 = .ok (.iload 6, 2) := by decide +kernel
theorem dX6_read_89 : decode cX6_read 89 = .ok (.putfield 97, 3) := by decide +kernel
theorem dX6_read_92 : decode cX6_read 92 = .ok (.iload 4, 2) := by decide +kernel
theorem dX6_read_94 : decode cX6_read 94 = .ok (.aload_n 0, 1) := by decide +kernel
theorem dX6_read_95 : decode cX6_read 95 = .ok (.aload_n 0, 1) := by decide +kernel
theorem dX6_read_96 : decode cX6_read 96 = .ok (.getfield 35, 3) := by decide +kernel
theorem dX6_read_99 : decode cX6_read 99 = .ok (.iload_n 1, 1) := by decide +kernel
theorem dX6_read_100 : decode cX6_read 100 = .ok (.aaload, 1) := by decide +kernel
theorem dX6_read_101 : decode cX6_read 101 = .ok (.iload_n 2, 1) := by decide +kernel
theorem dX6_read_102 : decode cX6_read 102 = .ok (.invokevirtual 285, 3) := by decide +kernel
theorem dX6_read_105 : decode cX6_read 105 = .ok (.ifCond .eq 7, 3) := by decide +kernel
theorem dX6_read_108 : decode cX6_read 108 = .ok (.iconst 1, 1) := by decide +kernel
theorem dX6_read_109 : decode cX6_read 109 = .ok (.goto 4, 3) := by decide +kernel
theorem dX6_read_112 : decode cX6_read 112 = .ok (.iconst 0, 1) := by decide +kernel
theorem dX6_read_113 : decode cX6_read 113 = .ok (.iadd, 1) := by decide +kernel
theorem dX6_read_114 : decode cX6_read 114 = .ok (.istore 4, 2) := by decide +kernel
theorem dX6_read_116 : decode cX6_read 116 = .ok (.iinc 6 1, 3) := by decide +kernel
theorem dX6_read_119 : decode cX6_read 119 = .ok (.goto (-75), 3) := by decide +kernel
theorem dX6_read_122 : decode cX6_read 122 = .ok (.iinc 5 1, 3) := by decide +kernel
theorem dX6_read_125 : decode cX6_read 125 = .ok (.goto (-91), 3) := by decide +kernel
theorem dX6_read_128 : decode cX6_read 128 = .ok (.iload 4, 2) := by decide +kernel
theorem dX6_read_130 : decode cX6_read 130 = .ok (.ireturn, 1) := by decide +kernel
theorem dX6_image_0 : decode cX6_image 0 = .ok (.aload_n 0, 1) := by decide +kernel
theorem dX6_image_1 : decode cX6_image 1 = .ok (.getfield 19, 3) := by decide +kernel
theorem dX6_image_4 : decode cX6_image 4 = .ok (.aload_n 0, 1) := by decide +kernel
theorem dX6_image_5 : decode cX6_image 5 = .ok (.getfield 10, 3) := by decide +kernel
theorem dX6_image_8 : decode cX6_image 8 = .ok (.invokevirtual 224, 3) := by decide +kernel
theorem dX6_image_11 : decode cX6_image 11 = .ok (.aload_n 0, 1) := by decide +kernel
theorem dX6_image_12 : decode cX6_image 12 = .ok (.iconst 1, 1) := by decide +kernel
theorem dX6_image_13 : decode cX6_image 13 = .ok (.putfield 22, 3) := by decide +kernel
theorem dX6_image_16 : decode cX6_image 16 = .ok (.iconst 1, 1) := by decide +kernel
theorem dX6_image_17 : decode cX6_image 17 = .ok (.ireturn, 1) := by decide +kernel
theorem dX6_undo_0 : decode cX6_undo 0 = .ok (.aload_n 0, 1) := by decide +kernel
theorem dX6_undo_1 : decode cX6_undo 1 = .ok (.getfield 22, 3) := by decide +kernel
theorem dX6_undo_4 : decode cX6_undo 4 = .ok (.ifCond .ne 10, 3) := by decide +kernel
theorem dX6_undo_7 : decode cX6_undo 7 = .ok (.aload_n 0, 1) := by decide +kernel
theorem dX6_undo_8 : decode cX6_undo 8 = .ok (.ldc 184, 2) := by decide +kernel
theorem dX6_undo_10 : decode cX6_undo 10 = .ok (.invokevirtual 51, 3) := by decide +kernel
theorem dX6_undo_13 : decode cX6_undo 13 = .ok (.ireturn, 1) := by decide +kernel
theorem dX6_undo_14 : decode cX6_undo 14 = .ok (.aload_n 0, 1) := by decide +kernel
theorem dX6_undo_15 : decode cX6_undo 15 = .ok (.getfield 10, 3) := by decide +kernel
theorem dX6_undo_18 : decode cX6_undo 18 = .ok (.aload_n 0, 1) := by decide +kernel
theorem dX6_undo_19 : decode cX6_undo 19 = .ok (.getfield 19, 3) := by decide +kernel
theorem dX6_undo_22 : decode cX6_undo 22 = .ok (.invokevirtual 224, 3) := by decide +kernel
theorem dX6_undo_25 : decode cX6_undo 25 = .ok (.aload_n 0, 1) := by decide +kernel
theorem dX6_undo_26 : decode cX6_undo 26 = .ok (.getfield 10, 3) := by decide +kernel
theorem dX6_undo_29 : decode cX6_undo 29 = .ok (.getfield 86, 3) := by decide +kernel
theorem dX6_undo_32 : decode cX6_undo 32 = .ok (.ireturn, 1) := by decide +kernel
theorem dX6_tear_0 : decode cX6_tear 0 = .ok (.aload_n 0, 1) := by decide +kernel
theorem dX6_tear_1 : decode cX6_tear 1 = .ok (.getfield 22, 3) := by decide +kernel
theorem dX6_tear_4 : decode cX6_tear 4 = .ok (.ifCond .eq 7, 3) := by decide +kernel
theorem dX6_tear_7 : decode cX6_tear 7 = .ok (.iconst 1, 1) := by decide +kernel
theorem dX6_tear_8 : decode cX6_tear 8 = .ok (.goto 4, 3) := by decide +kernel
theorem dX6_tear_11 : decode cX6_tear 11 = .ok (.iconst 0, 1) := by decide +kernel
theorem dX6_tear_12 : decode cX6_tear 12 = .ok (.istore_n 1, 1) := by decide +kernel
theorem dX6_tear_13 : decode cX6_tear 13 = .ok (.aload_n 0, 1) := by decide +kernel
theorem dX6_tear_14 : decode cX6_tear 14 = .ok (.iconst 0, 1) := by decide +kernel
theorem dX6_tear_15 : decode cX6_tear 15 = .ok (.putfield 22, 3) := by decide +kernel
theorem dX6_tear_18 : decode cX6_tear 18 = .ok (.iload_n 1, 1) := by decide +kernel
theorem dX6_tear_19 : decode cX6_tear 19 = .ok (.ireturn, 1) := by decide +kernel
theorem dX6_count_0 : decode cX6_count 0 = .ok (.iload_n 1, 1) := by decide +kernel
theorem dX6_count_1 : decode cX6_count 1 = .ok (.tableswitch 67 0 3 #[31, 39, 50, 59], 31) := by decide +kernel
theorem dX6_count_32 : decode cX6_count 32 = .ok (.aload_n 0, 1) := by decide +kernel
theorem dX6_count_33 : decode cX6_count 33 = .ok (.getfield 10, 3) := by decide +kernel
theorem dX6_count_36 : decode cX6_count 36 = .ok (.getfield 86, 3) := by decide +kernel
theorem dX6_count_39 : decode cX6_count 39 = .ok (.ireturn, 1) := by decide +kernel
theorem dX6_count_40 : decode cX6_count 40 = .ok (.aload_n 0, 1) := by decide +kernel
theorem dX6_count_41 : decode cX6_count 41 = .ok (.getfield 29, 3) := by decide +kernel
theorem dX6_count_44 : decode cX6_count 44 = .ok (.getfield 209, 3) := by decide +kernel
theorem dX6_count_47 : decode cX6_count 47 = .ok (.getfield 213, 3) := by decide +kernel
theorem dX6_count_50 : decode cX6_count 50 = .ok (.ireturn, 1) := by decide +kernel
theorem dX6_count_51 : decode cX6_count 51 = .ok (.aload_n 0, 1) := by decide +kernel
theorem dX6_count_52 : decode cX6_count 52 = .ok (.getfield 10, 3) := by decide +kernel
theorem dX6_count_55 : decode cX6_count 55 = .ok (.iconst 2, 1) := by decide +kernel
theorem dX6_count_56 : decode cX6_count 56 = .ok (.invokevirtual 160, 3) := by decide +kernel
theorem dX6_count_59 : decode cX6_count 59 = .ok (.ireturn, 1) := by decide +kernel
theorem dX6_count_60 : decode cX6_count 60 = .ok (.aload_n 0, 1) := by decide +kernel
theorem dX6_count_61 : decode cX6_count 61 = .ok (.getfield 10, 3) := by decide +kernel
theorem dX6_count_64 : decode cX6_count 64 = .ok (.invokevirtual 289, 3) := by decide +kernel
theorem dX6_count_67 : decode cX6_count 67 = .ok (.ireturn, 1) := by decide +kernel
theorem dX6_count_68 : decode cX6_count 68 = .ok (.aload_n 0, 1) := by decide +kernel
theorem dX6_count_69 : decode cX6_count 69 = .ok (.ldc 50, 2) := by decide +kernel
theorem dX6_count_71 : decode cX6_count 71 = .ok (.invokevirtual 51, 3) := by decide +kernel
theorem dX6_count_74 : decode cX6_count 74 = .ok (.ireturn, 1) := by decide +kernel
theorem dX6_status_0 : decode cX6_status 0 = .ok (.iload_n 1, 1) := by decide +kernel
theorem dX6_status_1 : decode cX6_status 1 = .ok (.iconst (-1), 1) := by decide +kernel
theorem dX6_status_2 : decode cX6_status 2 = .ok (.bipush 6, 2) := by decide +kernel
theorem dX6_status_4 : decode cX6_status 4 = .ok (.invokestatic 66, 3) := by decide +kernel
theorem dX6_status_7 : decode cX6_status 7 = .ok (.ifCond .ne 10, 3) := by decide +kernel
theorem dX6_status_10 : decode cX6_status 10 = .ok (.aload_n 0, 1) := by decide +kernel
theorem dX6_status_11 : decode cX6_status 11 = .ok (.ldc 50, 2) := by decide +kernel
theorem dX6_status_13 : decode cX6_status 13 = .ok (.invokevirtual 51, 3) := by decide +kernel
theorem dX6_status_16 : decode cX6_status 16 = .ok (.ireturn, 1) := by decide +kernel
theorem dX6_status_17 : decode cX6_status 17 = .ok (.iload_n 1, 1) := by decide +kernel
theorem dX6_status_18 : decode cX6_status 18 = .ok (.ifCond .lt 10, 3) := by decide +kernel
theorem dX6_status_21 : decode cX6_status 21 = .ok (.aload_n 0, 1) := by decide +kernel
theorem dX6_status_22 : decode cX6_status 22 = .ok (.getfield 40, 3) := by decide +kernel
theorem dX6_status_25 : decode cX6_status 25 = .ok (.iload_n 1, 1) := by decide +kernel
theorem dX6_status_26 : decode cX6_status 26 = .ok (.iaload, 1) := by decide +kernel
theorem dX6_status_27 : decode cX6_status 27 = .ok (.ireturn, 1) := by decide +kernel
theorem dX6_status_28 : decode cX6_status 28 = .ok (.iconst 0, 1) := by decide +kernel
theorem dX6_status_29 : decode cX6_status 29 = .ok (.istore_n 2, 1) := by decide +kernel
theorem dX6_status_30 : decode cX6_status 30 = .ok (.iconst 0, 1) := by decide +kernel
theorem dX6_status_31 : decode cX6_status 31 = .ok (.istore_n 3, 1) := by decide +kernel
theorem dX6_status_32 : decode cX6_status 32 = .ok (.iload_n 3, 1) := by decide +kernel
theorem dX6_status_33 : decode cX6_status 33 = .ok (.bipush 7, 2) := by decide +kernel
theorem dX6_status_35 : decode cX6_status 35 = .ok (.if_icmp .ge 18, 3) := by decide +kernel
theorem dX6_status_38 : decode cX6_status 38 = .ok (.iload_n 2, 1) := by decide +kernel
theorem dX6_status_39 : decode cX6_status 39 = .ok (.aload_n 0, 1) := by decide +kernel
theorem dX6_status_40 : decode cX6_status 40 = .ok (.getfield 40, 3) := by decide +kernel
theorem dX6_status_43 : decode cX6_status 43 = .ok (.iload_n 3, 1) := by decide +kernel
theorem dX6_status_44 : decode cX6_status 44 = .ok (.iaload, 1) := by decide +kernel
theorem dX6_status_45 : decode cX6_status 45 = .ok (.iadd, 1) := by decide +kernel
theorem dX6_status_46 : decode cX6_status 46 = .ok (.istore_n 2, 1) := by decide +kernel
theorem dX6_status_47 : decode cX6_status 47 = .ok (.iinc 3 1, 3) := by decide +kernel
theorem dX6_status_50 : decode cX6_status 50 = .ok (.goto (-18), 3) := by decide +kernel
theorem dX6_status_53 : decode cX6_status 53 = .ok (.iload_n 2, 1) := by decide +kernel
theorem dX6_status_54 : decode cX6_status 54 = .ok (.ireturn, 1) := by decide +kernel
theorem dX6_tell_0 : decode cX6_tell 0 = .ok (.ldc 50, 2) := by decide +kernel
theorem dX6_tell_2 : decode cX6_tell 2 = .ok (.iload_n 1, 1) := by decide +kernel
theorem dX6_tell_3 : decode cX6_tell 3 = .ok (.isub, 1) := by decide +kernel
theorem dX6_tell_4 : decode cX6_tell 4 = .ok (.istore_n 2, 1) := by decide +kernel
theorem dX6_tell_5 : decode cX6_tell 5 = .ok (.iload_n 2, 1) := by decide +kernel
theorem dX6_tell_6 : decode cX6_tell 6 = .ok (.iconst 0, 1) := by decide +kernel
theorem dX6_tell_7 : decode cX6_tell 7 = .ok (.bipush 6, 2) := by decide +kernel
theorem dX6_tell_9 : decode cX6_tell 9 = .ok (.invokestatic 66, 3) := by decide +kernel
theorem dX6_tell_12 : decode cX6_tell 12 = .ok (.ifCond .eq 13, 3) := by decide +kernel
theorem dX6_tell_15 : decode cX6_tell 15 = .ok (.aload_n 0, 1) := by decide +kernel
theorem dX6_tell_16 : decode cX6_tell 16 = .ok (.getfield 40, 3) := by decide +kernel
theorem dX6_tell_19 : decode cX6_tell 19 = .ok (.iload_n 2, 1) := by decide +kernel
theorem dX6_tell_20 : decode cX6_tell 20 = .ok (.dup2, 1) := by decide +kernel
theorem dX6_tell_21 : decode cX6_tell 21 = .ok (.iaload, 1) := by decide +kernel
theorem dX6_tell_22 : decode cX6_tell 22 = .ok (.iconst 1, 1) := by decide +kernel
theorem dX6_tell_23 : decode cX6_tell 23 = .ok (.iadd, 1) := by decide +kernel
theorem dX6_tell_24 : decode cX6_tell 24 = .ok (.iastore, 1) := by decide +kernel
theorem dX6_tell_25 : decode cX6_tell 25 = .ok (.iload_n 1, 1) := by decide +kernel
theorem dX6_tell_26 : decode cX6_tell 26 = .ok (.ireturn, 1) := by decide +kernel
theorem dX6_isWithin_0 : decode cX6_isWithin 0 = .ok (.iload_n 0, 1) := by decide +kernel
theorem dX6_isWithin_1 : decode cX6_isWithin 1 = .ok (.iload_n 1, 1) := by decide +kernel
theorem dX6_isWithin_2 : decode cX6_isWithin 2 = .ok (.if_icmp .lt 12, 3) := by decide +kernel
theorem dX6_isWithin_5 : decode cX6_isWithin 5 = .ok (.iload_n 0, 1) := by decide +kernel
theorem dX6_isWithin_6 : decode cX6_isWithin 6 = .ok (.iload_n 2, 1) := by decide +kernel
theorem dX6_isWithin_7 : decode cX6_isWithin 7 = .ok (.if_icmp .gt 7, 3) := by decide +kernel
theorem dX6_isWithin_10 : decode cX6_isWithin 10 = .ok (.iconst 1, 1) := by decide +kernel
theorem dX6_isWithin_11 : decode cX6_isWithin 11 = .ok (.goto 4, 3) := by decide +kernel
theorem dX6_isWithin_14 : decode cX6_isWithin 14 = .ok (.iconst 0, 1) := by decide +kernel
theorem dX6_isWithin_15 : decode cX6_isWithin 15 = .ok (.ireturn, 1) := by decide +kernel
theorem dX6_isRod_0 : decode cX6_isRod 0 = .ok (.iload_n 1, 1) := by decide +kernel
theorem dX6_isRod_1 : decode cX6_isRod 1 = .ok (.iconst 0, 1) := by decide +kernel
theorem dX6_isRod_2 : decode cX6_isRod 2 = .ok (.aload_n 0, 1) := by decide +kernel
theorem dX6_isRod_3 : decode cX6_isRod 3 = .ok (.getfield 10, 3) := by decide +kernel
theorem dX6_isRod_6 : decode cX6_isRod 6 = .ok (.getfield 86, 3) := by decide +kernel
theorem dX6_isRod_9 : decode cX6_isRod 9 = .ok (.iconst 1, 1) := by decide +kernel
theorem dX6_isRod_10 : decode cX6_isRod 10 = .ok (.isub, 1) := by decide +kernel
theorem dX6_isRod_11 : decode cX6_isRod 11 = .ok (.invokestatic 66, 3) := by decide +kernel
theorem dX6_isRod_14 : decode cX6_isRod 14 = .ok (.ireturn, 1) := by decide +kernel
theorem dX6_isKind_0 : decode cX6_isKind 0 = .ok (.iload_n 0, 1) := by decide +kernel
theorem dX6_isKind_1 : decode cX6_isKind 1 = .ok (.iconst 0, 1) := by decide +kernel
theorem dX6_isKind_2 : decode cX6_isKind 2 = .ok (.iconst 5, 1) := by decide +kernel
theorem dX6_isKind_3 : decode cX6_isKind 3 = .ok (.invokestatic 66, 3) := by decide +kernel
theorem dX6_isKind_6 : decode cX6_isKind 6 = .ok (.ireturn, 1) := by decide +kernel
theorem dX6_isPlace_0 : decode cX6_isPlace 0 = .ok (.iload_n 0, 1) := by decide +kernel
theorem dX6_isPlace_1 : decode cX6_isPlace 1 = .ok (.iconst 0, 1) := by decide +kernel
theorem dX6_isPlace_2 : decode cX6_isPlace 2 = .ok (.bipush 15, 2) := by decide +kernel
theorem dX6_isPlace_4 : decode cX6_isPlace 4 = .ok (.invokestatic 66, 3) := by decide +kernel
theorem dX6_isPlace_7 : decode cX6_isPlace 7 = .ok (.ireturn, 1) := by decide +kernel
theorem dX6_isHeight_0 : decode cX6_isHeight 0 = .ok (.iload_n 0, 1) := by decide +kernel
theorem dX6_isHeight_1 : decode cX6_isHeight 1 = .ok (.iconst 0, 1) := by decide +kernel
theorem dX6_isHeight_2 : decode cX6_isHeight 2 = .ok (.bipush 60, 2) := by decide +kernel
theorem dX6_isHeight_4 : decode cX6_isHeight 4 = .ok (.invokestatic 66, 3) := by decide +kernel
theorem dX6_isHeight_7 : decode cX6_isHeight 7 = .ok (.ireturn, 1) := by decide +kernel
theorem dX6_isClock_0 : decode cX6_isClock 0 = .ok (.iload_n 0, 1) := by decide +kernel
theorem dX6_isClock_1 : decode cX6_isClock 1 = .ok (.iconst 0, 1) := by decide +kernel
theorem dX6_isClock_2 : decode cX6_isClock 2 = .ok (.bipush 23, 2) := by decide +kernel
theorem dX6_isClock_4 : decode cX6_isClock 4 = .ok (.invokestatic 66, 3) := by decide +kernel
theorem dX6_isClock_7 : decode cX6_isClock 7 = .ok (.ireturn, 1) := by decide +kernel
theorem dX6_isSheet_0 : decode cX6_isSheet 0 = .ok (.iload_n 0, 1) := by decide +kernel
theorem dX6_isSheet_1 : decode cX6_isSheet 1 = .ok (.iconst 0, 1) := by decide +kernel
theorem dX6_isSheet_2 : decode cX6_isSheet 2 = .ok (.iconst 3, 1) := by decide +kernel
theorem dX6_isSheet_3 : decode cX6_isSheet 3 = .ok (.invokestatic 66, 3) := by decide +kernel
theorem dX6_isSheet_6 : decode cX6_isSheet 6 = .ok (.ireturn, 1) := by decide +kernel
theorem dX6_findingOfSheet_0 : decode cX6_findingOfSheet 0 = .ok (.iload_n 1, 1) := by decide +kernel
theorem dX6_findingOfSheet_1 : decode cX6_findingOfSheet 1 = .ok (.invokestatic 228, 3) := by decide +kernel
theorem dX6_findingOfSheet_4 : decode cX6_findingOfSheet 4 = .ok (.ifCond .ne 6, 3) := by decide +kernel
theorem dX6_findingOfSheet_7 : decode cX6_findingOfSheet 7 = .ok (.ldc 50, 2) := by decide +kernel
theorem dX6_findingOfSheet_9 : decode cX6_findingOfSheet 9 = .ok (.ireturn, 1) := by decide +kernel
theorem dX6_findingOfSheet_10 : decode cX6_findingOfSheet 10 = .ok (.aload_n 0, 1) := by decide +kernel
theorem dX6_findingOfSheet_11 : decode cX6_findingOfSheet 11 = .ok (.getfield 35, 3) := by decide +kernel
theorem dX6_findingOfSheet_14 : decode cX6_findingOfSheet 14 = .ok (.iload_n 1, 1) := by decide +kernel
theorem dX6_findingOfSheet_15 : decode cX6_findingOfSheet 15 = .ok (.aaload, 1) := by decide +kernel
theorem dX6_findingOfSheet_16 : decode cX6_findingOfSheet 16 = .ok (.invokevirtual 250, 3) := by decide +kernel
theorem dX6_findingOfSheet_19 : decode cX6_findingOfSheet 19 = .ok (.ifCond .eq 8, 3) := by decide +kernel
theorem dX6_findingOfSheet_22 : decode cX6_findingOfSheet 22 = .ok (.ldc 253, 2) := by decide +kernel
theorem dX6_findingOfSheet_24 : decode cX6_findingOfSheet 24 = .ok (.goto 4, 3) := by decide +kernel
theorem dX6_findingOfSheet_27 : decode cX6_findingOfSheet 27 = .ok (.iconst 0, 1) := by decide +kernel
theorem dX6_findingOfSheet_28 : decode cX6_findingOfSheet 28 = .ok (.ireturn, 1) := by decide +kernel
theorem dX6_findingOfBook_0 : decode cX6_findingOfBook 0 = .ok (.aload_n 0, 1) := by decide +kernel
theorem dX6_findingOfBook_1 : decode cX6_findingOfBook 1 = .ok (.iload_n 1, 1) := by decide +kernel
theorem dX6_findingOfBook_2 : decode cX6_findingOfBook 2 = .ok (.invokevirtual 239, 3) := by decide +kernel
theorem dX6_findingOfBook_5 : decode cX6_findingOfBook 5 = .ok (.istore_n 3, 1) := by decide +kernel
theorem dX6_findingOfBook_6 : decode cX6_findingOfBook 6 = .ok (.iload_n 3, 1) := by decide +kernel
theorem dX6_findingOfBook_7 : decode cX6_findingOfBook 7 = .ok (.ifCond .ne 14, 3) := by decide +kernel
theorem dX6_findingOfBook_10 : decode cX6_findingOfBook 10 = .ok (.aload_n 0, 1) := by decide +kernel
theorem dX6_findingOfBook_11 : decode cX6_findingOfBook 11 = .ok (.iload_n 2, 1) := by decide +kernel
theorem dX6_findingOfBook_12 : decode cX6_findingOfBook 12 = .ok (.invokevirtual 90, 3) := by decide +kernel
theorem dX6_findingOfBook_15 : decode cX6_findingOfBook 15 = .ok (.ifCond .ne 6, 3) := by decide +kernel
theorem dX6_findingOfBook_18 : decode cX6_findingOfBook 18 = .ok (.ldc 50, 2) := by decide +kernel
theorem dX6_findingOfBook_20 : decode cX6_findingOfBook 20 = .ok (.ireturn, 1) := by decide +kernel
theorem dX6_findingOfBook_21 : decode cX6_findingOfBook 21 = .ok (.iload_n 3, 1) := by decide +kernel
theorem dX6_findingOfBook_22 : decode cX6_findingOfBook 22 = .ok (.ireturn, 1) := by decide +kernel
theorem dX6_raiseGhost_0 : decode cX6_raiseGhost 0 = .ok (.aload_n 0, 1) := by decide +kernel
theorem dX6_raiseGhost_1 : decode cX6_raiseGhost 1 = .ok (.getfield 16, 3) := by decide +kernel
theorem dX6_raiseGhost_4 : decode cX6_raiseGhost 4 = .ok (.aload_n 0, 1) := by decide +kernel
theorem dX6_raiseGhost_5 : decode cX6_raiseGhost 5 = .ok (.getfield 10, 3) := by decide +kernel
theorem dX6_raiseGhost_8 : decode cX6_raiseGhost 8 = .ok (.invokevirtual 224, 3) := by decide +kernel
theorem dX6_raiseGhost_11 : decode cX6_raiseGhost 11 = .ok (.return_, 1) := by decide +kernel
theorem dX6_leadGhostToBolt_0 : decode cX6_leadGhostToBolt 0 = .ok (.aload_n 0, 1) := by decide +kernel
theorem dX6_leadGhostToBolt_1 : decode cX6_leadGhostToBolt 1 = .ok (.invokevirtual 175, 3) := by decide +kernel
theorem dX6_leadGhostToBolt_4 : decode cX6_leadGhostToBolt 4 = .ok (.iconst 0, 1) := by decide +kernel
theorem dX6_leadGhostToBolt_5 : decode cX6_leadGhostToBolt 5 = .ok (.istore_n 1, 1) := by decide +kernel
theorem dX6_leadGhostToBolt_6 : decode cX6_leadGhostToBolt 6 = .ok (.iload_n 1, 1) := by decide +kernel
theorem dX6_leadGhostToBolt_7 : decode cX6_leadGhostToBolt 7 = .ok (.bipush 100, 2) := by decide +kernel
theorem dX6_leadGhostToBolt_9 : decode cX6_leadGhostToBolt 9 = .ok (.if_icmp .ge 34, 3) := by decide +kernel
theorem dX6_leadGhostToBolt_12 : decode cX6_leadGhostToBolt 12 = .ok (.aload_n 0, 1) := by decide +kernel
theorem dX6_leadGhostToBolt_13 : decode cX6_leadGhostToBolt 13 = .ok (.getfield 16, 3) := by decide +kernel
theorem dX6_leadGhostToBolt_16 : decode cX6_leadGhostToBolt 16 = .ok (.getfield 55, 3) := by decide +kernel
theorem dX6_leadGhostToBolt_19 : decode cX6_leadGhostToBolt 19 = .ok (.invokevirtual 292, 3) := by decide +kernel
theorem dX6_leadGhostToBolt_22 : decode cX6_leadGhostToBolt 22 = .ok (.ifCond .eq 5, 3) := by decide +kernel
theorem dX6_leadGhostToBolt_25 : decode cX6_leadGhostToBolt 25 = .ok (.iload_n 1, 1) := by decide +kernel
theorem dX6_leadGhostToBolt_26 : decode cX6_leadGhostToBolt 26 = .ok (.ireturn, 1) := by decide +kernel
theorem dX6_leadGhostToBolt_27 : decode cX6_leadGhostToBolt 27 = .ok (.aload_n 0, 1) := by decide +kernel
theorem dX6_leadGhostToBolt_28 : decode cX6_leadGhostToBolt 28 = .ok (.getfield 16, 3) := by decide +kernel
theorem dX6_leadGhostToBolt_31 : decode cX6_leadGhostToBolt 31 = .ok (.getfield 55, 3) := by decide +kernel
theorem dX6_leadGhostToBolt_34 : decode cX6_leadGhostToBolt 34 = .ok (.invokevirtual 295, 3) := by decide +kernel
theorem dX6_leadGhostToBolt_37 : decode cX6_leadGhostToBolt 37 = .ok (.iinc 1 1, 3) := by decide +kernel
theorem dX6_leadGhostToBolt_40 : decode cX6_leadGhostToBolt 40 = .ok (.goto (-34), 3) := by decide +kernel
theorem dX6_leadGhostToBolt_43 : decode cX6_leadGhostToBolt 43 = .ok (.iconst (-1), 1) := by decide +kernel
theorem dX6_leadGhostToBolt_44 : decode cX6_leadGhostToBolt 44 = .ok (.ireturn, 1) := by decide +kernel
theorem dX6_isGhostStruck_0 : decode cX6_isGhostStruck 0 = .ok (.aload_n 0, 1) := by decide +kernel
theorem dX6_isGhostStruck_1 : decode cX6_isGhostStruck 1 = .ok (.getfield 16, 3) := by decide +kernel
theorem dX6_isGhostStruck_4 : decode cX6_isGhostStruck 4 = .ok (.getfield 93, 3) := by decide +kernel
theorem dX6_isGhostStruck_7 : decode cX6_isGhostStruck 7 = .ok (.iload_n 1, 1) := by decide +kernel
theorem dX6_isGhostStruck_8 : decode cX6_isGhostStruck 8 = .ok (.aaload, 1) := by decide +kernel
theorem dX6_isGhostStruck_9 : decode cX6_isGhostStruck 9 = .ok (.iload_n 2, 1) := by decide +kernel
theorem dX6_isGhostStruck_10 : decode cX6_isGhostStruck 10 = .ok (.putfield 124, 3) := by decide +kernel
theorem dX6_isGhostStruck_13 : decode cX6_isGhostStruck 13 = .ok (.aload_n 0, 1) := by decide +kernel
theorem dX6_isGhostStruck_14 : decode cX6_isGhostStruck 14 = .ok (.getfield 16, 3) := by decide +kernel
theorem dX6_isGhostStruck_17 : decode cX6_isGhostStruck 17 = .ok (.aload_n 0, 1) := by decide +kernel
theorem dX6_isGhostStruck_18 : decode cX6_isGhostStruck 18 = .ok (.getfield 16, 3) := by decide +kernel
theorem dX6_isGhostStruck_21 : decode cX6_isGhostStruck 21 = .ok (.getfield 55, 3) := by decide +kernel
theorem dX6_isGhostStruck_24 : decode cX6_isGhostStruck 24 = .ok (.getfield 97, 3) := by decide +kernel
theorem dX6_isGhostStruck_27 : decode cX6_isGhostStruck 27 = .ok (.invokevirtual 185, 3) := by decide +kernel
theorem dX6_isGhostStruck_30 : decode cX6_isGhostStruck 30 = .ok (.iload_n 1, 1) := by decide +kernel
theorem dX6_isGhostStruck_31 : decode cX6_isGhostStruck 31 = .ok (.if_icmp .ne 7, 3) := by decide +kernel
theorem dX6_isGhostStruck_34 : decode cX6_isGhostStruck 34 = .ok (.iconst 1, 1) := by decide +kernel
theorem dX6_isGhostStruck_35 : decode cX6_isGhostStruck 35 = .ok (.goto 4, 3) := by decide +kernel
theorem dX6_isGhostStruck_38 : decode cX6_isGhostStruck 38 = .ok (.iconst 0, 1) := by decide +kernel
theorem dX6_isGhostStruck_39 : decode cX6_isGhostStruck 39 = .ok (.ireturn, 1) := by decide +kernel
theorem dX6_clocksOfBolts_0 : decode cX6_clocksOfBolts 0 = .ok (.aload_n 0, 1) := by decide +kernel
theorem dX6_clocksOfBolts_1 : decode cX6_clocksOfBolts 1 = .ok (.invokevirtual 175, 3) := by decide +kernel
theorem dX6_clocksOfBolts_4 : decode cX6_clocksOfBolts 4 = .ok (.aload_n 0, 1) := by decide +kernel
theorem dX6_clocksOfBolts_5 : decode cX6_clocksOfBolts 5 = .ok (.getfield 16, 3) := by decide +kernel
theorem dX6_clocksOfBolts_8 : decode cX6_clocksOfBolts 8 = .ok (.invokevirtual 276, 3) := by decide +kernel
theorem dX6_clocksOfBolts_11 : decode cX6_clocksOfBolts 11 = .ok (.iconst 0, 1) := by decide +kernel
theorem dX6_clocksOfBolts_12 : decode cX6_clocksOfBolts 12 = .ok (.istore_n 3, 1) := by decide +kernel
end
section
theorem dX6_clocksOfBolts_13 : decode cX6_clocksOfBolts 13 = .ok (.iconst 0, 1) := by decide +kernel
theorem dX6_clocksOfBolts_14 : decode cX6_clocksOfBolts 14 = .ok (.istore 4, 2) := by decide +kernel
theorem dX6_clocksOfBolts_16 : decode cX6_clocksOfBolts 16 = .ok (.iload 4, 2) := by decide +kernel
theorem dX6_clocksOfBolts_18 : decode cX6_clocksOfBolts 18 = .ok (.iload_n 2, 1) := by decide +kernel
theorem dX6_clocksOfBolts_19 : decode cX6_clocksOfBolts 19 = .ok (.if_icmp .ge 39, 3) := by decide +kernel
theorem dX6_clocksOfBolts_22 : decode cX6_clocksOfBolts 22 = .ok (.aload_n 0, 1) := by decide +kernel
theorem dX6_clocksOfBolts_23 : decode cX6_clocksOfBolts 23 = .ok (.getfield 16, 3) := by decide +kernel
theorem dX6_clocksOfBolts_26 : decode cX6_clocksOfBolts 26 = .ok (.iload_n 1, 1) := by decide +kernel
theorem dX6_clocksOfBolts_27 : decode cX6_clocksOfBolts 27 = .ok (.invokevirtual 298, 3) := by decide +kernel
theorem dX6_clocksOfBolts_30 : decode cX6_clocksOfBolts 30 = .ok (.ifCond .eq 15, 3) := by decide +kernel
theorem dX6_clocksOfBolts_33 : decode cX6_clocksOfBolts 33 = .ok (.iload_n 3, 1) := by decide +kernel
theorem dX6_clocksOfBolts_34 : decode cX6_clocksOfBolts 34 = .ok (.iconst 1, 1) := by decide +kernel
theorem dX6_clocksOfBolts_35 : decode cX6_clocksOfBolts 35 = .ok (.aload_n 0, 1) := by decide +kernel
theorem dX6_clocksOfBolts_36 : decode cX6_clocksOfBolts 36 = .ok (.getfield 16, 3) := by decide +kernel
theorem dX6_clocksOfBolts_39 : decode cX6_clocksOfBolts 39 = .ok (.invokevirtual 108, 3) := by decide +kernel
theorem dX6_clocksOfBolts_42 : decode cX6_clocksOfBolts 42 = .ok (.ishl, 1) := by decide +kernel
theorem dX6_clocksOfBolts_43 : decode cX6_clocksOfBolts 43 = .ok (.ior, 1) := by decide +kernel
theorem dX6_clocksOfBolts_44 : decode cX6_clocksOfBolts 44 = .ok (.istore_n 3, 1) := by decide +kernel
theorem dX6_clocksOfBolts_45 : decode cX6_clocksOfBolts 45 = .ok (.aload_n 0, 1) := by decide +kernel
theorem dX6_clocksOfBolts_46 : decode cX6_clocksOfBolts 46 = .ok (.getfield 16, 3) := by decide +kernel
theorem dX6_clocksOfBolts_49 : decode cX6_clocksOfBolts 49 = .ok (.invokevirtual 279, 3) := by decide +kernel
theorem dX6_clocksOfBolts_52 : decode cX6_clocksOfBolts 52 = .ok (.iinc 4 1, 3) := by decide +kernel
theorem dX6_clocksOfBolts_55 : decode cX6_clocksOfBolts 55 = .ok (.goto (-39), 3) := by decide +kernel
theorem dX6_clocksOfBolts_58 : decode cX6_clocksOfBolts 58 = .ok (.iload_n 3, 1) := by decide +kernel
theorem dX6_clocksOfBolts_59 : decode cX6_clocksOfBolts 59 = .ok (.ireturn, 1) := by decide +kernel
theorem dX6_bestFrom_0 : decode cX6_bestFrom 0 = .ok (.iconst 0, 1) := by decide +kernel
theorem dX6_bestFrom_1 : decode cX6_bestFrom 1 = .ok (.istore_n 1, 1) := by decide +kernel
theorem dX6_bestFrom_2 : decode cX6_bestFrom 2 = .ok (.iconst 1, 1) := by decide +kernel
theorem dX6_bestFrom_3 : decode cX6_bestFrom 3 = .ok (.istore_n 2, 1) := by decide +kernel
theorem dX6_bestFrom_4 : decode cX6_bestFrom 4 = .ok (.iload_n 2, 1) := by decide +kernel
theorem dX6_bestFrom_5 : decode cX6_bestFrom 5 = .ok (.bipush 24, 2) := by decide +kernel
theorem dX6_bestFrom_7 : decode cX6_bestFrom 7 = .ok (.if_icmp .ge 24, 3) := by decide +kernel
theorem dX6_bestFrom_10 : decode cX6_bestFrom 10 = .ok (.iload_n 0, 1) := by decide +kernel
theorem dX6_bestFrom_11 : decode cX6_bestFrom 11 = .ok (.iload_n 2, 1) := by decide +kernel
theorem dX6_bestFrom_12 : decode cX6_bestFrom 12 = .ok (.invokestatic 197, 3) := by decide +kernel
theorem dX6_bestFrom_15 : decode cX6_bestFrom 15 = .ok (.iload_n 0, 1) := by decide +kernel
theorem dX6_bestFrom_16 : decode cX6_bestFrom 16 = .ok (.iload_n 1, 1) := by decide +kernel
theorem dX6_bestFrom_17 : decode cX6_bestFrom 17 = .ok (.invokestatic 197, 3) := by decide +kernel
theorem dX6_bestFrom_20 : decode cX6_bestFrom 20 = .ok (.if_icmp .ge 5, 3) := by decide +kernel
theorem dX6_bestFrom_23 : decode cX6_bestFrom 23 = .ok (.iload_n 2, 1) := by decide +kernel
theorem dX6_bestFrom_24 : decode cX6_bestFrom 24 = .ok (.istore_n 1, 1) := by decide +kernel
theorem dX6_bestFrom_25 : decode cX6_bestFrom 25 = .ok (.iinc 2 1, 3) := by decide +kernel
theorem dX6_bestFrom_28 : decode cX6_bestFrom 28 = .ok (.goto (-24), 3) := by decide +kernel
theorem dX6_bestFrom_31 : decode cX6_bestFrom 31 = .ok (.iload_n 1, 1) := by decide +kernel
theorem dX6_bestFrom_32 : decode cX6_bestFrom 32 = .ok (.ireturn, 1) := by decide +kernel
theorem dX6_hoursToCover_0 : decode cX6_hoursToCover 0 = .ok (.iload_n 0, 1) := by decide +kernel
theorem dX6_hoursToCover_1 : decode cX6_hoursToCover 1 = .ok (.iload_n 1, 1) := by decide +kernel
theorem dX6_hoursToCover_2 : decode cX6_hoursToCover 2 = .ok (.iushr, 1) := by decide +kernel
theorem dX6_hoursToCover_3 : decode cX6_hoursToCover 3 = .ok (.iload_n 0, 1) := by decide +kernel
theorem dX6_hoursToCover_4 : decode cX6_hoursToCover 4 = .ok (.bipush 24, 2) := by decide +kernel
theorem dX6_hoursToCover_6 : decode cX6_hoursToCover 6 = .ok (.iload_n 1, 1) := by decide +kernel
theorem dX6_hoursToCover_7 : decode cX6_hoursToCover 7 = .ok (.isub, 1) := by decide +kernel
theorem dX6_hoursToCover_8 : decode cX6_hoursToCover 8 = .ok (.ishl, 1) := by decide +kernel
theorem dX6_hoursToCover_9 : decode cX6_hoursToCover 9 = .ok (.ior, 1) := by decide +kernel
theorem dX6_hoursToCover_10 : decode cX6_hoursToCover 10 = .ok (.ldc_w 301, 3) := by decide +kernel
theorem dX6_hoursToCover_13 : decode cX6_hoursToCover 13 = .ok (.iand, 1) := by decide +kernel
theorem dX6_hoursToCover_14 : decode cX6_hoursToCover 14 = .ok (.istore_n 2, 1) := by decide +kernel
theorem dX6_hoursToCover_15 : decode cX6_hoursToCover 15 = .ok (.bipush 32, 2) := by decide +kernel
theorem dX6_hoursToCover_17 : decode cX6_hoursToCover 17 = .ok (.iload_n 2, 1) := by decide +kernel
theorem dX6_hoursToCover_18 : decode cX6_hoursToCover 18 = .ok (.invokestatic 302, 3) := by decide +kernel
theorem dX6_hoursToCover_21 : decode cX6_hoursToCover 21 = .ok (.isub, 1) := by decide +kernel
theorem dX6_hoursToCover_22 : decode cX6_hoursToCover 22 = .ok (.ireturn, 1) := by decide +kernel
theorem dX6_commonDivisor_0 : decode cX6_commonDivisor 0 = .ok (.iload_n 0, 1) := by decide +kernel
theorem dX6_commonDivisor_1 : decode cX6_commonDivisor 1 = .ok (.istore_n 2, 1) := by decide +kernel
theorem dX6_commonDivisor_2 : decode cX6_commonDivisor 2 = .ok (.iload_n 1, 1) := by decide +kernel
theorem dX6_commonDivisor_3 : decode cX6_commonDivisor 3 = .ok (.istore_n 3, 1) := by decide +kernel
theorem dX6_commonDivisor_4 : decode cX6_commonDivisor 4 = .ok (.iconst 0, 1) := by decide +kernel
theorem dX6_commonDivisor_5 : decode cX6_commonDivisor 5 = .ok (.istore 4, 2) := by decide +kernel
theorem dX6_commonDivisor_7 : decode cX6_commonDivisor 7 = .ok (.iload 4, 2) := by decide +kernel
theorem dX6_commonDivisor_9 : decode cX6_commonDivisor 9 = .ok (.bipush 100, 2) := by decide +kernel
theorem dX6_commonDivisor_11 : decode cX6_commonDivisor 11 = .ok (.if_icmp .ge 23, 3) := by decide +kernel
theorem dX6_commonDivisor_14 : decode cX6_commonDivisor 14 = .ok (.iload_n 3, 1) := by decide +kernel
theorem dX6_commonDivisor_15 : decode cX6_commonDivisor 15 = .ok (.ifCond .eq 19, 3) := by decide +kernel
theorem dX6_commonDivisor_18 : decode cX6_commonDivisor 18 = .ok (.iload_n 2, 1) := by decide +kernel
theorem dX6_commonDivisor_19 : decode cX6_commonDivisor 19 = .ok (.iload_n 3, 1) := by decide +kernel
theorem dX6_commonDivisor_20 : decode cX6_commonDivisor 20 = .ok (.irem, 1) := by decide +kernel
theorem dX6_commonDivisor_21 : decode cX6_commonDivisor 21 = .ok (.istore 5, 2) := by decide +kernel
theorem dX6_commonDivisor_23 : decode cX6_commonDivisor 23 = .ok (.iload_n 3, 1) := by decide +kernel
theorem dX6_commonDivisor_24 : decode cX6_commonDivisor 24 = .ok (.istore_n 2, 1) := by decide +kernel
theorem dX6_commonDivisor_25 : decode cX6_commonDivisor 25 = .ok (.iload 5, 2) := by decide +kernel
theorem dX6_commonDivisor_27 : decode cX6_commonDivisor 27 = .ok (.istore_n 3, 1) := by decide +kernel
theorem dX6_commonDivisor_28 : decode cX6_commonDivisor 28 = .ok (.iinc 4 1, 3) := by decide +kernel
theorem dX6_commonDivisor_31 : decode cX6_commonDivisor 31 = .ok (.goto (-24), 3) := by decide +kernel
theorem dX6_commonDivisor_34 : decode cX6_commonDivisor 34 = .ok (.iload_n 2, 1) := by decide +kernel
theorem dX6_commonDivisor_35 : decode cX6_commonDivisor 35 = .ok (.ireturn, 1) := by decide +kernel
theorem dX6_isBooked_0 : decode cX6_isBooked 0 = .ok (.aload_n 0, 1) := by decide +kernel
theorem dX6_isBooked_1 : decode cX6_isBooked 1 = .ok (.getfield 10, 3) := by decide +kernel
theorem dX6_isBooked_4 : decode cX6_isBooked 4 = .ok (.getfield 93, 3) := by decide +kernel
theorem dX6_isBooked_7 : decode cX6_isBooked 7 = .ok (.iload_n 2, 1) := by decide +kernel
theorem dX6_isBooked_8 : decode cX6_isBooked 8 = .ok (.aaload, 1) := by decide +kernel
theorem dX6_isBooked_9 : decode cX6_isBooked 9 = .ok (.getfield 178, 3) := by decide +kernel
theorem dX6_isBooked_12 : decode cX6_isBooked 12 = .ok (.istore_n 3, 1) := by decide +kernel
theorem dX6_isBooked_13 : decode cX6_isBooked 13 = .ok (.iconst 0, 1) := by decide +kernel
theorem dX6_isBooked_14 : decode cX6_isBooked 14 = .ok (.istore 4, 2) := by decide +kernel
theorem dX6_isBooked_16 : decode cX6_isBooked 16 = .ok (.iload 4, 2) := by decide +kernel
theorem dX6_isBooked_18 : decode cX6_isBooked 18 = .ok (.aload_n 1, 1) := by decide +kernel
theorem dX6_isBooked_19 : decode cX6_isBooked 19 = .ok (.getfield 238, 3) := by decide +kernel
theorem dX6_isBooked_22 : decode cX6_isBooked 22 = .ok (.if_icmp .ge 52, 3) := by decide +kernel
theorem dX6_isBooked_25 : decode cX6_isBooked 25 = .ok (.aload_n 1, 1) := by decide +kernel
theorem dX6_isBooked_26 : decode cX6_isBooked 26 = .ok (.getfield 242, 3) := by decide +kernel
theorem dX6_isBooked_29 : decode cX6_isBooked 29 = .ok (.iload 4, 2) := by decide +kernel
theorem dX6_isBooked_31 : decode cX6_isBooked 31 = .ok (.laload, 1) := by decide +kernel
theorem dX6_isBooked_32 : decode cX6_isBooked 32 = .ok (.iload_n 3, 1) := by decide +kernel
theorem dX6_isBooked_33 : decode cX6_isBooked 33 = .ok (.i2l, 1) := by decide +kernel
theorem dX6_isBooked_34 : decode cX6_isBooked 34 = .ok (.lcmp, 1) := by decide +kernel
theorem dX6_isBooked_35 : decode cX6_isBooked 35 = .ok (.ifCond .eq 5, 3) := by decide +kernel
theorem dX6_isBooked_38 : decode cX6_isBooked 38 = .ok (.iconst 0, 1) := by decide +kernel
theorem dX6_isBooked_39 : decode cX6_isBooked 39 = .ok (.ireturn, 1) := by decide +kernel
theorem dX6_isBooked_40 : decode cX6_isBooked 40 = .ok (.aload_n 0, 1) := by decide +kernel
theorem dX6_isBooked_41 : decode cX6_isBooked 41 = .ok (.getfield 16, 3) := by decide +kernel
theorem dX6_isBooked_44 : decode cX6_isBooked 44 = .ok (.iload_n 2, 1) := by decide +kernel
theorem dX6_isBooked_45 : decode cX6_isBooked 45 = .ok (.invokevirtual 298, 3) := by decide +kernel
theorem dX6_isBooked_48 : decode cX6_isBooked 48 = .ok (.ifCond .eq 10, 3) := by decide +kernel
theorem dX6_isBooked_51 : decode cX6_isBooked 51 = .ok (.iload_n 3, 1) := by decide +kernel
theorem dX6_isBooked_52 : decode cX6_isBooked 52 = .ok (.iconst 1, 1) := by decide +kernel
theorem dX6_isBooked_53 : decode cX6_isBooked 53 = .ok (.iadd, 1) := by decide +kernel
theorem dX6_isBooked_54 : decode cX6_isBooked 54 = .ok (.invokestatic 307, 3) := by decide +kernel
theorem dX6_isBooked_57 : decode cX6_isBooked 57 = .ok (.istore_n 3, 1) := by decide +kernel
theorem dX6_isBooked_58 : decode cX6_isBooked 58 = .ok (.aload_n 0, 1) := by decide +kernel
theorem dX6_isBooked_59 : decode cX6_isBooked 59 = .ok (.getfield 16, 3) := by decide +kernel
theorem dX6_isBooked_62 : decode cX6_isBooked 62 = .ok (.getfield 55, 3) := by decide +kernel
theorem dX6_isBooked_65 : decode cX6_isBooked 65 = .ok (.invokevirtual 310, 3) := by decide +kernel
theorem dX6_isBooked_68 : decode cX6_isBooked 68 = .ok (.iinc 4 1, 3) := by decide +kernel
theorem dX6_isBooked_71 : decode cX6_isBooked 71 = .ok (.goto (-55), 3) := by decide +kernel
theorem dX6_isBooked_74 : decode cX6_isBooked 74 = .ok (.iconst 1, 1) := by decide +kernel
theorem dX6_isBooked_75 : decode cX6_isBooked 75 = .ok (.ireturn, 1) := by decide +kernel
theorem dX6_held_0 : decode cX6_held 0 = .ok (.iload_n 0, 1) := by decide +kernel
theorem dX6_held_1 : decode cX6_held 1 = .ok (.ldc_w 313, 3) := by decide +kernel
theorem dX6_held_4 : decode cX6_held 4 = .ok (.invokestatic 266, 3) := by decide +kernel
theorem dX6_held_7 : decode cX6_held 7 = .ok (.ireturn, 1) := by decide +kernel
end
section
theorem dX7_init_0 : decode cX7_init 0 = .ok (.aload_n 0, 1) := by decide +kernel
theorem dX7_init_1 : decode cX7_init 1 = .ok (.invokespecial 1, 3) := by decide +kernel
theorem dX7_init_4 : decode cX7_init 4 = .ok (.aload_n 0, 1) := by decide +kernel
theorem dX7_init_5 : decode cX7_init 5 = .ok (.bipush 65, 2) := by decide +kernel
theorem dX7_init_7 : decode cX7_init 7 = .ok (.newarray .int, 2) := by decide +kernel
theorem dX7_init_9 : decode cX7_init 9 = .ok (.putfield 7, 3) := by decide +kernel
theorem dX7_init_12 : decode cX7_init 12 = .ok (.aload_n 0, 1) := by decide +kernel
theorem dX7_init_13 : decode cX7_init 13 = .ok (.bipush 7, 2) := by decide +kernel
theorem dX7_init_15 : decode cX7_init 15 = .ok (.newarray .int, 2) := by decide +kernel
theorem dX7_init_17 : decode cX7_init 17 = .ok (.putfield 13, 3) := by decide +kernel
theorem dX7_init_20 : decode cX7_init 20 = .ok (.aload_n 0, 1) := by decide +kernel
theorem dX7_init_21 : decode cX7_init 21 = .ok (.bipush 65, 2) := by decide +kernel
theorem dX7_init_23 : decode cX7_init 23 = .ok (.newarray .int, 2) := by decide +kernel
theorem dX7_init_25 : decode cX7_init 25 = .ok (.putfield 16, 3) := by decide +kernel
theorem dX7_init_28 : decode cX7_init 28 = .ok (.aload_n 0, 1) := by decide +kernel
theorem dX7_init_29 : decode cX7_init 29 = .ok (.bipush 65, 2) := by decide +kernel
theorem dX7_init_31 : decode cX7_init 31 = .ok (.newarray .int, 2) := by decide +kernel
theorem dX7_init_33 : decode cX7_init 33 = .ok (.putfield 19, 3) := by decide +kernel
theorem dX7_init_36 : decode cX7_init 36 = .ok (.aload_n 0, 1) := by decide +kernel
theorem dX7_init_37 : decode cX7_init 37 = .ok (.bipush 120, 2) := by decide +kernel
theorem dX7_init_39 : decode cX7_init 39 = .ok (.newarray .int, 2) := by decide +kernel
theorem dX7_init_41 : decode cX7_init 41 = .ok (.putfield 22, 3) := by decide +kernel
theorem dX7_init_44 : decode cX7_init 44 = .ok (.aload_n 0, 1) := by decide +kernel
theorem dX7_init_45 : decode cX7_init 45 = .ok (.iconst 4, 1) := by decide +kernel
theorem dX7_init_46 : decode cX7_init 46 = .ok (.newarray .int, 2) := by decide +kernel
theorem dX7_init_48 : decode cX7_init 48 = .ok (.putfield 25, 3) := by decide +kernel
theorem dX7_init_51 : decode cX7_init 51 = .ok (.aload_n 0, 1) := by decide +kernel
theorem dX7_init_52 : decode cX7_init 52 = .ok (.iconst 4, 1) := by decide +kernel
theorem dX7_init_53 : decode cX7_init 53 = .ok (.newarray .int, 2) := by decide +kernel
theorem dX7_init_55 : decode cX7_init 55 = .ok (.putfield 28, 3) := by decide +kernel
theorem dX7_init_58 : decode cX7_init 58 = .ok (.aload_n 0, 1) := by decide +kernel
theorem dX7_init_59 : decode cX7_init 59 = .ok (.sipush 160, 3) := by decide +kernel
theorem dX7_init_62 : decode cX7_init 62 = .ok (.newarray .long, 2) := by decide +kernel
theorem dX7_init_64 : decode cX7_init 64 = .ok (.putfield 31, 3) := by decide +kernel
theorem dX7_init_67 : decode cX7_init 67 = .ok (.aload_n 0, 1) := by decide +kernel
theorem dX7_init_68 : decode cX7_init 68 = .ok (.bipush 40, 2) := by decide +kernel
theorem dX7_init_70 : decode cX7_init 70 = .ok (.newarray .long, 2) := by decide +kernel
theorem dX7_init_72 : decode cX7_init 72 = .ok (.putfield 35, 3) := by decide +kernel
theorem dX7_init_75 : decode cX7_init 75 = .ok (.aload_n 0, 1) := by decide +kernel
theorem dX7_init_76 : decode cX7_init 76 = .ok (.bipush 65, 2) := by decide +kernel
theorem dX7_init_78 : decode cX7_init 78 = .ok (.newarray .int, 2) := by decide +kernel
theorem dX7_init_80 : decode cX7_init 80 = .ok (.putfield 38, 3) := by decide +kernel
theorem dX7_init_83 : decode cX7_init 83 = .ok (.aload_n 0, 1) := by decide +kernel
theorem dX7_init_84 : decode cX7_init 84 = .ok (.bipush 65, 2) := by decide +kernel
theorem dX7_init_86 : decode cX7_init 86 = .ok (.newarray .int, 2) := by decide +kernel
theorem dX7_init_88 : decode cX7_init 88 = .ok (.putfield 41, 3) := by decide +kernel
theorem dX7_init_91 : decode cX7_init 91 = .ok (.aload_n 0, 1) := by decide +kernel
theorem dX7_init_92 : decode cX7_init 92 = .ok (.getfield 7, 3) := by decide +kernel
theorem dX7_init_95 : decode cX7_init 95 = .ok (.iconst 2, 1) := by decide +kernel
theorem dX7_init_96 : decode cX7_init 96 = .ok (.iconst 1, 1) := by decide +kernel
theorem dX7_init_97 : decode cX7_init 97 = .ok (.iastore, 1) := by decide +kernel
theorem dX7_init_98 : decode cX7_init 98 = .ok (.aload_n 0, 1) := by decide +kernel
theorem dX7_init_99 : decode cX7_init 99 = .ok (.getfield 7, 3) := by decide +kernel
theorem dX7_init_102 : decode cX7_init 102 = .ok (.iconst 3, 1) := by decide +kernel
theorem dX7_init_103 : decode cX7_init 103 = .ok (.bipush 20, 2) := by decide +kernel
theorem dX7_init_105 : decode cX7_init 105 = .ok (.iastore, 1) := by decide +kernel
theorem dX7_init_106 : decode cX7_init 106 = .ok (.aload_n 0, 1) := by decide +kernel
theorem dX7_init_107 : decode cX7_init 107 = .ok (.getfield 7, 3) := by decide +kernel
theorem dX7_init_110 : decode cX7_init 110 = .ok (.iconst 4, 1) := by decide +kernel
theorem dX7_init_111 : decode cX7_init 111 = .ok (.bipush 60, 2) := by decide +kernel
theorem dX7_init_113 : decode cX7_init 113 = .ok (.iastore, 1) := by decide +kernel
theorem dX7_init_114 : decode cX7_init 114 = .ok (.aload_n 0, 1) := by decide +kernel
theorem dX7_init_115 : decode cX7_init 115 = .ok (.getfield 7, 3) := by decide +kernel
theorem dX7_init_118 : decode cX7_init 118 = .ok (.bipush 7, 2) := by decide +kernel
theorem dX7_init_120 : decode cX7_init 120 = .ok (.iconst 1, 1) := by decide +kernel
theorem dX7_init_121 : decode cX7_init 121 = .ok (.iastore, 1) := by decide +kernel
theorem dX7_init_122 : decode cX7_init 122 = .ok (.return_, 1) := by decide +kernel
theorem dX7_in_0 : decode cX7_in 0 = .ok (.iload_n 0, 1) := by decide +kernel
theorem dX7_in_1 : decode cX7_in 1 = .ok (.iload_n 1, 1) := by decide +kernel
theorem dX7_in_2 : decode cX7_in 2 = .ok (.if_icmp .lt 12, 3) := by decide +kernel
theorem dX7_in_5 : decode cX7_in 5 = .ok (.iload_n 0, 1) := by decide +kernel
theorem dX7_in_6 : decode cX7_in 6 = .ok (.iload_n 2, 1) := by decide +kernel
theorem dX7_in_7 : decode cX7_in 7 = .ok (.if_icmp .gt 7, 3) := by decide +kernel
theorem dX7_in_10 : decode cX7_in 10 = .ok (.iconst 1, 1) := by decide +kernel
theorem dX7_in_11 : decode cX7_in 11 = .ok (.goto 4, 3) := by decide +kernel
theorem dX7_in_14 : decode cX7_in 14 = .ok (.iconst 0, 1) := by decide +kernel
theorem dX7_in_15 : decode cX7_in 15 = .ok (.ireturn, 1) := by decide +kernel
theorem dX7_finds_0 : decode cX7_finds 0 = .ok (.aload_n 0, 1) := by decide +kernel
theorem dX7_finds_1 : decode cX7_finds 1 = .ok (.getfield 13, 3) := by decide +kernel
theorem dX7_finds_4 : decode cX7_finds 4 = .ok (.ldc 44, 2) := by decide +kernel
theorem dX7_finds_6 : decode cX7_finds 6 = .ok (.iload_n 1, 1) := by decide +kernel
theorem dX7_finds_7 : decode cX7_finds 7 = .ok (.isub, 1) := by decide +kernel
theorem dX7_finds_8 : decode cX7_finds 8 = .ok (.dup2, 1) := by decide +kernel
theorem dX7_finds_9 : decode cX7_finds 9 = .ok (.iaload, 1) := by decide +kernel
theorem dX7_finds_10 : decode cX7_finds 10 = .ok (.iconst 1, 1) := by decide +kernel
theorem dX7_finds_11 : decode cX7_finds 11 = .ok (.iadd, 1) := by decide +kernel
theorem dX7_finds_12 : decode cX7_finds 12 = .ok (.iastore, 1) := by decide +kernel
theorem dX7_finds_13 : decode cX7_finds 13 = .ok (.iload_n 1, 1) := by decide +kernel
theorem dX7_finds_14 : decode cX7_finds 14 = .ok (.ireturn, 1) := by decide +kernel
theorem dX7_held_0 : decode cX7_held 0 = .ok (.iload_n 0, 1) := by decide +kernel
theorem dX7_held_1 : decode cX7_held 1 = .ok (.iload_n 1, 1) := by decide +kernel
theorem dX7_held_2 : decode cX7_held 2 = .ok (.if_icmp .ge 7, 3) := by decide +kernel
theorem dX7_held_5 : decode cX7_held 5 = .ok (.iload_n 1, 1) := by decide +kernel
theorem dX7_held_6 : decode cX7_held 6 = .ok (.goto 13, 3) := by decide +kernel
theorem dX7_held_9 : decode cX7_held 9 = .ok (.iload_n 0, 1) := by decide +kernel
theorem dX7_held_10 : decode cX7_held 10 = .ok (.iload_n 2, 1) := by decide +kernel
theorem dX7_held_11 : decode cX7_held 11 = .ok (.if_icmp .le 7, 3) := by decide +kernel
theorem dX7_held_14 : decode cX7_held 14 = .ok (.iload_n 2, 1) := by decide +kernel
theorem dX7_held_15 : decode cX7_held 15 = .ok (.goto 4, 3) := by decide +kernel
theorem dX7_held_18 : decode cX7_held 18 = .ok (.iload_n 0, 1) := by decide +kernel
theorem dX7_held_19 : decode cX7_held 19 = .ok (.ireturn, 1) := by decide +kernel
theorem dX7_its_0 : decode cX7_its 0 = .ok (.aload_n 0, 1) := by decide +kernel
theorem dX7_its_1 : decode cX7_its 1 = .ok (.getfield 7, 3) := by decide +kernel
theorem dX7_its_4 : decode cX7_its 4 = .ok (.bipush 9, 2) := by decide +kernel
theorem dX7_its_6 : decode cX7_its 6 = .ok (.bipush 7, 2) := by decide +kernel
theorem dX7_its_8 : decode cX7_its 8 = .ok (.iload_n 1, 1) := by decide +kernel
theorem dX7_its_9 : decode cX7_its 9 = .ok (.imul, 1) := by decide +kernel
theorem dX7_its_10 : decode cX7_its 10 = .ok (.iadd, 1) := by decide +kernel
theorem dX7_its_11 : decode cX7_its 11 = .ok (.iload_n 2, 1) := by decide +kernel
theorem dX7_its_12 : decode cX7_its 12 = .ok (.iadd, 1) := by decide +kernel
theorem dX7_its_13 : decode cX7_its 13 = .ok (.iaload, 1) := by decide +kernel
theorem dX7_its_14 : decode cX7_its 14 = .ok (.ireturn, 1) := by decide +kernel
theorem dX7_puts_0 : decode cX7_puts 0 = .ok (.aload_n 0, 1) := by decide +kernel
theorem dX7_puts_1 : decode cX7_puts 1 = .ok (.getfield 7, 3) := by decide +kernel
theorem dX7_puts_4 : decode cX7_puts 4 = .ok (.bipush 9, 2) := by decide +kernel
theorem dX7_puts_6 : decode cX7_puts 6 = .ok (.bipush 7, 2) := by decide +kernel
theorem dX7_puts_8 : decode cX7_puts 8 = .ok (.iload_n 1, 1) := by decide +kernel
theorem dX7_puts_9 : decode cX7_puts 9 = .ok (.imul, 1) := by decide +kernel
theorem dX7_puts_10 : decode cX7_puts 10 = .ok (.iadd, 1) := by decide +kernel
theorem dX7_puts_11 : decode cX7_puts 11 = .ok (.iload_n 2, 1) := by decide +kernel
theorem dX7_puts_12 : decode cX7_puts 12 = .ok (.iadd, 1) := by decide +kernel
theorem dX7_puts_13 : decode cX7_puts 13 = .ok (.iload_n 3, 1) := by decide +kernel
theorem dX7_puts_14 : decode cX7_puts 14 = .ok (.iastore, 1) := by decide +kernel
theorem dX7_puts_15 : decode cX7_puts 15 = .ok (.return_, 1) := by decide +kernel
theorem dX7_isRod_0 : decode cX7_isRod 0 = .ok (.iload_n 1, 1) := by decide +kernel
theorem dX7_isRod_1 : decode cX7_isRod 1 = .ok (.iconst 0, 1) := by decide +kernel
theorem dX7_isRod_2 : decode cX7_isRod 2 = .ok (.aload_n 0, 1) := by decide +kernel
theorem dX7_isRod_3 : decode cX7_isRod 3 = .ok (.getfield 7, 3) := by decide +kernel
theorem dX7_isRod_6 : decode cX7_isRod 6 = .ok (.bipush 8, 2) := by decide +kernel
theorem dX7_isRod_8 : decode cX7_isRod 8 = .ok (.iaload, 1) := by decide +kernel
theorem dX7_isRod_9 : decode cX7_isRod 9 = .ok (.iconst 1, 1) := by decide +kernel
theorem dX7_isRod_10 : decode cX7_isRod 10 = .ok (.isub, 1) := by decide +kernel
theorem dX7_isRod_11 : decode cX7_isRod 11 = .ok (.invokestatic 45, 3) := by decide +kernel
theorem dX7_isRod_14 : decode cX7_isRod 14 = .ok (.ireturn, 1) := by decide +kernel
theorem dX7_isPlace_0 : decode cX7_isPlace 0 = .ok (.iload_n 0, 1) := by decide +kernel
theorem dX7_isPlace_1 : decode cX7_isPlace 1 = .ok (.iconst 0, 1) := by decide +kernel
theorem dX7_isPlace_2 : decode cX7_isPlace 2 = .ok (.bipush 15, 2) := by decide +kernel
theorem dX7_isPlace_4 : decode cX7_isPlace 4 = .ok (.invokestatic 45, 3) := by decide +kernel
theorem dX7_isPlace_7 : decode cX7_isPlace 7 = .ok (.ireturn, 1) := by decide +kernel
theorem dX7_isKind_0 : decode cX7_isKind 0 = .ok (.iload_n 0, 1) := by decide +kernel
theorem dX7_isKind_1 : decode cX7_isKind 1 = .ok (.iconst 0, 1) := by decide +kernel
theorem dX7_isKind_2 : decode cX7_isKind 2 = .ok (.iconst 5, 1) := by decide +kernel
theorem dX7_isKind_3 : decode cX7_isKind 3 = .ok (.invokestatic 45, 3) := by decide +kernel
theorem dX7_isKind_6 : decode cX7_isKind 6 = .ok (.ireturn, 1) := by decide +kernel
theorem dX7_cloud_0 : decode cX7_cloud 0 = .ok (.iload_n 1, 1) := by decide +kernel
theorem dX7_cloud_1 : decode cX7_cloud 1 = .ok (.ifCond .ne 10, 3) := by decide +kernel
theorem dX7_cloud_4 : decode cX7_cloud 4 = .ok (.iload_n 2, 1) := by decide +kernel
theorem dX7_cloud_5 : decode cX7_cloud 5 = .ok (.invokestatic 49, 3) := by decide +kernel
theorem dX7_cloud_8 : decode cX7_cloud 8 = .ok (.goto 68, 3) := by decide +kernel
theorem dX7_cloud_11 : decode cX7_cloud 11 = .ok (.iload_n 1, 1) := by decide +kernel
theorem dX7_cloud_12 : decode cX7_cloud 12 = .ok (.iconst 1, 1) := by decide +kernel
theorem dX7_cloud_13 : decode cX7_cloud 13 = .ok (.if_icmp .ne 13, 3) := by decide +kernel
theorem dX7_cloud_16 : decode cX7_cloud 16 = .ok (.iload_n 2, 1) := by decide +kernel
theorem dX7_cloud_17 : decode cX7_cloud 17 = .ok (.iconst 0, 1) := by decide +kernel
theorem dX7_cloud_18 : decode cX7_cloud 18 = .ok (.bipush 99, 2) := by decide +kernel
theorem dX7_cloud_20 : decode cX7_cloud 20 = .ok (.invokestatic 45, 3) := by decide +kernel
theorem dX7_cloud_23 : decode cX7_cloud 23 = .ok (.goto 53, 3) := by decide +kernel
theorem dX7_cloud_26 : decode cX7_cloud 26 = .ok (.iload_n 1, 1) := by decide +kernel
theorem dX7_cloud_27 : decode cX7_cloud 27 = .ok (.iconst 2, 1) := by decide +kernel
theorem dX7_cloud_28 : decode cX7_cloud 28 = .ok (.if_icmp .ne 12, 3) := by decide +kernel
theorem dX7_cloud_31 : decode cX7_cloud 31 = .ok (.iload_n 2, 1) := by decide +kernel
theorem dX7_cloud_32 : decode cX7_cloud 32 = .ok (.iconst (-1), 1) := by decide +kernel
theorem dX7_cloud_33 : decode cX7_cloud 33 = .ok (.iconst 1, 1) := by decide +kernel
theorem dX7_cloud_34 : decode cX7_cloud 34 = .ok (.invokestatic 45, 3) := by decide +kernel
theorem dX7_cloud_37 : decode cX7_cloud 37 = .ok (.goto 39, 3) := by decide +kernel
theorem dX7_cloud_40 : decode cX7_cloud 40 = .ok (.iload_n 1, 1) := by decide +kernel
theorem dX7_cloud_41 : decode cX7_cloud 41 = .ok (.iconst 3, 1) := by decide +kernel
theorem dX7_cloud_42 : decode cX7_cloud 42 = .ok (.if_icmp .ne 13, 3) := by decide +kernel
theorem dX7_cloud_45 : decode cX7_cloud 45 = .ok (.iload_n 2, 1) := by decide +kernel
theorem dX7_cloud_46 : decode cX7_cloud 46 = .ok (.iconst 0, 1) := by decide +kernel
theorem dX7_cloud_47 : decode cX7_cloud 47 = .ok (.bipush 50, 2) := by decide +kernel
theorem dX7_cloud_49 : decode cX7_cloud 49 = .ok (.invokestatic 45, 3) := by decide +kernel
theorem dX7_cloud_52 : decode cX7_cloud 52 = .ok (.goto 24, 3) := by decide +kernel
theorem dX7_cloud_55 : decode cX7_cloud 55 = .ok (.iload_n 1, 1) := by decide +kernel
theorem dX7_cloud_56 : decode cX7_cloud 56 = .ok (.iconst 4, 1) := by decide +kernel
theorem dX7_cloud_57 : decode cX7_cloud 57 = .ok (.if_icmp .ne 18, 3) := by decide +kernel
theorem dX7_cloud_60 : decode cX7_cloud 60 = .ok (.iload_n 2, 1) := by decide +kernel
theorem dX7_cloud_61 : decode cX7_cloud 61 = .ok (.bipush 20, 2) := by decide +kernel
theorem dX7_cloud_63 : decode cX7_cloud 63 = .ok (.bipush 99, 2) := by decide +kernel
theorem dX7_cloud_65 : decode cX7_cloud 65 = .ok (.invokestatic 45, 3) := by decide +kernel
theorem dX7_cloud_68 : decode cX7_cloud 68 = .ok (.ifCond .eq 7, 3) := by decide +kernel
theorem dX7_cloud_71 : decode cX7_cloud 71 = .ok (.iconst 1, 1) := by decide +kernel
theorem dX7_cloud_72 : decode cX7_cloud 72 = .ok (.goto 4, 3) := by decide +kernel
theorem dX7_cloud_75 : decode cX7_cloud 75 = .ok (.iconst 0, 1) := by decide +kernel
theorem dX7_cloud_76 : decode cX7_cloud 76 = .ok (.istore_n 3, 1) := by decide +kernel
theorem dX7_cloud_77 : decode cX7_cloud 77 = .ok (.iload_n 3, 1) := by decide +kernel
theorem dX7_cloud_78 : decode cX7_cloud 78 = .ok (.ifCond .ne 10, 3) := by decide +kernel
theorem dX7_cloud_81 : decode cX7_cloud 81 = .ok (.aload_n 0, 1) := by decide +kernel
theorem dX7_cloud_82 : decode cX7_cloud 82 = .ok (.ldc 44, 2) := by decide +kernel
theorem dX7_cloud_84 : decode cX7_cloud 84 = .ok (.invokevirtual 53, 3) := by decide +kernel
theorem dX7_cloud_87 : decode cX7_cloud 87 = .ok (.ireturn, 1) := by decide +kernel
theorem dX7_cloud_88 : decode cX7_cloud 88 = .ok (.aload_n 0, 1) := by decide +kernel
theorem dX7_cloud_89 : decode cX7_cloud 89 = .ok (.getfield 7, 3) := by decide +kernel
theorem dX7_cloud_92 : decode cX7_cloud 92 = .ok (.iload_n 1, 1) := by decide +kernel
theorem dX7_cloud_93 : decode cX7_cloud 93 = .ok (.iaload, 1) := by decide +kernel
theorem dX7_cloud_94 : decode cX7_cloud 94 = .ok (.istore 4, 2) := by decide +kernel
theorem dX7_cloud_96 : decode cX7_cloud 96 = .ok (.aload_n 0, 1) := by decide +kernel
theorem dX7_cloud_97 : decode cX7_cloud 97 = .ok (.getfield 7, 3) := by decide +kernel
theorem dX7_cloud_100 : decode cX7_cloud 100 = .ok (.iload_n 1, 1) := by decide +kernel
theorem dX7_cloud_101 : decode cX7_cloud 101 = .ok (.iload_n 2, 1) := by decide +kernel
theorem dX7_cloud_102 : decode cX7_cloud 102 = .ok (.iastore, 1) := by decide +kernel
theorem dX7_cloud_103 : decode cX7_cloud 103 = .ok (.iload 4, 2) := by decide +kernel
theorem dX7_cloud_105 : decode cX7_cloud 105 = .ok (.ireturn, 1) := by decide +kernel
theorem dX7_cloudOf_0 : decode cX7_cloudOf 0 = .ok (.iload_n 1, 1) := by decide +kernel
theorem dX7_cloudOf_1 : decode cX7_cloudOf 1 = .ok (.iconst 0, 1) := by decide +kernel
theorem dX7_cloudOf_2 : decode cX7_cloudOf 2 = .ok (.iconst 4, 1) := by decide +kernel
theorem dX7_cloudOf_3 : decode cX7_cloudOf 3 = .ok (.invokestatic 45, 3) := by decide +kernel
theorem dX7_cloudOf_6 : decode cX7_cloudOf 6 = .ok (.ifCond .eq 12, 3) := by decide +kernel
theorem dX7_cloudOf_9 : decode cX7_cloudOf 9 = .ok (.aload_n 0, 1) := by decide +kernel
theorem dX7_cloudOf_10 : decode cX7_cloudOf 10 = .ok (.getfield 7, 3) := by decide +kernel
theorem dX7_cloudOf_13 : decode cX7_cloudOf 13 = .ok (.iload_n 1, 1) := by decide +kernel
theorem dX7_cloudOf_14 : decode cX7_cloudOf 14 = .ok (.iaload, 1) := by decide +kernel
theorem dX7_cloudOf_15 : decode cX7_cloudOf 15 = .ok (.goto 9, 3) := by decide +kernel
theorem dX7_cloudOf_18 : decode cX7_cloudOf 18 = .ok (.aload_n 0, 1) := by decide +kernel
theorem dX7_cloudOf_19 : decode cX7_cloudOf 19 = .ok (.ldc 44, 2) := by decide +kernel
theorem dX7_cloudOf_21 : decode cX7_cloudOf 21 = .ok (.invokevirtual 53, 3) := by decide +kernel
theorem dX7_cloudOf_24 : decode cX7_cloudOf 24 = .ok (.ireturn, 1) := by decide +kernel
theorem dX7_addRod_0 : decode cX7_addRod 0 = .ok (.aload_n 0, 1) := by decide +kernel
theorem dX7_addRod_1 : decode cX7_addRod 1 = .ok (.getfield 7, 3) := by decide +kernel
theorem dX7_addRod_4 : decode cX7_addRod 4 = .ok (.bipush 8, 2) := by decide +kernel
theorem dX7_addRod_6 : decode cX7_addRod 6 = .ok (.iaload, 1) := by decide +kernel
theorem dX7_addRod_7 : decode cX7_addRod 7 = .ok (.istore 6, 2) := by decide +kernel
theorem dX7_addRod_9 : decode cX7_addRod 9 = .ok (.aload_n 0, 1) := by decide +kernel
theorem dX7_addRod_10 : decode cX7_addRod 10 = .ok (.iload 6, 2) := by decide +kernel
theorem dX7_addRod_12 : decode cX7_addRod 12 = .ok (.iconst 0, 1) := by decide +kernel
theorem dX7_addRod_13 : decode cX7_addRod 13 = .ok (.iload_n 1, 1) := by decide +kernel
theorem dX7_addRod_14 : decode cX7_addRod 14 = .ok (.invokevirtual 57, 3) := by decide +kernel
theorem dX7_addRod_17 : decode cX7_addRod 17 = .ok (.aload_n 0, 1) := by decide +kernel
theorem dX7_addRod_18 : decode cX7_addRod 18 = .ok (.iload 6, 2) := by decide +kernel
theorem dX7_addRod_20 : decode cX7_addRod 20 = .ok (.iconst 1, 1) := by decide +kernel
theorem dX7_addRod_21 : decode cX7_addRod 21 = .ok (.iload_n 2, 1) := by decide +kernel
theorem dX7_addRod_22 : decode cX7_addRod 22 = .ok (.invokevirtual 57, 3) := by decide +kernel
theorem dX7_addRod_25 : decode cX7_addRod 25 = .ok (.aload_n 0, 1) := by decide +kernel
theorem dX7_addRod_26 : decode cX7_addRod 26 = .ok (.iload 6, 2) := by decide +kernel
theorem dX7_addRod_28 : decode cX7_addRod 28 = .ok (.iconst 2, 1) := by decide +kernel
theorem dX7_addRod_29 : decode cX7_addRod 29 = .ok (.iload_n 3, 1) := by decide +kernel
theorem dX7_addRod_30 : decode cX7_addRod 30 = .ok (.invokevirtual 57, 3) := by decide +kernel
theorem dX7_addRod_33 : decode cX7_addRod 33 = .ok (.aload_n 0, 1) := by decide +kernel
theorem dX7_addRod_34 : decode cX7_addRod 34 = .ok (.iload 6, 2) := by decide +kernel
theorem dX7_addRod_36 : decode cX7_addRod 36 = .ok (.iconst 3, 1) := by decide +kernel
theorem dX7_addRod_37 : decode cX7_addRod 37 = .ok (.iload 4, 2) := by decide +kernel
theorem dX7_addRod_39 : decode cX7_addRod 39 = .ok (.invokevirtual 57, 3) := by decide +kernel
theorem dX7_addRod_42 : decode cX7_addRod 42 = .ok (.aload_n 0, 1) := by decide +kernel
theorem dX7_addRod_43 : decode cX7_addRod 43 = .ok (.iload 6, 2) := by decide +kernel
theorem dX7_addRod_45 : decode cX7_addRod 45 = .ok (.iconst 4, 1) := by decide +kernel
theorem dX7_addRod_46 : decode cX7_addRod 46 = .ok (.iload 5, 2) := by decide +kernel
theorem dX7_addRod_48 : decode cX7_addRod 48 = .ok (.invokevirtual 57, 3) := by decide +kernel
theorem dX7_addRod_51 : decode cX7_addRod 51 = .ok (.aload_n 0, 1) := by decide +kernel
theorem dX7_addRod_52 : decode cX7_addRod 52 = .ok (.iload 6, 2) := by decide +kernel
theorem dX7_addRod_54 : decode cX7_addRod 54 = .ok (.iconst 5, 1) := by decide +kernel
theorem dX7_addRod_55 : decode cX7_addRod 55 = .ok (.iconst 0, 1) := by decide +kernel
theorem dX7_addRod_56 : decode cX7_addRod 56 = .ok (.invokevirtual 57, 3) := by decide +kernel
theorem dX7_addRod_59 : decode cX7_addRod 59 = .ok (.aload_n 0, 1) := by decide +kernel
theorem dX7_addRod_60 : decode cX7_addRod 60 = .ok (.iload 6, 2) := by decide +kernel
theorem dX7_addRod_62 : decode cX7_addRod 62 = .ok (.bipush 6, 2) := by decide +kernel
theorem dX7_addRod_64 : decode cX7_addRod 64 = .ok (.iconst 0, 1) := by decide +kernel
theorem dX7_addRod_65 : decode cX7_addRod 65 = .ok (.invokevirtual 57, 3) := by decide +kernel
theorem dX7_addRod_68 : decode cX7_addRod 68 = .ok (.aload_n 0, 1) := by decide +kernel
theorem dX7_addRod_69 : decode cX7_addRod 69 = .ok (.getfield 7, 3) := by decide +kernel
theorem dX7_addRod_72 : decode cX7_addRod 72 = .ok (.bipush 8, 2) := by decide +kernel
theorem dX7_addRod_74 : decode cX7_addRod 74 = .ok (.dup2, 1) := by decide +kernel
theorem dX7_addRod_75 : decode cX7_addRod 75 = .ok (.iaload, 1) := by decide +kernel
theorem dX7_addRod_76 : decode cX7_addRod 76 = .ok (.iconst 1, 1) := by decide +kernel
theorem dX7_addRod_77 : decode cX7_addRod 77 = .ok (.iadd, 1) := by decide +kernel
theorem dX7_addRod_78 : decode cX7_addRod 78 = .ok (.iastore, 1) := by decide +kernel
theorem dX7_addRod_79 : decode cX7_addRod 79 = .ok (.return_, 1) := by decide +kernel
theorem dX7_rod_0 : decode cX7_rod 0 = .ok (.iload_n 1, 1) := by decide +kernel
theorem dX7_rod_1 : decode cX7_rod 1 = .ok (.invokestatic 61, 3) := by decide +kernel
theorem dX7_rod_4 : decode cX7_rod 4 = .ok (.ifCond .eq 10, 3) := by decide +kernel
theorem dX7_rod_7 : decode cX7_rod 7 = .ok (.iload_n 2, 1) := by decide +kernel
theorem dX7_rod_8 : decode cX7_rod 8 = .ok (.invokestatic 49, 3) := by decide +kernel
theorem dX7_rod_11 : decode cX7_rod 11 = .ok (.ifCond .ne 10, 3) := by decide +kernel
theorem dX7_rod_14 : decode cX7_rod 14 = .ok (.aload_n 0, 1) := by decide +kernel
theorem dX7_rod_15 : decode cX7_rod 15 = .ok (.ldc 44, 2) := by decide +kernel
theorem dX7_rod_17 : decode cX7_rod 17 = .ok (.invokevirtual 53, 3) := by decide +kernel
theorem dX7_rod_20 : decode cX7_rod 20 = .ok (.ireturn, 1) := by decide +kernel
theorem dX7_rod_21 : decode cX7_rod 21 = .ok (.aload_n 0, 1) := by decide +kernel
theorem dX7_rod_22 : decode cX7_rod 22 = .ok (.getfield 7, 3) := by decide +kernel
theorem dX7_rod_25 : decode cX7_rod 25 = .ok (.bipush 8, 2) := by decide +kernel
theorem dX7_rod_27 : decode cX7_rod 27 = .ok (.iaload, 1) := by decide +kernel
theorem dX7_rod_28 : decode cX7_rod 28 = .ok (.bipush 8, 2) := by decide +kernel
theorem dX7_rod_30 : decode cX7_rod 30 = .ok (.if_icmp .ne 10, 3) := by decide +kernel
theorem dX7_rod_33 : decode cX7_rod 33 = .ok (.aload_n 0, 1) := by decide +kernel
theorem dX7_rod_34 : decode cX7_rod 34 = .ok (.ldc 64, 2) := by decide +kernel
theorem dX7_rod_36 : decode cX7_rod 36 = .ok (.invokevirtual 53, 3) := by decide +kernel
theorem dX7_rod_39 : decode cX7_rod 39 = .ok (.ireturn, 1) := by decide +kernel
theorem dX7_rod_40 : decode cX7_rod 40 = .ok (.aload_n 0, 1) := by decide +kernel
theorem dX7_rod_41 : decode cX7_rod 41 = .ok (.iload_n 1, 1) := by decide +kernel
theorem dX7_rod_42 : decode cX7_rod 42 = .ok (.iload_n 2, 1) := by decide +kernel
theorem dX7_rod_43 : decode cX7_rod 43 = .ok (.bipush 10, 2) := by decide +kernel
theorem dX7_rod_45 : decode cX7_rod 45 = .ok (.iconst 0, 1) := by decide +kernel
theorem dX7_rod_46 : decode cX7_rod 46 = .ok (.iconst 0, 1) := by decide +kernel
theorem dX7_rod_47 : decode cX7_rod 47 = .ok (.invokevirtual 65, 3) := by decide +kernel
theorem dX7_rod_50 : decode cX7_rod 50 = .ok (.aload_n 0, 1) := by decide +kernel
theorem dX7_rod_51 : decode cX7_rod 51 = .ok (.getfield 7, 3) := by decide +kernel
theorem dX7_rod_54 : decode cX7_rod 54 = .ok (.bipush 8, 2) := by decide +kernel
theorem dX7_rod_56 : decode cX7_rod 56 = .ok (.iaload, 1) := by decide +kernel
theorem dX7_rod_57 : decode cX7_rod 57 = .ok (.iconst 1, 1) := by decide +kernel
theorem dX7_rod_58 : decode cX7_rod 58 = .ok (.isub, 1) := by decide +kernel
theorem dX7_rod_59 : decode cX7_rod 59 = .ok (.ireturn, 1) := by decide +kernel
theorem dX7_draws_0 : decode cX7_draws 0 = .ok (.aload_n 0, 1) := by decide +kernel
theorem dX7_draws_1 : decode cX7_draws 1 = .ok (.iload_n 1, 1) := by decide +kernel
theorem dX7_draws_2 : decode cX7_draws 2 = .ok (.iconst 1, 1) := by decide +kernel
theorem dX7_draws_3 : decode cX7_draws 3 = .ok (.invokevirtual 69, 3) := by decide +kernel
theorem dX7_draws_6 : decode cX7_draws 6 = .ok (.iload_n 2, 1) := by decide +kernel
theorem dX7_draws_7 : decode cX7_draws 7 = .ok (.if_icmp .ge 14, 3) := by decide +kernel
theorem dX7_draws_10 : decode cX7_draws 10 = .ok (.iload_n 2, 1) := by decide +kernel
theorem dX7_draws_11 : decode cX7_draws 11 = .ok (.aload_n 0, 1) := by decide +kernel
theorem dX7_draws_12 : decode cX7_draws 12 = .ok (.iload_n 1, 1) := by decide +kernel
theorem dX7_draws_13 : decode cX7_draws 13 = .ok (.iconst 1, 1) := by decide +kernel
theorem dX7_draws_14 : decode cX7_draws 14 = .ok (.invokevirtual 69, 3) := by decide +kernel
theorem dX7_draws_17 : decode cX7_draws 17 = .ok (.isub, 1) := by decide +kernel
theorem dX7_draws_18 : decode cX7_draws 18 = .ok (.goto 11, 3) := by decide +kernel
theorem dX7_draws_21 : decode cX7_draws 21 = .ok (.aload_n 0, 1) := by decide +kernel
theorem dX7_draws_22 : decode cX7_draws 22 = .ok (.iload_n 1, 1) := by decide +kernel
theorem dX7_draws_23 : decode cX7_draws 23 = .ok (.iconst 1, 1) := by decide +kernel
theorem dX7_draws_24 : decode cX7_draws 24 = .ok (.invokevirtual 69, 3) := by decide +kernel
theorem dX7_draws_27 : decode cX7_draws 27 = .ok (.iload_n 2, 1) := by decide +kernel
theorem dX7_draws_28 : decode cX7_draws 28 = .ok (.isub, 1) := by decide +kernel
theorem dX7_draws_29 : decode cX7_draws 29 = .ok (.istore_n 3, 1) := by decide +kernel
theorem dX7_draws_30 : decode cX7_draws 30 = .ok (.aload_n 0, 1) := by decide +kernel
theorem dX7_draws_31 : decode cX7_draws 31 = .ok (.iload_n 1, 1) := by decide +kernel
theorem dX7_draws_32 : decode cX7_draws 32 = .ok (.iconst 2, 1) := by decide +kernel
theorem dX7_draws_33 : decode cX7_draws 33 = .ok (.invokevirtual 69, 3) := by decide +kernel
theorem dX7_draws_36 : decode cX7_draws 36 = .ok (.istore 4, 2) := by decide +kernel
theorem dX7_draws_38 : decode cX7_draws 38 = .ok (.iload 4, 2) := by decide +kernel
theorem dX7_draws_40 : decode cX7_draws 40 = .ok (.iconst 4, 1) := by decide +kernel
theorem dX7_draws_41 : decode cX7_draws 41 = .ok (.iload_n 3, 1) := by decide +kernel
theorem dX7_draws_42 : decode cX7_draws 42 = .ok (.imul, 1) := by decide +kernel
theorem dX7_draws_43 : decode cX7_draws 43 = .ok (.isub, 1) := by decide +kernel
theorem dX7_draws_44 : decode cX7_draws 44 = .ok (.iconst 0, 1) := by decide +kernel
theorem dX7_draws_45 : decode cX7_draws 45 = .ok (.bipush 60, 2) := by decide +kernel
theorem dX7_draws_47 : decode cX7_draws 47 = .ok (.invokestatic 73, 3) := by decide +kernel
theorem dX7_draws_50 : decode cX7_draws 50 = .ok (.istore 5, 2) := by decide +kernel
theorem dX7_draws_52 : decode cX7_draws 52 = .ok (.aload_n 0, 1) := by decide +kernel
theorem dX7_draws_53 : decode cX7_draws 53 = .ok (.iload_n 1, 1) := by decide +kernel
theorem dX7_draws_54 : decode cX7_draws 54 = .ok (.iconst 0, 1) := by decide +kernel
theorem dX7_draws_55 : decode cX7_draws 55 = .ok (.invokevirtual 69, 3) := by decide +kernel
theorem dX7_draws_58 : decode cX7_draws 58 = .ok (.tableswitch 90 1 5 #[34, 40, 46, 61, 67], 34) := by decide +kernel
theorem dX7_draws_92 : decode cX7_draws 92 = .ok (.iload 5, 2) := by decide +kernel
theorem dX7_draws_94 : decode cX7_draws 94 = .ok (.bipush 8, 2) := by decide +kernel
theorem dX7_draws_96 : decode cX7_draws 96 = .ok (.iadd, 1) := by decide +kernel
theorem dX7_draws_97 : decode cX7_draws 97 = .ok (.ireturn, 1) := by decide +kernel
theorem dX7_draws_98 : decode cX7_draws 98 = .ok (.iload 5, 2) := by decide +kernel
theorem dX7_draws_100 : decode cX7_draws 100 = .ok (.iload 4, 2) := by decide +kernel
theorem dX7_draws_102 : decode cX7_draws 102 = .ok (.iadd, 1) := by decide +kernel
theorem dX7_draws_103 : decode cX7_draws 103 = .ok (.ireturn, 1) := by decide +kernel
theorem dX7_draws_104 : decode cX7_draws 104 = .ok (.iload 5, 2) := by decide +kernel
theorem dX7_draws_106 : decode cX7_draws 106 = .ok (.iconst 3, 1) := by decide +kernel
theorem dX7_draws_107 : decode cX7_draws 107 = .ok (.if_icmp .ge 7, 3) := by decide +kernel
theorem dX7_draws_110 : decode cX7_draws 110 = .ok (.iconst 0, 1) := by decide +kernel
theorem dX7_draws_111 : decode cX7_draws 111 = .ok (.goto 7, 3) := by decide +kernel
theorem dX7_draws_114 : decode cX7_draws 114 = .ok (.iload 5, 2) := by decide +kernel
theorem dX7_draws_116 : decode cX7_draws 116 = .ok (.iconst 3, 1) := by decide +kernel
theorem dX7_draws_117 : decode cX7_draws 117 = .ok (.isub, 1) := by decide +kernel
theorem dX7_draws_118 : decode cX7_draws 118 = .ok (.ireturn, 1) := by decide +kernel
theorem dX7_draws_119 : decode cX7_draws 119 = .ok (.iload 5, 2) := by decide +kernel
theorem dX7_draws_121 : decode cX7_draws 121 = .ok (.bipush 28, 2) := by decide +kernel
theorem dX7_draws_123 : decode cX7_draws 123 = .ok (.iadd, 1) := by decide +kernel
theorem dX7_draws_124 : decode cX7_draws 124 = .ok (.ireturn, 1) := by decide +kernel
theorem dX7_draws_125 : decode cX7_draws 125 = .ok (.iload 5, 2) := by decide +kernel
theorem dX7_draws_127 : decode cX7_draws 127 = .ok (.iload 4, 2) := by decide +kernel
theorem dX7_draws_129 : decode cX7_draws 129 = .ok (.iadd, 1) := by decide +kernel
theorem dX7_draws_130 : decode cX7_draws 130 = .ok (.bipush 10, 2) := by decide +kernel
theorem dX7_draws_132 : decode cX7_draws 132 = .ok (.if_icmp .ge 7, 3) := by decide +kernel
theorem dX7_draws_135 : decode cX7_draws 135 = .ok (.iconst 0, 1) := by decide +kernel
theorem dX7_draws_136 : decode cX7_draws 136 = .ok (.goto 11, 3) := by decide +kernel
theorem dX7_draws_139 : decode cX7_draws 139 = .ok (.iload 5, 2) := by decide +kernel
theorem dX7_draws_141 : decode cX7_draws 141 = .ok (.iload 4, 2) := by decide +kernel
theorem dX7_draws_143 : decode cX7_draws 143 = .ok (.iadd, 1) := by decide +kernel
theorem dX7_draws_144 : decode cX7_draws 144 = .ok (.bipush 10, 2) := by decide +kernel
theorem dX7_draws_146 : decode cX7_draws 146 = .ok (.isub, 1) := by decide +kernel
theorem dX7_draws_147 : decode cX7_draws 147 = .ok (.ireturn, 1) := by decide +kernel
theorem dX7_draws_148 : decode cX7_draws 148 = .ok (.iload 5, 2) := by decide +kernel
theorem dX7_draws_150 : decode cX7_draws 150 = .ok (.ireturn, 1) := by decide +kernel
theorem dX7_clock_0 : decode cX7_clock 0 = .ok (.aload_n 0, 1) := by decide +kernel
theorem dX7_clock_1 : decode cX7_clock 1 = .ok (.getfield 7, 3) := by decide +kernel
theorem dX7_clock_4 : decode cX7_clock 4 = .ok (.iconst 5, 1) := by decide +kernel
theorem dX7_clock_5 : decode cX7_clock 5 = .ok (.iaload, 1) := by decide +kernel
theorem dX7_clock_6 : decode cX7_clock 6 = .ok (.bipush 24, 2) := by decide +kernel
theorem dX7_clock_8 : decode cX7_clock 8 = .ok (.irem, 1) := by decide +kernel
theorem dX7_clock_9 : decode cX7_clock 9 = .ok (.ireturn, 1) := by decide +kernel
theorem dX7_paidMany_0 : decode cX7_paidMany 0 = .ok (.aload_n 0, 1) := by decide +kernel
theorem dX7_paidMany_1 : decode cX7_paidMany 1 = .ok (.iload_n 1, 1) := by decide +kernel
theorem dX7_paidMany_2 : decode cX7_paidMany 2 = .ok (.iconst 4, 1) := by decide +kernel
theorem dX7_paidMany_3 : decode cX7_paidMany 3 = .ok (.invokevirtual 69, 3) := by decide +kernel
theorem dX7_paidMany_6 : decode cX7_paidMany 6 = .ok (.aload_n 0, 1) := by decide +kernel
theorem dX7_paidMany_7 : decode cX7_paidMany 7 = .ok (.iload_n 1, 1) := by decide +kernel
theorem dX7_paidMany_8 : decode cX7_paidMany 8 = .ok (.iconst 3, 1) := by decide +kernel
theorem dX7_paidMany_9 : decode cX7_paidMany 9 = .ok (.invokevirtual 69, 3) := by decide +kernel
theorem dX7_paidMany_12 : decode cX7_paidMany 12 = .ok (.isub, 1) := by decide +kernel
theorem dX7_paidMany_13 : decode cX7_paidMany 13 = .ok (.bipush 24, 2) := by decide +kernel
theorem dX7_paidMany_15 : decode cX7_paidMany 15 = .ok (.iadd, 1) := by decide +kernel
theorem dX7_paidMany_16 : decode cX7_paidMany 16 = .ok (.bipush 24, 2) := by decide +kernel
theorem dX7_paidMany_18 : decode cX7_paidMany 18 = .ok (.irem, 1) := by decide +kernel
theorem dX7_paidMany_19 : decode cX7_paidMany 19 = .ok (.ireturn, 1) := by decide +kernel
theorem dX7_isPaid_0 : decode cX7_isPaid 0 = .ok (.aload_n 0, 1) := by decide +kernel
theorem dX7_isPaid_1 : decode cX7_isPaid 1 = .ok (.invokevirtual 77, 3) := by decide +kernel
theorem dX7_isPaid_4 : decode cX7_isPaid 4 = .ok (.aload_n 0, 1) := by decide +kernel
theorem dX7_isPaid_5 : decode cX7_isPaid 5 = .ok (.iload_n 1, 1) := by decide +kernel
theorem dX7_isPaid_6 : decode cX7_isPaid 6 = .ok (.iconst 3, 1) := by decide +kernel
theorem dX7_isPaid_7 : decode cX7_isPaid 7 = .ok (.invokevirtual 69, 3) := by decide +kernel
theorem dX7_isPaid_10 : decode cX7_isPaid 10 = .ok (.isub, 1) := by decide +kernel
theorem dX7_isPaid_11 : decode cX7_isPaid 11 = .ok (.bipush 24, 2) := by decide +kernel
theorem dX7_isPaid_13 : decode cX7_isPaid 13 = .ok (.iadd, 1) := by decide +kernel
theorem dX7_isPaid_14 : decode cX7_isPaid 14 = .ok (.bipush 24, 2) := by decide +kernel
theorem dX7_isPaid_16 : decode cX7_isPaid 16 = .ok (.irem, 1) := by decide +kernel
theorem dX7_isPaid_17 : decode cX7_isPaid 17 = .ok (.aload_n 0, 1) := by decide +kernel
theorem dX7_isPaid_18 : decode cX7_isPaid 18 = .ok (.iload_n 1, 1) := by decide +kernel
theorem dX7_isPaid_19 : decode cX7_isPaid 19 = .ok (.invokevirtual 81, 3) := by decide +kernel
theorem dX7_isPaid_22 : decode cX7_isPaid 22 = .ok (.if_icmp .ge 7, 3) := by decide +kernel
theorem dX7_isPaid_25 : decode cX7_isPaid 25 = .ok (.iconst 1, 1) := by decide +kernel
theorem dX7_isPaid_26 : decode cX7_isPaid 26 = .ok (.goto 4, 3) := by decide +kernel
theorem dX7_isPaid_29 : decode cX7_isPaid 29 = .ok (.iconst 0, 1) := by decide +kernel
theorem dX7_isPaid_30 : decode cX7_isPaid 30 = .ok (.ireturn, 1) := by decide +kernel
theorem dX7_owes_0 : decode cX7_owes 0 = .ok (.aload_n 0, 1) := by decide +kernel
theorem dX7_owes_1 : decode cX7_owes 1 = .ok (.iload_n 1, 1) := by decide +kernel
theorem dX7_owes_2 : decode cX7_owes 2 = .ok (.invokevirtual 84, 3) := by decide +kernel
theorem dX7_owes_5 : decode cX7_owes 5 = .ok (.ifCond .eq 7, 3) := by decide +kernel
theorem dX7_owes_8 : decode cX7_owes 8 = .ok (.iload_n 2, 1) := by decide +kernel
theorem dX7_owes_9 : decode cX7_owes 9 = .ok (.goto 4, 3) := by decide +kernel
theorem dX7_owes_12 : decode cX7_owes 12 = .ok (.iconst 0, 1) := by decide +kernel
theorem dX7_owes_13 : decode cX7_owes 13 = .ok (.istore_n 3, 1) := by decide +kernel
theorem dX7_owes_14 : decode cX7_owes 14 = .ok (.aload_n 0, 1) := by decide +kernel
theorem dX7_owes_15 : decode cX7_owes 15 = .ok (.iload_n 1, 1) := by decide +kernel
theorem dX7_owes_16 : decode cX7_owes 16 = .ok (.iconst 0, 1) := by decide +kernel
theorem dX7_owes_17 : decode cX7_owes 17 = .ok (.invokevirtual 69, 3) := by decide +kernel
theorem dX7_owes_20 : decode cX7_owes 20 = .ok (.tableswitch 54 1 5 #[36, 54, 52, 43, 52], 36) := by decide +kernel
theorem dX7_owes_56 : decode cX7_owes 56 = .ok (.iload_n 3, 1) := by decide +kernel
theorem dX7_owes_57 : decode cX7_owes 57 = .ok (.iload_n 3, 1) := by decide +kernel
theorem dX7_owes_58 : decode cX7_owes 58 = .ok (.bipush 10, 2) := by decide +kernel
theorem dX7_owes_60 : decode cX7_owes 60 = .ok (.idiv, 1) := by decide +kernel
theorem dX7_owes_61 : decode cX7_owes 61 = .ok (.isub, 1) := by decide +kernel
theorem dX7_owes_62 : decode cX7_owes 62 = .ok (.ireturn, 1) := by decide +kernel
theorem dX7_owes_63 : decode cX7_owes 63 = .ok (.iload_n 3, 1) := by decide +kernel
theorem dX7_owes_64 : decode cX7_owes 64 = .ok (.iload_n 3, 1) := by decide +kernel
theorem dX7_owes_65 : decode cX7_owes 65 = .ok (.bipush 10, 2) := by decide +kernel
theorem dX7_owes_67 : decode cX7_owes 67 = .ok (.idiv, 1) := by decide +kernel
theorem dX7_owes_68 : decode cX7_owes 68 = .ok (.isub, 1) := by decide +kernel
theorem dX7_owes_69 : decode cX7_owes 69 = .ok (.iconst 2, 1) := by decide +kernel
theorem dX7_owes_70 : decode cX7_owes 70 = .ok (.idiv, 1) := by decide +kernel
theorem dX7_owes_71 : decode cX7_owes 71 = .ok (.ireturn, 1) := by decide +kernel
theorem dX7_owes_72 : decode cX7_owes 72 = .ok (.iconst 0, 1) := by decide +kernel
theorem dX7_owes_73 : decode cX7_owes 73 = .ok (.ireturn, 1) := by decide +kernel
theorem dX7_owes_74 : decode cX7_owes 74 = .ok (.iload_n 3, 1) := by decide +kernel
theorem dX7_owes_75 : decode cX7_owes 75 = .ok (.ireturn, 1) := by decide +kernel
theorem dX7_of_0 : decode cX7_of 0 = .ok (.aload_n 0, 1) := by decide +kernel
theorem dX7_of_1 : decode cX7_of 1 = .ok (.iload_n 1, 1) := by decide +kernel
theorem dX7_of_2 : decode cX7_of 2 = .ok (.invokevirtual 87, 3) := by decide +kernel
theorem dX7_of_5 : decode cX7_of 5 = .ok (.ifCond .eq 13, 3) := by decide +kernel
theorem dX7_of_8 : decode cX7_of 8 = .ok (.iload_n 2, 1) := by decide +kernel
theorem dX7_of_9 : decode cX7_of 9 = .ok (.iconst 0, 1) := by decide +kernel
theorem dX7_of_10 : decode cX7_of 10 = .ok (.bipush 9, 2) := by decide +kernel
theorem dX7_of_12 : decode cX7_of 12 = .ok (.invokestatic 45, 3) := by decide +kernel
theorem dX7_of_15 : decode cX7_of 15 = .ok (.ifCond .ne 10, 3) := by decide +kernel
theorem dX7_of_18 : decode cX7_of 18 = .ok (.aload_n 0, 1) := by decide +kernel
theorem dX7_of_19 : decode cX7_of 19 = .ok (.ldc 44, 2) := by decide +kernel
theorem dX7_of_21 : decode cX7_of 21 = .ok (.invokevirtual 53, 3) := by decide +kernel
theorem dX7_of_24 : decode cX7_of 24 = .ok (.ireturn, 1) := by decide +kernel
theorem dX7_of_25 : decode cX7_of 25 = .ok (.iload_n 2, 1) := by decide +kernel
theorem dX7_of_26 : decode cX7_of 26 = .ok (.tableswitch 64 7 9 #[26, 38, 50], 26) := by decide +kernel
theorem dX7_of_52 : decode cX7_of 52 = .ok (.aload_n 0, 1) := by decide +kernel
theorem dX7_of_53 : decode cX7_of 53 = .ok (.iload_n 1, 1) := by decide +kernel
theorem dX7_of_54 : decode cX7_of 54 = .ok (.aload_n 0, 1) := by decide +kernel
theorem dX7_of_55 : decode cX7_of 55 = .ok (.getfield 7, 3) := by decide +kernel
theorem dX7_of_58 : decode cX7_of 58 = .ok (.iconst 0, 1) := by decide +kernel
theorem dX7_of_59 : decode cX7_of 59 = .ok (.iaload, 1) := by decide +kernel
theorem dX7_of_60 : decode cX7_of 60 = .ok (.invokevirtual 90, 3) := by decide +kernel
theorem dX7_of_63 : decode cX7_of 63 = .ok (.ireturn, 1) := by decide +kernel
theorem dX7_of_64 : decode cX7_of 64 = .ok (.aload_n 0, 1) := by decide +kernel
theorem dX7_of_65 : decode cX7_of 65 = .ok (.iload_n 1, 1) := by decide +kernel
theorem dX7_of_66 : decode cX7_of 66 = .ok (.aload_n 0, 1) := by decide +kernel
theorem dX7_of_67 : decode cX7_of 67 = .ok (.getfield 7, 3) := by decide +kernel
theorem dX7_of_70 : decode cX7_of 70 = .ok (.iconst 1, 1) := by decide +kernel
theorem dX7_of_71 : decode cX7_of 71 = .ok (.iaload, 1) := by decide +kernel
theorem dX7_of_72 : decode cX7_of 72 = .ok (.invokevirtual 93, 3) := by decide +kernel
theorem dX7_of_75 : decode cX7_of 75 = .ok (.ireturn, 1) := by decide +kernel
theorem dX7_of_76 : decode cX7_of 76 = .ok (.aload_n 0, 1) := by decide +kernel
theorem dX7_of_77 : decode cX7_of 77 = .ok (.iload_n 1, 1) := by decide +kernel
theorem dX7_of_78 : decode cX7_of 78 = .ok (.invokevirtual 84, 3) := by decide +kernel
theorem dX7_of_81 : decode cX7_of 81 = .ok (.ifCond .eq 7, 3) := by decide +kernel
theorem dX7_of_84 : decode cX7_of 84 = .ok (.iconst 1, 1) := by decide +kernel
theorem dX7_of_85 : decode cX7_of 85 = .ok (.goto 4, 3) := by decide +kernel
theorem dX7_of_88 : decode cX7_of 88 = .ok (.iconst 0, 1) := by decide +kernel
theorem dX7_of_89 : decode cX7_of 89 = .ok (.ireturn, 1) := by decide +kernel
theorem dX7_of_90 : decode cX7_of 90 = .ok (.aload_n 0, 1) := by decide +kernel
theorem dX7_of_91 : decode cX7_of 91 = .ok (.iload_n 1, 1) := by decide +kernel
theorem dX7_of_92 : decode cX7_of 92 = .ok (.iload_n 2, 1) := by decide +kernel
theorem dX7_of_93 : decode cX7_of 93 = .ok (.invokevirtual 69, 3) := by decide +kernel
theorem dX7_of_96 : decode cX7_of 96 = .ok (.ireturn, 1) := by decide +kernel
theorem dX7_set_0 : decode cX7_set 0 = .ok (.iload_n 2, 1) := by decide +kernel
theorem dX7_set_1 : decode cX7_set 1 = .ok (.iconst 1, 1) := by decide +kernel
theorem dX7_set_2 : decode cX7_set 2 = .ok (.if_icmp .ne 10, 3) := by decide +kernel
theorem dX7_set_5 : decode cX7_set 5 = .ok (.iload_n 3, 1) := by decide +kernel
theorem dX7_set_6 : decode cX7_set 6 = .ok (.invokestatic 49, 3) := by decide +kernel
theorem dX7_set_9 : decode cX7_set 9 = .ok (.goto 23, 3) := by decide +kernel
theorem dX7_set_12 : decode cX7_set 12 = .ok (.iload_n 2, 1) := by decide +kernel
theorem dX7_set_13 : decode cX7_set 13 = .ok (.iconst 2, 1) := by decide +kernel
theorem dX7_set_14 : decode cX7_set 14 = .ok (.if_icmp .ne 17, 3) := by decide +kernel
theorem dX7_set_17 : decode cX7_set 17 = .ok (.iload_n 3, 1) := by decide +kernel
theorem dX7_set_18 : decode cX7_set 18 = .ok (.iconst 0, 1) := by decide +kernel
theorem dX7_set_19 : decode cX7_set 19 = .ok (.bipush 60, 2) := by decide +kernel
theorem dX7_set_21 : decode cX7_set 21 = .ok (.invokestatic 45, 3) := by decide +kernel
theorem dX7_set_24 : decode cX7_set 24 = .ok (.ifCond .eq 7, 3) := by decide +kernel
theorem dX7_set_27 : decode cX7_set 27 = .ok (.iconst 1, 1) := by decide +kernel
theorem dX7_set_28 : decode cX7_set 28 = .ok (.goto 4, 3) := by decide +kernel
theorem dX7_set_31 : decode cX7_set 31 = .ok (.iconst 0, 1) := by decide +kernel
theorem dX7_set_32 : decode cX7_set 32 = .ok (.istore 4, 2) := by decide +kernel
theorem dX7_set_34 : decode cX7_set 34 = .ok (.aload_n 0, 1) := by decide +kernel
theorem dX7_set_35 : decode cX7_set 35 = .ok (.iload_n 1, 1) := by decide +kernel
theorem dX7_set_36 : decode cX7_set 36 = .ok (.invokevirtual 87, 3) := by decide +kernel
theorem dX7_set_39 : decode cX7_set 39 = .ok (.ifCond .eq 8, 3) := by decide +kernel
theorem dX7_set_42 : decode cX7_set 42 = .ok (.iload 4, 2) := by decide +kernel
theorem dX7_set_44 : decode cX7_set 44 = .ok (.ifCond .ne 10, 3) := by decide +kernel
theorem dX7_set_47 : decode cX7_set 47 = .ok (.aload_n 0, 1) := by decide +kernel
theorem dX7_set_48 : decode cX7_set 48 = .ok (.ldc 44, 2) := by decide +kernel
theorem dX7_set_50 : decode cX7_set 50 = .ok (.invokevirtual 53, 3) := by decide +kernel
theorem dX7_set_53 : decode cX7_set 53 = .ok (.ireturn, 1) := by decide +kernel
theorem dX7_set_54 : decode cX7_set 54 = .ok (.aload_n 0, 1) := by decide +kernel
theorem dX7_set_55 : decode cX7_set 55 = .ok (.iload_n 1, 1) := by decide +kernel
theorem dX7_set_56 : decode cX7_set 56 = .ok (.iload_n 2, 1) := by decide +kernel
theorem dX7_set_57 : decode cX7_set 57 = .ok (.invokevirtual 69, 3) := by decide +kernel
theorem dX7_set_60 : decode cX7_set 60 = .ok (.istore 5, 2) := by decide +kernel
theorem dX7_set_62 : decode cX7_set 62 = .ok (.aload_n 0, 1) := by decide +kernel
theorem dX7_set_63 : decode cX7_set 63 = .ok (.iload_n 1, 1) := by decide +kernel
theorem dX7_set_64 : decode cX7_set 64 = .ok (.iload_n 2, 1) := by decide +kernel
theorem dX7_set_65 : decode cX7_set 65 = .ok (.iload_n 3, 1) := by decide +kernel
theorem dX7_set_66 : decode cX7_set 66 = .ok (.invokevirtual 57, 3) := by decide +kernel
theorem dX7_set_69 : decode cX7_set 69 = .ok (.iload 5, 2) := by decide +kernel
theorem dX7_set_71 : decode cX7_set 71 = .ok (.ireturn, 1) := by decide +kernel
theorem dX7_pays_0 : decode cX7_pays 0 = .ok (.aload_n 0, 1) := by decide +kernel
theorem dX7_pays_1 : decode cX7_pays 1 = .ok (.iload_n 1, 1) := by decide +kernel
theorem dX7_pays_2 : decode cX7_pays 2 = .ok (.invokevirtual 87, 3) := by decide +kernel
theorem dX7_pays_5 : decode cX7_pays 5 = .ok (.ifCond .eq 23, 3) := by decide +kernel
theorem dX7_pays_8 : decode cX7_pays 8 = .ok (.iload_n 2, 1) := by decide +kernel
theorem dX7_pays_9 : decode cX7_pays 9 = .ok (.iconst 0, 1) := by decide +kernel
theorem dX7_pays_10 : decode cX7_pays 10 = .ok (.bipush 23, 2) := by decide +kernel
theorem dX7_pays_12 : decode cX7_pays 12 = .ok (.invokestatic 45, 3) := by decide +kernel
theorem dX7_pays_15 : decode cX7_pays 15 = .ok (.ifCond .eq 13, 3) := by decide +kernel
theorem dX7_pays_18 : decode cX7_pays 18 = .ok (.iload_n 3, 1) := by decide +kernel
theorem dX7_pays_19 : decode cX7_pays 19 = .ok (.iconst 0, 1) := by decide +kernel
theorem dX7_pays_20 : decode cX7_pays 20 = .ok (.bipush 23, 2) := by decide +kernel
theorem dX7_pays_22 : decode cX7_pays 22 = .ok (.invokestatic 45, 3) := by decide +kernel
theorem dX7_pays_25 : decode cX7_pays 25 = .ok (.ifCond .ne 10, 3) := by decide +kernel
theorem dX7_pays_28 : decode cX7_pays 28 = .ok (.aload_n 0, 1) := by decide +kernel
theorem dX7_pays_29 : decode cX7_pays 29 = .ok (.ldc 44, 2) := by decide +kernel
theorem dX7_pays_31 : decode cX7_pays 31 = .ok (.invokevirtual 53, 3) := by decide +kernel
theorem dX7_pays_34 : decode cX7_pays 34 = .ok (.ireturn, 1) := by decide +kernel
theorem dX7_pays_35 : decode cX7_pays 35 = .ok (.aload_n 0, 1) := by decide +kernel
theorem dX7_pays_36 : decode cX7_pays 36 = .ok (.iload_n 1, 1) := by decide +kernel
theorem dX7_pays_37 : decode cX7_pays 37 = .ok (.iconst 3, 1) := by decide +kernel
theorem dX7_pays_38 : decode cX7_pays 38 = .ok (.iload_n 2, 1) := by decide +kernel
theorem dX7_pays_39 : decode cX7_pays 39 = .ok (.invokevirtual 57, 3) := by decide +kernel
theorem dX7_pays_42 : decode cX7_pays 42 = .ok (.aload_n 0, 1) := by decide +kernel
theorem dX7_pays_43 : decode cX7_pays 43 = .ok (.iload_n 1, 1) := by decide +kernel
theorem dX7_pays_44 : decode cX7_pays 44 = .ok (.iconst 4, 1) := by decide +kernel
theorem dX7_pays_45 : decode cX7_pays 45 = .ok (.iload_n 3, 1) := by decide +kernel
theorem dX7_pays_46 : decode cX7_pays 46 = .ok (.invokevirtual 57, 3) := by decide +kernel
theorem dX7_pays_49 : decode cX7_pays 49 = .ok (.aload_n 0, 1) := by decide +kernel
theorem dX7_pays_50 : decode cX7_pays 50 = .ok (.iload_n 1, 1) := by decide +kernel
theorem dX7_pays_51 : decode cX7_pays 51 = .ok (.invokevirtual 81, 3) := by decide +kernel
theorem dX7_pays_54 : decode cX7_pays 54 = .ok (.ireturn, 1) := by decide +kernel
theorem dX7_turn_0 : decode cX7_turn 0 = .ok (.aload_n 0, 1) := by decide +kernel
theorem dX7_turn_1 : decode cX7_turn 1 = .ok (.iload_n 1, 1) := by decide +kernel
theorem dX7_turn_2 : decode cX7_turn 2 = .ok (.invokevirtual 87, 3) := by decide +kernel
theorem dX7_turn_5 : decode cX7_turn 5 = .ok (.ifCond .eq 10, 3) := by decide +kernel
theorem dX7_turn_8 : decode cX7_turn 8 = .ok (.iload_n 2, 1) := by decide +kernel
theorem dX7_turn_9 : decode cX7_turn 9 = .ok (.invokestatic 61, 3) := by decide +kernel
theorem dX7_turn_12 : decode cX7_turn 12 = .ok (.ifCond .ne 10, 3) := by decide +kernel
theorem dX7_turn_15 : decode cX7_turn 15 = .ok (.aload_n 0, 1) := by decide +kernel
theorem dX7_turn_16 : decode cX7_turn 16 = .ok (.ldc 44, 2) := by decide +kernel
theorem dX7_turn_18 : decode cX7_turn 18 = .ok (.invokevirtual 53, 3) := by decide +kernel
theorem dX7_turn_21 : decode cX7_turn 21 = .ok (.ireturn, 1) := by decide +kernel
theorem dX7_turn_22 : decode cX7_turn 22 = .ok (.aload_n 0, 1) := by decide +kernel
theorem dX7_turn_23 : decode cX7_turn 23 = .ok (.iload_n 1, 1) := by decide +kernel
theorem dX7_turn_24 : decode cX7_turn 24 = .ok (.iconst 0, 1) := by decide +kernel
theorem dX7_turn_25 : decode cX7_turn 25 = .ok (.invokevirtual 69, 3) := by decide +kernel
theorem dX7_turn_28 : decode cX7_turn 28 = .ok (.istore_n 3, 1) := by decide +kernel
theorem dX7_turn_29 : decode cX7_turn 29 = .ok (.aload_n 0, 1) := by decide +kernel
theorem dX7_turn_30 : decode cX7_turn 30 = .ok (.iload_n 1, 1) := by decide +kernel
theorem dX7_turn_31 : decode cX7_turn 31 = .ok (.iconst 0, 1) := by decide +kernel
theorem dX7_turn_32 : decode cX7_turn 32 = .ok (.iload_n 2, 1) := by decide +kernel
theorem dX7_turn_33 : decode cX7_turn 33 = .ok (.invokevirtual 57, 3) := by decide +kernel
theorem dX7_turn_36 : decode cX7_turn 36 = .ok (.iload_n 3, 1) := by decide +kernel
theorem dX7_turn_37 : decode cX7_turn 37 = .ok (.ireturn, 1) := by decide +kernel
theorem dX7_as_0 : decode cX7_as 0 = .ok (.aload_n 0, 1) := by decide +kernel
theorem dX7_as_1 : decode cX7_as 1 = .ok (.iload_n 1, 1) := by decide +kernel
theorem dX7_as_2 : decode cX7_as 2 = .ok (.invokevirtual 87, 3) := by decide +kernel
theorem dX7_as_5 : decode cX7_as 5 = .ok (.ifCond .eq 10, 3) := by decide +kernel
theorem dX7_as_8 : decode cX7_as 8 = .ok (.iload_n 2, 1) := by decide +kernel
theorem dX7_as_9 : decode cX7_as 9 = .ok (.invokestatic 61, 3) := by decide +kernel
theorem dX7_as_12 : decode cX7_as 12 = .ok (.ifCond .ne 10, 3) := by decide +kernel
theorem dX7_as_15 : decode cX7_as 15 = .ok (.aload_n 0, 1) := by decide +kernel
theorem dX7_as_16 : decode cX7_as 16 = .ok (.ldc 44, 2) := by decide +kernel
theorem dX7_as_18 : decode cX7_as 18 = .ok (.invokevirtual 53, 3) := by decide +kernel
theorem dX7_as_21 : decode cX7_as 21 = .ok (.ireturn, 1) := by decide +kernel
theorem dX7_as_22 : decode cX7_as 22 = .ok (.aload_n 0, 1) := by decide +kernel
theorem dX7_as_23 : decode cX7_as 23 = .ok (.iload_n 1, 1) := by decide +kernel
theorem dX7_as_24 : decode cX7_as 24 = .ok (.iconst 0, 1) := by decide +kernel
theorem dX7_as_25 : decode cX7_as 25 = .ok (.invokevirtual 69, 3) := by decide +kernel
theorem dX7_as_28 : decode cX7_as 28 = .ok (.istore_n 3, 1) := by decide +kernel
theorem dX7_as_29 : decode cX7_as 29 = .ok (.iload_n 2, 1) := by decide +kernel
theorem dX7_as_30 : decode cX7_as 30 = .ok (.ifCond .eq 28, 3) := by decide +kernel
theorem dX7_as_33 : decode cX7_as 33 = .ok (.iload_n 2, 1) := by decide +kernel
theorem dX7_as_34 : decode cX7_as 34 = .ok (.iload_n 3, 1) := by decide +kernel
theorem dX7_as_35 : decode cX7_as 35 = .ok (.if_icmp .eq 23, 3) := by decide +kernel
theorem dX7_as_38 : decode cX7_as 38 = .ok (.iload_n 2, 1) := by decide +kernel
theorem dX7_as_39 : decode cX7_as 39 = .ok (.iconst 1, 1) := by decide +kernel
theorem dX7_as_40 : decode cX7_as 40 = .ok (.if_icmp .ne 8, 3) := by decide +kernel
theorem dX7_as_43 : decode cX7_as 43 = .ok (.iload_n 3, 1) := by decide +kernel
theorem dX7_as_44 : decode cX7_as 44 = .ok (.iconst 4, 1) := by decide +kernel
theorem dX7_as_45 : decode cX7_as 45 = .ok (.if_icmp .eq 13, 3) := by decide +kernel
theorem dX7_as_48 : decode cX7_as 48 = .ok (.iload_n 2, 1) := by decide +kernel
theorem dX7_as_49 : decode cX7_as 49 = .ok (.iconst 2, 1) := by decide +kernel
theorem dX7_as_50 : decode cX7_as 50 = .ok (.if_icmp .ne 12, 3) := by decide +kernel
theorem dX7_as_53 : decode cX7_as 53 = .ok (.iload_n 3, 1) := by decide +kernel
theorem dX7_as_54 : decode cX7_as 54 = .ok (.iconst 5, 1) := by decide +kernel
theorem dX7_as_55 : decode cX7_as 55 = .ok (.if_icmp .ne 7, 3) := by decide +kernel
theorem dX7_as_58 : decode cX7_as 58 = .ok (.iconst 1, 1) := by decide +kernel
theorem dX7_as_59 : decode cX7_as 59 = .ok (.goto 4, 3) := by decide +kernel
theorem dX7_as_62 : decode cX7_as 62 = .ok (.iconst 0, 1) := by decide +kernel
theorem dX7_as_63 : decode cX7_as 63 = .ok (.istore 4, 2) := by decide +kernel
theorem dX7_as_65 : decode cX7_as 65 = .ok (.iload 4, 2) := by decide +kernel
theorem dX7_as_67 : decode cX7_as 67 = .ok (.ifCond .eq 12, 3) := by decide +kernel
theorem dX7_as_70 : decode cX7_as 70 = .ok (.aload_n 0, 1) := by decide +kernel
theorem dX7_as_71 : decode cX7_as 71 = .ok (.iload_n 1, 1) := by decide +kernel
theorem dX7_as_72 : decode cX7_as 72 = .ok (.iconst 2, 1) := by decide +kernel
theorem dX7_as_73 : decode cX7_as 73 = .ok (.invokevirtual 69, 3) := by decide +kernel
theorem dX7_as_76 : decode cX7_as 76 = .ok (.goto 9, 3) := by decide +kernel
theorem dX7_as_79 : decode cX7_as 79 = .ok (.aload_n 0, 1) := by decide +kernel
theorem dX7_as_80 : decode cX7_as 80 = .ok (.ldc 96, 2) := by decide +kernel
theorem dX7_as_82 : decode cX7_as 82 = .ok (.invokevirtual 53, 3) := by decide +kernel
theorem dX7_as_85 : decode cX7_as 85 = .ok (.ireturn, 1) := by decide +kernel
theorem dX7_comesDown_0 : decode cX7_comesDown 0 = .ok (.bipush 9, 2) := by decide +kernel
theorem dX7_comesDown_2 : decode cX7_comesDown 2 = .ok (.bipush 7, 2) := by decide +kernel
theorem dX7_comesDown_4 : decode cX7_comesDown 4 = .ok (.iload_n 1, 1) := by decide +kernel
theorem dX7_comesDown_5 : decode cX7_comesDown 5 = .ok (.imul, 1) := by decide +kernel
theorem dX7_comesDown_6 : decode cX7_comesDown 6 = .ok (.iadd, 1) := by decide +kernel
theorem dX7_comesDown_7 : decode cX7_comesDown 7 = .ok (.istore_n 2, 1) := by decide +kernel
theorem dX7_comesDown_8 : decode cX7_comesDown 8 = .ok (.iload_n 2, 1) := by decide +kernel
theorem dX7_comesDown_9 : decode cX7_comesDown 9 = .ok (.bipush 9, 2) := by decide +kernel
theorem dX7_comesDown_11 : decode cX7_comesDown 11 = .ok (.bipush 7, 2) := by decide +kernel
theorem dX7_comesDown_13 : decode cX7_comesDown 13 = .ok (.aload_n 0, 1) := by decide +kernel
theorem dX7_comesDown_14 : decode cX7_comesDown 14 = .ok (.getfield 7, 3) := by decide +kernel
theorem dX7_comesDown_17 : decode cX7_comesDown 17 = .ok (.bipush 8, 2) := by decide +kernel
theorem dX7_comesDown_19 : decode cX7_comesDown 19 = .ok (.iaload, 1) := by decide +kernel
theorem dX7_comesDown_20 : decode cX7_comesDown 20 = .ok (.iconst 1, 1) := by decide +kernel
theorem dX7_comesDown_21 : decode cX7_comesDown 21 = .ok (.isub, 1) := by decide +kernel
theorem dX7_comesDown_22 : decode cX7_comesDown 22 = .ok (.imul, 1) := by decide +kernel
theorem dX7_comesDown_23 : decode cX7_comesDown 23 = .ok (.iadd, 1) := by decide +kernel
theorem dX7_comesDown_24 : decode cX7_comesDown 24 = .ok (.if_icmp .ge 24, 3) := by decide +kernel
theorem dX7_comesDown_27 : decode cX7_comesDown 27 = .ok (.aload_n 0, 1) := by decide +kernel
theorem dX7_comesDown_28 : decode cX7_comesDown 28 = .ok (.getfield 7, 3) := by decide +kernel
theorem dX7_comesDown_31 : decode cX7_comesDown 31 = .ok (.iload_n 2, 1) := by decide +kernel
theorem dX7_comesDown_32 : decode cX7_comesDown 32 = .ok (.aload_n 0, 1) := by decide +kernel
theorem dX7_comesDown_33 : decode cX7_comesDown 33 = .ok (.getfield 7, 3) := by decide +kernel
theorem dX7_comesDown_36 : decode cX7_comesDown 36 = .ok (.iload_n 2, 1) := by decide +kernel
theorem dX7_comesDown_37 : decode cX7_comesDown 37 = .ok (.bipush 7, 2) := by decide +kernel
theorem dX7_comesDown_39 : decode cX7_comesDown 39 = .ok (.iadd, 1) := by decide +kernel
theorem dX7_comesDown_40 : decode cX7_comesDown 40 = .ok (.iaload, 1) := by decide +kernel
theorem dX7_comesDown_41 : decode cX7_comesDown 41 = .ok (.iastore, 1) := by decide +kernel
theorem dX7_comesDown_42 : decode cX7_comesDown 42 = .ok (.iinc 2 1, 3) := by decide +kernel
theorem dX7_comesDown_45 : decode cX7_comesDown 45 = .ok (.goto (-37), 3) := by decide +kernel
theorem dX7_comesDown_48 : decode cX7_comesDown 48 = .ok (.aload_n 0, 1) := by decide +kernel
theorem dX7_comesDown_49 : decode cX7_comesDown 49 = .ok (.getfield 7, 3) := by decide +kernel
theorem dX7_comesDown_52 : decode cX7_comesDown 52 = .ok (.bipush 8, 2) := by decide +kernel
theorem dX7_comesDown_54 : decode cX7_comesDown 54 = .ok (.dup2, 1) := by decide +kernel
theorem dX7_comesDown_55 : decode cX7_comesDown 55 = .ok (.iaload, 1) := by decide +kernel
theorem dX7_comesDown_56 : decode cX7_comesDown 56 = .ok (.iconst 1, 1) := by decide +kernel
theorem dX7_comesDown_57 : decode cX7_comesDown 57 = .ok (.isub, 1) := by decide +kernel
theorem dX7_comesDown_58 : decode cX7_comesDown 58 = .ok (.iastore, 1) := by decide +kernel
theorem dX7_comesDown_59 : decode cX7_comesDown 59 = .ok (.return_, 1) := by decide +kernel
theorem dX7_down_0 : decode cX7_down 0 = .ok (.aload_n 0, 1) := by decide +kernel
theorem dX7_down_1 : decode cX7_down 1 = .ok (.iload_n 1, 1) := by decide +kernel
theorem dX7_down_2 : decode cX7_down 2 = .ok (.invokevirtual 87, 3) := by decide +kernel
theorem dX7_down_5 : decode cX7_down 5 = .ok (.ifCond .ne 10, 3) := by decide +kernel
theorem dX7_down_8 : decode cX7_down 8 = .ok (.aload_n 0, 1) := by decide +kernel
theorem dX7_down_9 : decode cX7_down 9 = .ok (.ldc 44, 2) := by decide +kernel
theorem dX7_down_11 : decode cX7_down 11 = .ok (.invokevirtual 53, 3) := by decide +kernel
theorem dX7_down_14 : decode cX7_down 14 = .ok (.ireturn, 1) := by decide +kernel
theorem dX7_down_15 : decode cX7_down 15 = .ok (.aload_n 0, 1) := by decide +kernel
theorem dX7_down_16 : decode cX7_down 16 = .ok (.iload_n 1, 1) := by decide +kernel
theorem dX7_down_17 : decode cX7_down 17 = .ok (.iconst 5, 1) := by decide +kernel
theorem dX7_down_18 : decode cX7_down 18 = .ok (.invokevirtual 69, 3) := by decide +kernel
theorem dX7_down_21 : decode cX7_down 21 = .ok (.istore_n 2, 1) := by decide +kernel
theorem dX7_down_22 : decode cX7_down 22 = .ok (.aload_n 0, 1) := by decide +kernel
theorem dX7_down_23 : decode cX7_down 23 = .ok (.iload_n 1, 1) := by decide +kernel
theorem dX7_down_24 : decode cX7_down 24 = .ok (.invokevirtual 97, 3) := by decide +kernel
theorem dX7_down_27 : decode cX7_down 27 = .ok (.iload_n 2, 1) := by decide +kernel
theorem dX7_down_28 : decode cX7_down 28 = .ok (.ireturn, 1) := by decide +kernel
theorem dX7_settle_0 : decode cX7_settle 0 = .ok (.aload_n 0, 1) := by decide +kernel
theorem dX7_settle_1 : decode cX7_settle 1 = .ok (.iload_n 1, 1) := by decide +kernel
theorem dX7_settle_2 : decode cX7_settle 2 = .ok (.invokevirtual 87, 3) := by decide +kernel
theorem dX7_settle_5 : decode cX7_settle 5 = .ok (.ifCond .ne 10, 3) := by decide +kernel
theorem dX7_settle_8 : decode cX7_settle 8 = .ok (.aload_n 0, 1) := by decide +kernel
theorem dX7_settle_9 : decode cX7_settle 9 = .ok (.ldc 44, 2) := by decide +kernel
theorem dX7_settle_11 : decode cX7_settle 11 = .ok (.invokevirtual 53, 3) := by decide +kernel
theorem dX7_settle_14 : decode cX7_settle 14 = .ok (.ireturn, 1) := by decide +kernel
theorem dX7_settle_15 : decode cX7_settle 15 = .ok (.aload_n 0, 1) := by decide +kernel
theorem dX7_settle_16 : decode cX7_settle 16 = .ok (.iload_n 1, 1) := by decide +kernel
theorem dX7_settle_17 : decode cX7_settle 17 = .ok (.iconst 5, 1) := by decide +kernel
theorem dX7_settle_18 : decode cX7_settle 18 = .ok (.invokevirtual 69, 3) := by decide +kernel
theorem dX7_settle_21 : decode cX7_settle 21 = .ok (.istore_n 2, 1) := by decide +kernel
theorem dX7_settle_22 : decode cX7_settle 22 = .ok (.aload_n 0, 1) := by decide +kernel
theorem dX7_settle_23 : decode cX7_settle 23 = .ok (.iload_n 1, 1) := by decide +kernel
theorem dX7_settle_24 : decode cX7_settle 24 = .ok (.iconst 5, 1) := by decide +kernel
theorem dX7_settle_25 : decode cX7_settle 25 = .ok (.iconst 0, 1) := by decide +kernel
theorem dX7_settle_26 : decode cX7_settle 26 = .ok (.invokevirtual 57, 3) := by decide +kernel
theorem dX7_settle_29 : decode cX7_settle 29 = .ok (.iload_n 2, 1) := by decide +kernel
theorem dX7_settle_30 : decode cX7_settle 30 = .ok (.ireturn, 1) := by decide +kernel
theorem dX7_struckAt_0 : decode cX7_struckAt 0 = .ok (.iconst (-1), 1) := by decide +kernel
theorem dX7_struckAt_1 : decode cX7_struckAt 1 = .ok (.istore_n 2, 1) := by decide +kernel
theorem dX7_struckAt_2 : decode cX7_struckAt 2 = .ok (.iconst 0, 1) := by decide +kernel
theorem dX7_struckAt_3 : decode cX7_struckAt 3 = .ok (.istore_n 3, 1) := by decide +kernel
theorem dX7_struckAt_4 : decode cX7_struckAt 4 = .ok (.iconst 0, 1) := by decide +kernel
theorem dX7_struckAt_5 : decode cX7_struckAt 5 = .ok (.istore 4, 2) := by decide +kernel
theorem dX7_struckAt_7 : decode cX7_struckAt 7 = .ok (.iload 4, 2) := by decide +kernel
theorem dX7_struckAt_9 : decode cX7_struckAt 9 = .ok (.aload_n 0, 1) := by decide +kernel
theorem dX7_struckAt_10 : decode cX7_struckAt 10 = .ok (.getfield 7, 3) := by decide +kernel
theorem dX7_struckAt_13 : decode cX7_struckAt 13 = .ok (.bipush 8, 2) := by decide +kernel
theorem dX7_struckAt_15 : decode cX7_struckAt 15 = .ok (.iaload, 1) := by decide +kernel
theorem dX7_struckAt_16 : decode cX7_struckAt 16 = .ok (.if_icmp .ge 44, 3) := by decide +kernel
theorem dX7_struckAt_19 : decode cX7_struckAt 19 = .ok (.aload_n 0, 1) := by decide +kernel
theorem dX7_struckAt_20 : decode cX7_struckAt 20 = .ok (.iload 4, 2) := by decide +kernel
theorem dX7_struckAt_22 : decode cX7_struckAt 22 = .ok (.iload_n 1, 1) := by decide +kernel
theorem dX7_struckAt_23 : decode cX7_struckAt 23 = .ok (.invokevirtual 90, 3) := by decide +kernel
theorem dX7_struckAt_26 : decode cX7_struckAt 26 = .ok (.istore 5, 2) := by decide +kernel
theorem dX7_struckAt_28 : decode cX7_struckAt 28 = .ok (.iload 5, 2) := by decide +kernel
theorem dX7_struckAt_30 : decode cX7_struckAt 30 = .ok (.iload_n 3, 1) := by decide +kernel
theorem dX7_struckAt_31 : decode cX7_struckAt 31 = .ok (.if_icmp .le 8, 3) := by decide +kernel
theorem dX7_struckAt_34 : decode cX7_struckAt 34 = .ok (.iload 4, 2) := by decide +kernel
theorem dX7_struckAt_36 : decode cX7_struckAt 36 = .ok (.goto 4, 3) := by decide +kernel
theorem dX7_struckAt_39 : decode cX7_struckAt 39 = .ok (.iload_n 2, 1) := by decide +kernel
theorem dX7_struckAt_40 : decode cX7_struckAt 40 = .ok (.istore_n 2, 1) := by decide +kernel
theorem dX7_struckAt_41 : decode cX7_struckAt 41 = .ok (.iload 5, 2) := by decide +kernel
theorem dX7_struckAt_43 : decode cX7_struckAt 43 = .ok (.iload_n 3, 1) := by decide +kernel
theorem dX7_struckAt_44 : decode cX7_struckAt 44 = .ok (.if_icmp .le 8, 3) := by decide +kernel
theorem dX7_struckAt_47 : decode cX7_struckAt 47 = .ok (.iload 5, 2) := by decide +kernel
theorem dX7_struckAt_49 : decode cX7_struckAt 49 = .ok (.goto 4, 3) := by decide +kernel
theorem dX7_struckAt_52 : decode cX7_struckAt 52 = .ok (.iload_n 3, 1) := by decide +kernel
theorem dX7_struckAt_53 : decode cX7_struckAt 53 = .ok (.istore_n 3, 1) := by decide +kernel
theorem dX7_struckAt_54 : decode cX7_struckAt 54 = .ok (.iinc 4 1, 3) := by decide +kernel
theorem dX7_struckAt_57 : decode cX7_struckAt 57 = .ok (.goto (-50), 3) := by decide +kernel
theorem dX7_struckAt_60 : decode cX7_struckAt 60 = .ok (.iload_n 2, 1) := by decide +kernel
theorem dX7_struckAt_61 : decode cX7_struckAt 61 = .ok (.ireturn, 1) := by decide +kernel
theorem dX7_doesBreak_0 : decode cX7_doesBreak 0 = .ok (.aload_n 0, 1) := by decide +kernel
theorem dX7_doesBreak_1 : decode cX7_doesBreak 1 = .ok (.getfield 7, 3) := by decide +kernel
theorem dX7_doesBreak_4 : decode cX7_doesBreak 4 = .ok (.iconst 1, 1) := by decide +kernel
theorem dX7_doesBreak_5 : decode cX7_doesBreak 5 = .ok (.iaload, 1) := by decide +kernel
theorem dX7_doesBreak_6 : decode cX7_doesBreak 6 = .ok (.aload_n 0, 1) := by decide +kernel
theorem dX7_doesBreak_7 : decode cX7_doesBreak 7 = .ok (.getfield 7, 3) := by decide +kernel
theorem dX7_doesBreak_10 : decode cX7_doesBreak 10 = .ok (.iconst 4, 1) := by decide +kernel
theorem dX7_doesBreak_11 : decode cX7_doesBreak 11 = .ok (.iaload, 1) := by decide +kernel
theorem dX7_doesBreak_12 : decode cX7_doesBreak 12 = .ok (.if_icmp .lt 7, 3) := by decide +kernel
theorem dX7_doesBreak_15 : decode cX7_doesBreak 15 = .ok (.iconst 1, 1) := by decide +kernel
theorem dX7_doesBreak_16 : decode cX7_doesBreak 16 = .ok (.goto 4, 3) := by decide +kernel
theorem dX7_doesBreak_19 : decode cX7_doesBreak 19 = .ok (.iconst 0, 1) := by decide +kernel
theorem dX7_doesBreak_20 : decode cX7_doesBreak 20 = .ok (.ireturn, 1) := by decide +kernel
theorem dX7_bolt_0 : decode cX7_bolt 0 = .ok (.aload_n 0, 1) := by decide +kernel
theorem dX7_bolt_1 : decode cX7_bolt 1 = .ok (.aload_n 0, 1) := by decide +kernel
theorem dX7_bolt_2 : decode cX7_bolt 2 = .ok (.getfield 7, 3) := by decide +kernel
theorem dX7_bolt_5 : decode cX7_bolt 5 = .ok (.iconst 0, 1) := by decide +kernel
theorem dX7_bolt_6 : decode cX7_bolt 6 = .ok (.iaload, 1) := by decide +kernel
theorem dX7_bolt_7 : decode cX7_bolt 7 = .ok (.invokevirtual 101, 3) := by decide +kernel
theorem dX7_bolt_10 : decode cX7_bolt 10 = .ok (.istore_n 1, 1) := by decide +kernel
theorem dX7_bolt_11 : decode cX7_bolt 11 = .ok (.iload_n 1, 1) := by decide +kernel
theorem dX7_bolt_12 : decode cX7_bolt 12 = .ok (.ifCond .ge 7, 3) := by decide +kernel
theorem dX7_bolt_15 : decode cX7_bolt 15 = .ok (.iconst 0, 1) := by decide +kernel
theorem dX7_bolt_16 : decode cX7_bolt 16 = .ok (.goto 14, 3) := by decide +kernel
theorem dX7_bolt_19 : decode cX7_bolt 19 = .ok (.aload_n 0, 1) := by decide +kernel
theorem dX7_bolt_20 : decode cX7_bolt 20 = .ok (.iload_n 1, 1) := by decide +kernel
theorem dX7_bolt_21 : decode cX7_bolt 21 = .ok (.aload_n 0, 1) := by decide +kernel
theorem dX7_bolt_22 : decode cX7_bolt 22 = .ok (.getfield 7, 3) := by decide +kernel
theorem dX7_bolt_25 : decode cX7_bolt 25 = .ok (.iconst 1, 1) := by decide +kernel
theorem dX7_bolt_26 : decode cX7_bolt 26 = .ok (.iaload, 1) := by decide +kernel
theorem dX7_bolt_27 : decode cX7_bolt 27 = .ok (.invokevirtual 93, 3) := by decide +kernel
theorem dX7_bolt_30 : decode cX7_bolt 30 = .ok (.istore_n 2, 1) := by decide +kernel
theorem dX7_bolt_31 : decode cX7_bolt 31 = .ok (.iload_n 1, 1) := by decide +kernel
theorem dX7_bolt_32 : decode cX7_bolt 32 = .ok (.ifCond .lt 45, 3) := by decide +kernel
theorem dX7_bolt_35 : decode cX7_bolt 35 = .ok (.aload_n 0, 1) := by decide +kernel
theorem dX7_bolt_36 : decode cX7_bolt 36 = .ok (.iload_n 1, 1) := by decide +kernel
theorem dX7_bolt_37 : decode cX7_bolt 37 = .ok (.bipush 6, 2) := by decide +kernel
theorem dX7_bolt_39 : decode cX7_bolt 39 = .ok (.aload_n 0, 1) := by decide +kernel
theorem dX7_bolt_40 : decode cX7_bolt 40 = .ok (.iload_n 1, 1) := by decide +kernel
theorem dX7_bolt_41 : decode cX7_bolt 41 = .ok (.bipush 6, 2) := by decide +kernel
theorem dX7_bolt_43 : decode cX7_bolt 43 = .ok (.invokevirtual 69, 3) := by decide +kernel
theorem dX7_bolt_46 : decode cX7_bolt 46 = .ok (.iconst 1, 1) := by decide +kernel
theorem dX7_bolt_47 : decode cX7_bolt 47 = .ok (.iadd, 1) := by decide +kernel
theorem dX7_bolt_48 : decode cX7_bolt 48 = .ok (.iconst 0, 1) := by decide +kernel
theorem dX7_bolt_49 : decode cX7_bolt 49 = .ok (.ldc 104, 2) := by decide +kernel
theorem dX7_bolt_51 : decode cX7_bolt 51 = .ok (.invokestatic 73, 3) := by decide +kernel
theorem dX7_bolt_54 : decode cX7_bolt 54 = .ok (.invokevirtual 57, 3) := by decide +kernel
theorem dX7_bolt_57 : decode cX7_bolt 57 = .ok (.aload_n 0, 1) := by decide +kernel
theorem dX7_bolt_58 : decode cX7_bolt 58 = .ok (.iload_n 1, 1) := by decide +kernel
theorem dX7_bolt_59 : decode cX7_bolt 59 = .ok (.iconst 5, 1) := by decide +kernel
theorem dX7_bolt_60 : decode cX7_bolt 60 = .ok (.aload_n 0, 1) := by decide +kernel
theorem dX7_bolt_61 : decode cX7_bolt 61 = .ok (.iload_n 1, 1) := by decide +kernel
theorem dX7_bolt_62 : decode cX7_bolt 62 = .ok (.iconst 5, 1) := by decide +kernel
theorem dX7_bolt_63 : decode cX7_bolt 63 = .ok (.invokevirtual 69, 3) := by decide +kernel
theorem dX7_bolt_66 : decode cX7_bolt 66 = .ok (.iload_n 2, 1) := by decide +kernel
theorem dX7_bolt_67 : decode cX7_bolt 67 = .ok (.iadd, 1) := by decide +kernel
theorem dX7_bolt_68 : decode cX7_bolt 68 = .ok (.iconst 0, 1) := by decide +kernel
theorem dX7_bolt_69 : decode cX7_bolt 69 = .ok (.ldc 104, 2) := by decide +kernel
theorem dX7_bolt_71 : decode cX7_bolt 71 = .ok (.invokestatic 73, 3) := by decide +kernel
theorem dX7_bolt_74 : decode cX7_bolt 74 = .ok (.invokevirtual 57, 3) := by decide +kernel
theorem dX7_bolt_77 : decode cX7_bolt 77 = .ok (.iload_n 2, 1) := by decide +kernel
theorem dX7_bolt_78 : decode cX7_bolt 78 = .ok (.ifCond .ne 30, 3) := by decide +kernel
theorem dX7_bolt_81 : decode cX7_bolt 81 = .ok (.aload_n 0, 1) := by decide +kernel
theorem dX7_bolt_82 : decode cX7_bolt 82 = .ok (.getfield 7, 3) := by decide +kernel
theorem dX7_bolt_85 : decode cX7_bolt 85 = .ok (.bipush 6, 2) := by decide +kernel
theorem dX7_bolt_87 : decode cX7_bolt 87 = .ok (.aload_n 0, 1) := by decide +kernel
theorem dX7_bolt_88 : decode cX7_bolt 88 = .ok (.getfield 7, 3) := by decide +kernel
theorem dX7_bolt_91 : decode cX7_bolt 91 = .ok (.bipush 6, 2) := by decide +kernel
theorem dX7_bolt_93 : decode cX7_bolt 93 = .ok (.iaload, 1) := by decide +kernel
theorem dX7_bolt_94 : decode cX7_bolt 94 = .ok (.aload_n 0, 1) := by decide +kernel
theorem dX7_bolt_95 : decode cX7_bolt 95 = .ok (.getfield 7, 3) := by decide +kernel
theorem dX7_bolt_98 : decode cX7_bolt 98 = .ok (.iconst 1, 1) := by decide +kernel
theorem dX7_bolt_99 : decode cX7_bolt 99 = .ok (.iaload, 1) := by decide +kernel
theorem dX7_bolt_100 : decode cX7_bolt 100 = .ok (.iadd, 1) := by decide +kernel
theorem dX7_bolt_101 : decode cX7_bolt 101 = .ok (.iconst 0, 1) := by decide +kernel
theorem dX7_bolt_102 : decode cX7_bolt 102 = .ok (.ldc 104, 2) := by decide +kernel
theorem dX7_bolt_104 : decode cX7_bolt 104 = .ok (.invokestatic 73, 3) := by decide +kernel
theorem dX7_bolt_107 : decode cX7_bolt 107 = .ok (.iastore, 1) := by decide +kernel
theorem dX7_bolt_108 : decode cX7_bolt 108 = .ok (.aload_n 0, 1) := by decide +kernel
theorem dX7_bolt_109 : decode cX7_bolt 109 = .ok (.getfield 7, 3) := by decide +kernel
theorem dX7_bolt_112 : decode cX7_bolt 112 = .ok (.iconst 1, 1) := by decide +kernel
theorem dX7_bolt_113 : decode cX7_bolt 113 = .ok (.iconst 0, 1) := by decide +kernel
theorem dX7_bolt_114 : decode cX7_bolt 114 = .ok (.iastore, 1) := by decide +kernel
theorem dX7_bolt_115 : decode cX7_bolt 115 = .ok (.return_, 1) := by decide +kernel
theorem dX7_oneHour_0 : decode cX7_oneHour 0 = .ok (.aload_n 0, 1) := by decide +kernel
theorem dX7_oneHour_1 : decode cX7_oneHour 1 = .ok (.invokevirtual 105, 3) := by decide +kernel
theorem dX7_oneHour_4 : decode cX7_oneHour 4 = .ok (.ifCond .eq 7, 3) := by decide +kernel
theorem dX7_oneHour_7 : decode cX7_oneHour 7 = .ok (.aload_n 0, 1) := by decide +kernel
theorem dX7_oneHour_8 : decode cX7_oneHour 8 = .ok (.invokevirtual 109, 3) := by decide +kernel
theorem dX7_oneHour_11 : decode cX7_oneHour 11 = .ok (.aload_n 0, 1) := by decide +kernel
theorem dX7_oneHour_12 : decode cX7_oneHour 12 = .ok (.getfield 7, 3) := by decide +kernel
theorem dX7_oneHour_15 : decode cX7_oneHour 15 = .ok (.iconst 0, 1) := by decide +kernel
theorem dX7_oneHour_16 : decode cX7_oneHour 16 = .ok (.iaload, 1) := by decide +kernel
theorem dX7_oneHour_17 : decode cX7_oneHour 17 = .ok (.aload_n 0, 1) := by decide +kernel
theorem dX7_oneHour_18 : decode cX7_oneHour 18 = .ok (.getfield 7, 3) := by decide +kernel
theorem dX7_oneHour_21 : decode cX7_oneHour 21 = .ok (.iconst 2, 1) := by decide +kernel
theorem dX7_oneHour_22 : decode cX7_oneHour 22 = .ok (.iaload, 1) := by decide +kernel
theorem dX7_oneHour_23 : decode cX7_oneHour 23 = .ok (.iadd, 1) := by decide +kernel
theorem dX7_oneHour_24 : decode cX7_oneHour 24 = .ok (.invokestatic 49, 3) := by decide +kernel
theorem dX7_oneHour_27 : decode cX7_oneHour 27 = .ok (.ifCond .eq 21, 3) := by decide +kernel
theorem dX7_oneHour_30 : decode cX7_oneHour 30 = .ok (.aload_n 0, 1) := by decide +kernel
theorem dX7_oneHour_31 : decode cX7_oneHour 31 = .ok (.getfield 7, 3) := by decide +kernel
theorem dX7_oneHour_34 : decode cX7_oneHour 34 = .ok (.iconst 0, 1) := by decide +kernel
theorem dX7_oneHour_35 : decode cX7_oneHour 35 = .ok (.dup2, 1) := by decide +kernel
theorem dX7_oneHour_36 : decode cX7_oneHour 36 = .ok (.iaload, 1) := by decide +kernel
theorem dX7_oneHour_37 : decode cX7_oneHour 37 = .ok (.aload_n 0, 1) := by decide +kernel
theorem dX7_oneHour_38 : decode cX7_oneHour 38 = .ok (.getfield 7, 3) := by decide +kernel
theorem dX7_oneHour_41 : decode cX7_oneHour 41 = .ok (.iconst 2, 1) := by decide +kernel
theorem dX7_oneHour_42 : decode cX7_oneHour 42 = .ok (.iaload, 1) := by decide +kernel
theorem dX7_oneHour_43 : decode cX7_oneHour 43 = .ok (.iadd, 1) := by decide +kernel
theorem dX7_oneHour_44 : decode cX7_oneHour 44 = .ok (.iastore, 1) := by decide +kernel
theorem dX7_oneHour_45 : decode cX7_oneHour 45 = .ok (.goto 16, 3) := by decide +kernel
theorem dX7_oneHour_48 : decode cX7_oneHour 48 = .ok (.aload_n 0, 1) := by decide +kernel
theorem dX7_oneHour_49 : decode cX7_oneHour 49 = .ok (.getfield 7, 3) := by decide +kernel
theorem dX7_oneHour_52 : decode cX7_oneHour 52 = .ok (.iconst 2, 1) := by decide +kernel
theorem dX7_oneHour_53 : decode cX7_oneHour 53 = .ok (.aload_n 0, 1) := by decide +kernel
theorem dX7_oneHour_54 : decode cX7_oneHour 54 = .ok (.getfield 7, 3) := by decide +kernel
theorem dX7_oneHour_57 : decode cX7_oneHour 57 = .ok (.iconst 2, 1) := by decide +kernel
theorem dX7_oneHour_58 : decode cX7_oneHour 58 = .ok (.iaload, 1) := by decide +kernel
theorem dX7_oneHour_59 : decode cX7_oneHour 59 = .ok (.ineg, 1) := by decide +kernel
theorem dX7_oneHour_60 : decode cX7_oneHour 60 = .ok (.iastore, 1) := by decide +kernel
theorem dX7_oneHour_61 : decode cX7_oneHour 61 = .ok (.aload_n 0, 1) := by decide +kernel
theorem dX7_oneHour_62 : decode cX7_oneHour 62 = .ok (.getfield 7, 3) := by decide +kernel
theorem dX7_oneHour_65 : decode cX7_oneHour 65 = .ok (.iconst 1, 1) := by decide +kernel
theorem dX7_oneHour_66 : decode cX7_oneHour 66 = .ok (.aload_n 0, 1) := by decide +kernel
theorem dX7_oneHour_67 : decode cX7_oneHour 67 = .ok (.getfield 7, 3) := by decide +kernel
theorem dX7_oneHour_70 : decode cX7_oneHour 70 = .ok (.iconst 1, 1) := by decide +kernel
theorem dX7_oneHour_71 : decode cX7_oneHour 71 = .ok (.iaload, 1) := by decide +kernel
theorem dX7_oneHour_72 : decode cX7_oneHour 72 = .ok (.aload_n 0, 1) := by decide +kernel
theorem dX7_oneHour_73 : decode cX7_oneHour 73 = .ok (.getfield 7, 3) := by decide +kernel
theorem dX7_oneHour_76 : decode cX7_oneHour 76 = .ok (.iconst 3, 1) := by decide +kernel
theorem dX7_oneHour_77 : decode cX7_oneHour 77 = .ok (.iaload, 1) := by decide +kernel
theorem dX7_oneHour_78 : decode cX7_oneHour 78 = .ok (.iadd, 1) := by decide +kernel
theorem dX7_oneHour_79 : decode cX7_oneHour 79 = .ok (.iconst 0, 1) := by decide +kernel
theorem dX7_oneHour_80 : decode cX7_oneHour 80 = .ok (.bipush 99, 2) := by decide +kernel
theorem dX7_oneHour_82 : decode cX7_oneHour 82 = .ok (.invokestatic 73, 3) := by decide +kernel
theorem dX7_oneHour_85 : decode cX7_oneHour 85 = .ok (.iastore, 1) := by decide +kernel
theorem dX7_oneHour_86 : decode cX7_oneHour 86 = .ok (.aload_n 0, 1) := by decide +kernel
theorem dX7_oneHour_87 : decode cX7_oneHour 87 = .ok (.getfield 7, 3) := by decide +kernel
theorem dX7_oneHour_90 : decode cX7_oneHour 90 = .ok (.iconst 5, 1) := by decide +kernel
theorem dX7_oneHour_91 : decode cX7_oneHour 91 = .ok (.dup2, 1) := by decide +kernel
theorem dX7_oneHour_92 : decode cX7_oneHour 92 = .ok (.iaload, 1) := by decide +kernel
theorem dX7_oneHour_93 : decode cX7_oneHour 93 = .ok (.iconst 1, 1) := by decide +kernel
theorem dX7_oneHour_94 : decode cX7_oneHour 94 = .ok (.iadd, 1) := by decide +kernel
theorem dX7_oneHour_95 : decode cX7_oneHour 95 = .ok (.iastore, 1) := by decide +kernel
theorem dX7_oneHour_96 : decode cX7_oneHour 96 = .ok (.return_, 1) := by decide +kernel
theorem dX7_passes_0 : decode cX7_passes 0 = .ok (.iconst 0, 1) := by decide +kernel
theorem dX7_passes_1 : decode cX7_passes 1 = .ok (.istore_n 2, 1) := by decide +kernel
theorem dX7_passes_2 : decode cX7_passes 2 = .ok (.iload_n 2, 1) := by decide +kernel
theorem dX7_passes_3 : decode cX7_passes 3 = .ok (.iload_n 1, 1) := by decide +kernel
theorem dX7_passes_4 : decode cX7_passes 4 = .ok (.if_icmp .ge 13, 3) := by decide +kernel
theorem dX7_passes_7 : decode cX7_passes 7 = .ok (.aload_n 0, 1) := by decide +kernel
theorem dX7_passes_8 : decode cX7_passes 8 = .ok (.invokevirtual 112, 3) := by decide +kernel
theorem dX7_passes_11 : decode cX7_passes 11 = .ok (.iinc 2 1, 3) := by decide +kernel
theorem dX7_passes_14 : decode cX7_passes 14 = .ok (.goto (-12), 3) := by decide +kernel
theorem dX7_passes_17 : decode cX7_passes 17 = .ok (.return_, 1) := by decide +kernel
theorem dX7_sumOf_0 : decode cX7_sumOf 0 = .ok (.iconst 0, 1) := by decide +kernel
theorem dX7_sumOf_1 : decode cX7_sumOf 1 = .ok (.istore_n 2, 1) := by decide +kernel
theorem dX7_sumOf_2 : decode cX7_sumOf 2 = .ok (.iconst 0, 1) := by decide +kernel
theorem dX7_sumOf_3 : decode cX7_sumOf 3 = .ok (.istore_n 3, 1) := by decide +kernel
theorem dX7_sumOf_4 : decode cX7_sumOf 4 = .ok (.iload_n 3, 1) := by decide +kernel
theorem dX7_sumOf_5 : decode cX7_sumOf 5 = .ok (.aload_n 0, 1) := by decide +kernel
theorem dX7_sumOf_6 : decode cX7_sumOf 6 = .ok (.getfield 7, 3) := by decide +kernel
theorem dX7_sumOf_9 : decode cX7_sumOf 9 = .ok (.bipush 8, 2) := by decide +kernel
theorem dX7_sumOf_11 : decode cX7_sumOf 11 = .ok (.iaload, 1) := by decide +kernel
theorem dX7_sumOf_12 : decode cX7_sumOf 12 = .ok (.if_icmp .ge 18, 3) := by decide +kernel
theorem dX7_sumOf_15 : decode cX7_sumOf 15 = .ok (.iload_n 2, 1) := by decide +kernel
theorem dX7_sumOf_16 : decode cX7_sumOf 16 = .ok (.aload_n 0, 1) := by decide +kernel
theorem dX7_sumOf_17 : decode cX7_sumOf 17 = .ok (.iload_n 3, 1) := by decide +kernel
theorem dX7_sumOf_18 : decode cX7_sumOf 18 = .ok (.iload_n 1, 1) := by decide +kernel
theorem dX7_sumOf_19 : decode cX7_sumOf 19 = .ok (.invokevirtual 69, 3) := by decide +kernel
theorem dX7_sumOf_22 : decode cX7_sumOf 22 = .ok (.iadd, 1) := by decide +kernel
theorem dX7_sumOf_23 : decode cX7_sumOf 23 = .ok (.istore_n 2, 1) := by decide +kernel
theorem dX7_sumOf_24 : decode cX7_sumOf 24 = .ok (.iinc 3 1, 3) := by decide +kernel
theorem dX7_sumOf_27 : decode cX7_sumOf 27 = .ok (.goto (-23), 3) := by decide +kernel
theorem dX7_sumOf_30 : decode cX7_sumOf 30 = .ok (.iload_n 2, 1) := by decide +kernel
theorem dX7_sumOf_31 : decode cX7_sumOf 31 = .ok (.ireturn, 1) := by decide +kernel
theorem dX7_hours_0 : decode cX7_hours 0 = .ok (.iload_n 1, 1) := by decide +kernel
theorem dX7_hours_1 : decode cX7_hours 1 = .ok (.iconst 1, 1) := by decide +kernel
theorem dX7_hours_2 : decode cX7_hours 2 = .ok (.bipush 100, 2) := by decide +kernel
theorem dX7_hours_4 : decode cX7_hours 4 = .ok (.invokestatic 45, 3) := by decide +kernel
theorem dX7_hours_7 : decode cX7_hours 7 = .ok (.ifCond .ne 10, 3) := by decide +kernel
theorem dX7_hours_10 : decode cX7_hours 10 = .ok (.aload_n 0, 1) := by decide +kernel
theorem dX7_hours_11 : decode cX7_hours 11 = .ok (.ldc 44, 2) := by decide +kernel
theorem dX7_hours_13 : decode cX7_hours 13 = .ok (.invokevirtual 53, 3) := by decide +kernel
theorem dX7_hours_16 : decode cX7_hours 16 = .ok (.ireturn, 1) := by decide +kernel
theorem dX7_hours_17 : decode cX7_hours 17 = .ok (.aload_n 0, 1) := by decide +kernel
theorem dX7_hours_18 : decode cX7_hours 18 = .ok (.getfield 7, 3) := by decide +kernel
theorem dX7_hours_21 : decode cX7_hours 21 = .ok (.iconst 5, 1) := by decide +kernel
theorem dX7_hours_22 : decode cX7_hours 22 = .ok (.iaload, 1) := by decide +kernel
theorem dX7_hours_23 : decode cX7_hours 23 = .ok (.iload_n 1, 1) := by decide +kernel
theorem dX7_hours_24 : decode cX7_hours 24 = .ok (.iadd, 1) := by decide +kernel
theorem dX7_hours_25 : decode cX7_hours 25 = .ok (.sipush 9999, 3) := by decide +kernel
theorem dX7_hours_28 : decode cX7_hours 28 = .ok (.if_icmp .le 10, 3) := by decide +kernel
theorem dX7_hours_31 : decode cX7_hours 31 = .ok (.aload_n 0, 1) := by decide +kernel
theorem dX7_hours_32 : decode cX7_hours 32 = .ok (.ldc 115, 2) := by decide +kernel
theorem dX7_hours_34 : decode cX7_hours 34 = .ok (.invokevirtual 53, 3) := by decide +kernel
theorem dX7_hours_37 : decode cX7_hours 37 = .ok (.ireturn, 1) := by decide +kernel
theorem dX7_hours_38 : decode cX7_hours 38 = .ok (.aload_n 0, 1) := by decide +kernel
theorem dX7_hours_39 : decode cX7_hours 39 = .ok (.iload_n 1, 1) := by decide +kernel
theorem dX7_hours_40 : decode cX7_hours 40 = .ok (.invokevirtual 116, 3) := by decide +kernel
theorem dX7_hours_43 : decode cX7_hours 43 = .ok (.aload_n 0, 1) := by decide +kernel
theorem dX7_hours_44 : decode cX7_hours 44 = .ok (.iconst 5, 1) := by decide +kernel
theorem dX7_hours_45 : decode cX7_hours 45 = .ok (.invokevirtual 119, 3) := by decide +kernel
theorem dX7_hours_48 : decode cX7_hours 48 = .ok (.ireturn, 1) := by decide +kernel
theorem dX7_days_0 : decode cX7_days 0 = .ok (.iload_n 1, 1) := by decide +kernel
theorem dX7_days_1 : decode cX7_days 1 = .ok (.iconst 1, 1) := by decide +kernel
theorem dX7_days_2 : decode cX7_days 2 = .ok (.iconst 4, 1) := by decide +kernel
theorem dX7_days_3 : decode cX7_days 3 = .ok (.invokestatic 45, 3) := by decide +kernel
theorem dX7_days_6 : decode cX7_days 6 = .ok (.ifCond .ne 10, 3) := by decide +kernel
theorem dX7_days_9 : decode cX7_days 9 = .ok (.aload_n 0, 1) := by decide +kernel
theorem dX7_days_10 : decode cX7_days 10 = .ok (.ldc 44, 2) := by decide +kernel
theorem dX7_days_12 : decode cX7_days 12 = .ok (.invokevirtual 53, 3) := by decide +kernel
theorem dX7_days_15 : decode cX7_days 15 = .ok (.ireturn, 1) := by decide +kernel
theorem dX7_days_16 : decode cX7_days 16 = .ok (.aload_n 0, 1) := by decide +kernel
theorem dX7_days_17 : decode cX7_days 17 = .ok (.getfield 7, 3) := by decide +kernel
theorem dX7_days_20 : decode cX7_days 20 = .ok (.iconst 5, 1) := by decide +kernel
theorem dX7_days_21 : decode cX7_days 21 = .ok (.iaload, 1) := by decide +kernel
theorem dX7_days_22 : decode cX7_days 22 = .ok (.bipush 24, 2) := by decide +kernel
theorem dX7_days_24 : decode cX7_days 24 = .ok (.iload_n 1, 1) := by decide +kernel
theorem dX7_days_25 : decode cX7_days 25 = .ok (.imul, 1) := by decide +kernel
theorem dX7_days_26 : decode cX7_days 26 = .ok (.iadd, 1) := by decide +kernel
theorem dX7_days_27 : decode cX7_days 27 = .ok (.sipush 9999, 3) := by decide +kernel
theorem dX7_days_30 : decode cX7_days 30 = .ok (.if_icmp .le 10, 3) := by decide +kernel
theorem dX7_days_33 : decode cX7_days 33 = .ok (.aload_n 0, 1) := by decide +kernel
theorem dX7_days_34 : decode cX7_days 34 = .ok (.ldc 115, 2) := by decide +kernel
theorem dX7_days_36 : decode cX7_days 36 = .ok (.invokevirtual 53, 3) := by decide +kernel
theorem dX7_days_39 : decode cX7_days 39 = .ok (.ireturn, 1) := by decide +kernel
theorem dX7_days_40 : decode cX7_days 40 = .ok (.iconst 0, 1) := by decide +kernel
theorem dX7_days_41 : decode cX7_days 41 = .ok (.istore_n 2, 1) := by decide +kernel
theorem dX7_days_42 : decode cX7_days 42 = .ok (.iload_n 2, 1) := by decide +kernel
theorem dX7_days_43 : decode cX7_days 43 = .ok (.iload_n 1, 1) := by decide +kernel
theorem dX7_days_44 : decode cX7_days 44 = .ok (.if_icmp .ge 56, 3) := by decide +kernel
theorem dX7_days_47 : decode cX7_days 47 = .ok (.aload_n 0, 1) := by decide +kernel
theorem dX7_days_48 : decode cX7_days 48 = .ok (.getfield 7, 3) := by decide +kernel
theorem dX7_days_51 : decode cX7_days 51 = .ok (.bipush 7, 2) := by decide +kernel
theorem dX7_days_53 : decode cX7_days 53 = .ok (.aload_n 0, 1) := by decide +kernel
theorem dX7_days_54 : decode cX7_days 54 = .ok (.getfield 7, 3) := by decide +kernel
theorem dX7_days_57 : decode cX7_days 57 = .ok (.bipush 7, 2) := by decide +kernel
theorem dX7_days_59 : decode cX7_days 59 = .ok (.iaload, 1) := by decide +kernel
theorem dX7_days_60 : decode cX7_days 60 = .ok (.ldc 122, 2) := by decide +kernel
theorem dX7_days_62 : decode cX7_days 62 = .ok (.imul, 1) := by decide +kernel
theorem dX7_days_63 : decode cX7_days 63 = .ok (.sipush 12345, 3) := by decide +kernel
theorem dX7_days_66 : decode cX7_days 66 = .ok (.iadd, 1) := by decide +kernel
theorem dX7_days_67 : decode cX7_days 67 = .ok (.iastore, 1) := by decide +kernel
theorem dX7_days_68 : decode cX7_days 68 = .ok (.aload_n 0, 1) := by decide +kernel
theorem dX7_days_69 : decode cX7_days 69 = .ok (.getfield 7, 3) := by decide +kernel
theorem dX7_days_72 : decode cX7_days 72 = .ok (.iconst 2, 1) := by decide +kernel
theorem dX7_days_73 : decode cX7_days 73 = .ok (.aload_n 0, 1) := by decide +kernel
theorem dX7_days_74 : decode cX7_days 74 = .ok (.getfield 7, 3) := by decide +kernel
theorem dX7_days_77 : decode cX7_days 77 = .ok (.bipush 7, 2) := by decide +kernel
theorem dX7_days_79 : decode cX7_days 79 = .ok (.iaload, 1) := by decide +kernel
theorem dX7_days_80 : decode cX7_days 80 = .ok (.bipush 8, 2) := by decide +kernel
theorem dX7_days_82 : decode cX7_days 82 = .ok (.iushr, 1) := by decide +kernel
theorem dX7_days_83 : decode cX7_days 83 = .ok (.iconst 3, 1) := by decide +kernel
theorem dX7_days_84 : decode cX7_days 84 = .ok (.irem, 1) := by decide +kernel
theorem dX7_days_85 : decode cX7_days 85 = .ok (.iconst 1, 1) := by decide +kernel
theorem dX7_days_86 : decode cX7_days 86 = .ok (.isub, 1) := by decide +kernel
theorem dX7_days_87 : decode cX7_days 87 = .ok (.iastore, 1) := by decide +kernel
theorem dX7_days_88 : decode cX7_days 88 = .ok (.aload_n 0, 1) := by decide +kernel
theorem dX7_days_89 : decode cX7_days 89 = .ok (.bipush 24, 2) := by decide +kernel
theorem dX7_days_91 : decode cX7_days 91 = .ok (.invokevirtual 116, 3) := by decide +kernel
theorem dX7_days_94 : decode cX7_days 94 = .ok (.iinc 2 1, 3) := by decide +kernel
theorem dX7_days_97 : decode cX7_days 97 = .ok (.goto (-55), 3) := by decide +kernel
theorem dX7_days_100 : decode cX7_days 100 = .ok (.aload_n 0, 1) := by decide +kernel
theorem dX7_days_101 : decode cX7_days 101 = .ok (.iconst 5, 1) := by decide +kernel
theorem dX7_days_102 : decode cX7_days 102 = .ok (.invokevirtual 119, 3) := by decide +kernel
theorem dX7_days_105 : decode cX7_days 105 = .ok (.ireturn, 1) := by decide +kernel
theorem dX7_seed_0 : decode cX7_seed 0 = .ok (.aload_n 0, 1) := by decide +kernel
theorem dX7_seed_1 : decode cX7_seed 1 = .ok (.getfield 7, 3) := by decide +kernel
theorem dX7_seed_4 : decode cX7_seed 4 = .ok (.bipush 7, 2) := by decide +kernel
theorem dX7_seed_6 : decode cX7_seed 6 = .ok (.iaload, 1) := by decide +kernel
theorem dX7_seed_7 : decode cX7_seed 7 = .ok (.istore_n 2, 1) := by decide +kernel
theorem dX7_seed_8 : decode cX7_seed 8 = .ok (.aload_n 0, 1) := by decide +kernel
theorem dX7_seed_9 : decode cX7_seed 9 = .ok (.getfield 7, 3) := by decide +kernel
theorem dX7_seed_12 : decode cX7_seed 12 = .ok (.bipush 7, 2) := by decide +kernel
theorem dX7_seed_14 : decode cX7_seed 14 = .ok (.iload_n 1, 1) := by decide +kernel
theorem dX7_seed_15 : decode cX7_seed 15 = .ok (.iastore, 1) := by decide +kernel
theorem dX7_seed_16 : decode cX7_seed 16 = .ok (.iload_n 2, 1) := by decide +kernel
theorem dX7_seed_17 : decode cX7_seed 17 = .ok (.ireturn, 1) := by decide +kernel
theorem dX7_paidOnes_0 : decode cX7_paidOnes 0 = .ok (.iconst 0, 1) := by decide +kernel
theorem dX7_paidOnes_1 : decode cX7_paidOnes 1 = .ok (.istore_n 1, 1) := by decide +kernel
theorem dX7_paidOnes_2 : decode cX7_paidOnes 2 = .ok (.iconst 0, 1) := by decide +kernel
theorem dX7_paidOnes_3 : decode cX7_paidOnes 3 = .ok (.istore_n 2, 1) := by decide +kernel
theorem dX7_paidOnes_4 : decode cX7_paidOnes 4 = .ok (.iload_n 2, 1) := by decide +kernel
theorem dX7_paidOnes_5 : decode cX7_paidOnes 5 = .ok (.aload_n 0, 1) := by decide +kernel
theorem dX7_paidOnes_6 : decode cX7_paidOnes 6 = .ok (.getfield 7, 3) := by decide +kernel
theorem dX7_paidOnes_9 : decode cX7_paidOnes 9 = .ok (.bipush 8, 2) := by decide +kernel
theorem dX7_paidOnes_11 : decode cX7_paidOnes 11 = .ok (.iaload, 1) := by decide +kernel
theorem dX7_paidOnes_12 : decode cX7_paidOnes 12 = .ok (.if_icmp .ge 27, 3) := by decide +kernel
theorem dX7_paidOnes_15 : decode cX7_paidOnes 15 = .ok (.iload_n 1, 1) := by decide +kernel
theorem dX7_paidOnes_16 : decode cX7_paidOnes 16 = .ok (.aload_n 0, 1) := by decide +kernel
theorem dX7_paidOnes_17 : decode cX7_paidOnes 17 = .ok (.iload_n 2, 1) := by decide +kernel
theorem dX7_paidOnes_18 : decode cX7_paidOnes 18 = .ok (.invokevirtual 84, 3) := by decide +kernel
theorem dX7_paidOnes_21 : decode cX7_paidOnes 21 = .ok (.ifCond .eq 9, 3) := by decide +kernel
theorem dX7_paidOnes_24 : decode cX7_paidOnes 24 = .ok (.iconst 1, 1) := by decide +kernel
theorem dX7_paidOnes_25 : decode cX7_paidOnes 25 = .ok (.iload_n 2, 1) := by decide +kernel
theorem dX7_paidOnes_26 : decode cX7_paidOnes 26 = .ok (.ishl, 1) := by decide +kernel
theorem dX7_paidOnes_27 : decode cX7_paidOnes 27 = .ok (.goto 4, 3) := by decide +kernel
theorem dX7_paidOnes_30 : decode cX7_paidOnes 30 = .ok (.iconst 0, 1) := by decide +kernel
theorem dX7_paidOnes_31 : decode cX7_paidOnes 31 = .ok (.ior, 1) := by decide +kernel
theorem dX7_paidOnes_32 : decode cX7_paidOnes 32 = .ok (.istore_n 1, 1) := by decide +kernel
theorem dX7_paidOnes_33 : decode cX7_paidOnes 33 = .ok (.iinc 2 1, 3) := by decide +kernel
theorem dX7_paidOnes_36 : decode cX7_paidOnes 36 = .ok (.goto (-32), 3) := by decide +kernel
theorem dX7_paidOnes_39 : decode cX7_paidOnes 39 = .ok (.iload_n 1, 1) := by decide +kernel
theorem dX7_paidOnes_40 : decode cX7_paidOnes 40 = .ok (.ireturn, 1) := by decide +kernel
theorem dX7_now_0 : decode cX7_now 0 = .ok (.iload_n 1, 1) := by decide +kernel
theorem dX7_now_1 : decode cX7_now 1 = .ok (.tableswitch 77 0 5 #[39, 46, 51, 57, 64, 72], 39) := by decide +kernel
theorem dX7_now_40 : decode cX7_now 40 = .ok (.aload_n 0, 1) := by decide +kernel
theorem dX7_now_41 : decode cX7_now 41 = .ok (.getfield 7, 3) := by decide +kernel
theorem dX7_now_44 : decode cX7_now 44 = .ok (.iconst 5, 1) := by decide +kernel
theorem dX7_now_45 : decode cX7_now 45 = .ok (.iaload, 1) := by decide +kernel
theorem dX7_now_46 : decode cX7_now 46 = .ok (.ireturn, 1) := by decide +kernel
theorem dX7_now_47 : decode cX7_now 47 = .ok (.aload_n 0, 1) := by decide +kernel
theorem dX7_now_48 : decode cX7_now 48 = .ok (.invokevirtual 77, 3) := by decide +kernel
theorem dX7_now_51 : decode cX7_now 51 = .ok (.ireturn, 1) := by decide +kernel
theorem dX7_now_52 : decode cX7_now 52 = .ok (.aload_n 0, 1) := by decide +kernel
theorem dX7_now_53 : decode cX7_now 53 = .ok (.iconst 5, 1) := by decide +kernel
theorem dX7_now_54 : decode cX7_now 54 = .ok (.invokevirtual 119, 3) := by decide +kernel
theorem dX7_now_57 : decode cX7_now 57 = .ok (.ireturn, 1) := by decide +kernel
theorem dX7_now_58 : decode cX7_now 58 = .ok (.aload_n 0, 1) := by decide +kernel
theorem dX7_now_59 : decode cX7_now 59 = .ok (.bipush 6, 2) := by decide +kernel
theorem dX7_now_61 : decode cX7_now 61 = .ok (.invokevirtual 119, 3) := by decide +kernel
theorem dX7_now_64 : decode cX7_now 64 = .ok (.ireturn, 1) := by decide +kernel
theorem dX7_now_65 : decode cX7_now 65 = .ok (.aload_n 0, 1) := by decide +kernel
theorem dX7_now_66 : decode cX7_now 66 = .ok (.getfield 7, 3) := by decide +kernel
theorem dX7_now_69 : decode cX7_now 69 = .ok (.bipush 6, 2) := by decide +kernel
theorem dX7_now_71 : decode cX7_now 71 = .ok (.iaload, 1) := by decide +kernel
theorem dX7_now_72 : decode cX7_now 72 = .ok (.ireturn, 1) := by decide +kernel
theorem dX7_now_73 : decode cX7_now 73 = .ok (.aload_n 0, 1) := by decide +kernel
theorem dX7_now_74 : decode cX7_now 74 = .ok (.invokevirtual 123, 3) := by decide +kernel
theorem dX7_now_77 : decode cX7_now 77 = .ok (.ireturn, 1) := by decide +kernel
theorem dX7_now_78 : decode cX7_now 78 = .ok (.aload_n 0, 1) := by decide +kernel
theorem dX7_now_79 : decode cX7_now 79 = .ok (.ldc 44, 2) := by decide +kernel
theorem dX7_now_81 : decode cX7_now 81 = .ok (.invokevirtual 53, 3) := by decide +kernel
theorem dX7_now_84 : decode cX7_now 84 = .ok (.ireturn, 1) := by decide +kernel
theorem dX7_onOf_0 : decode cX7_onOf 0 = .ok (.aload_n 0, 1) := by decide +kernel
theorem dX7_onOf_1 : decode cX7_onOf 1 = .ok (.iconst 1, 1) := by decide +kernel
theorem dX7_onOf_2 : decode cX7_onOf 2 = .ok (.aload_n 0, 1) := by decide +kernel
theorem dX7_onOf_3 : decode cX7_onOf 3 = .ok (.getfield 16, 3) := by decide +kernel
theorem dX7_onOf_6 : decode cX7_onOf 6 = .ok (.invokevirtual 126, 3) := by decide +kernel
theorem dX7_onOf_9 : decode cX7_onOf 9 = .ok (.aload_n 0, 1) := by decide +kernel
theorem dX7_onOf_10 : decode cX7_onOf 10 = .ok (.iload_n 2, 1) := by decide +kernel
theorem dX7_onOf_11 : decode cX7_onOf 11 = .ok (.invokevirtual 116, 3) := by decide +kernel
theorem dX7_onOf_14 : decode cX7_onOf 14 = .ok (.aload_n 0, 1) := by decide +kernel
theorem dX7_onOf_15 : decode cX7_onOf 15 = .ok (.iload_n 1, 1) := by decide +kernel
theorem dX7_onOf_16 : decode cX7_onOf 16 = .ok (.iload_n 3, 1) := by decide +kernel
theorem dX7_onOf_17 : decode cX7_onOf 17 = .ok (.invokevirtual 69, 3) := by decide +kernel
theorem dX7_onOf_20 : decode cX7_onOf 20 = .ok (.istore 4, 2) := by decide +kernel
theorem dX7_onOf_22 : decode cX7_onOf 22 = .ok (.aload_n 0, 1) := by decide +kernel
theorem dX7_onOf_23 : decode cX7_onOf 23 = .ok (.iconst 0, 1) := by decide +kernel
theorem dX7_onOf_24 : decode cX7_onOf 24 = .ok (.aload_n 0, 1) := by decide +kernel
theorem dX7_onOf_25 : decode cX7_onOf 25 = .ok (.getfield 16, 3) := by decide +kernel
theorem dX7_onOf_28 : decode cX7_onOf 28 = .ok (.invokevirtual 126, 3) := by decide +kernel
theorem dX7_onOf_31 : decode cX7_onOf 31 = .ok (.iload 4, 2) := by decide +kernel
theorem dX7_onOf_33 : decode cX7_onOf 33 = .ok (.ireturn, 1) := by decide +kernel
theorem dX7_on_0 : decode cX7_on 0 = .ok (.aload_n 0, 1) := by decide +kernel
theorem dX7_on_1 : decode cX7_on 1 = .ok (.iload_n 1, 1) := by decide +kernel
theorem dX7_on_2 : decode cX7_on 2 = .ok (.invokevirtual 87, 3) := by decide +kernel
theorem dX7_on_5 : decode cX7_on 5 = .ok (.ifCond .eq 22, 3) := by decide +kernel
theorem dX7_on_8 : decode cX7_on 8 = .ok (.iload_n 2, 1) := by decide +kernel
theorem dX7_on_9 : decode cX7_on 9 = .ok (.iconst 0, 1) := by decide +kernel
theorem dX7_on_10 : decode cX7_on 10 = .ok (.bipush 100, 2) := by decide +kernel
theorem dX7_on_12 : decode cX7_on 12 = .ok (.invokestatic 45, 3) := by decide +kernel
theorem dX7_on_15 : decode cX7_on 15 = .ok (.ifCond .eq 12, 3) := by decide +kernel
theorem dX7_on_18 : decode cX7_on 18 = .ok (.iload_n 3, 1) := by decide +kernel
theorem dX7_on_19 : decode cX7_on 19 = .ok (.iconst 0, 1) := by decide +kernel
theorem dX7_on_20 : decode cX7_on 20 = .ok (.iconst 1, 1) := by decide +kernel
theorem dX7_on_21 : decode cX7_on 21 = .ok (.invokestatic 45, 3) := by decide +kernel
theorem dX7_on_24 : decode cX7_on 24 = .ok (.ifCond .ne 10, 3) := by decide +kernel
theorem dX7_on_27 : decode cX7_on 27 = .ok (.aload_n 0, 1) := by decide +kernel
theorem dX7_on_28 : decode cX7_on 28 = .ok (.ldc 44, 2) := by decide +kernel
theorem dX7_on_30 : decode cX7_on 30 = .ok (.invokevirtual 53, 3) := by decide +kernel
theorem dX7_on_33 : decode cX7_on 33 = .ok (.ireturn, 1) := by decide +kernel
theorem dX7_on_34 : decode cX7_on 34 = .ok (.aload_n 0, 1) := by decide +kernel
theorem dX7_on_35 : decode cX7_on 35 = .ok (.iload_n 1, 1) := by decide +kernel
theorem dX7_on_36 : decode cX7_on 36 = .ok (.iload_n 2, 1) := by decide +kernel
theorem dX7_on_37 : decode cX7_on 37 = .ok (.iload_n 3, 1) := by decide +kernel
theorem dX7_on_38 : decode cX7_on 38 = .ok (.ifCond .ne 7, 3) := by decide +kernel
theorem dX7_on_41 : decode cX7_on 41 = .ok (.iconst 5, 1) := by decide +kernel
theorem dX7_on_42 : decode cX7_on 42 = .ok (.goto 5, 3) := by decide +kernel
theorem dX7_on_45 : decode cX7_on 45 = .ok (.bipush 6, 2) := by decide +kernel
theorem dX7_on_47 : decode cX7_on 47 = .ok (.invokevirtual 130, 3) := by decide +kernel
theorem dX7_on_50 : decode cX7_on 50 = .ok (.ireturn, 1) := by decide +kernel
theorem dX7_findNext_0 : decode cX7_findNext 0 = .ok (.aload_n 0, 1) := by decide +kernel
theorem dX7_findNext_1 : decode cX7_findNext 1 = .ok (.iconst 1, 1) := by decide +kernel
theorem dX7_findNext_2 : decode cX7_findNext 2 = .ok (.aload_n 0, 1) := by decide +kernel
theorem dX7_findNext_3 : decode cX7_findNext 3 = .ok (.getfield 16, 3) := by decide +kernel
theorem dX7_findNext_6 : decode cX7_findNext 6 = .ok (.invokevirtual 126, 3) := by decide +kernel
theorem dX7_findNext_9 : decode cX7_findNext 9 = .ok (.aload_n 0, 1) := by decide +kernel
theorem dX7_findNext_10 : decode cX7_findNext 10 = .ok (.iconst 0, 1) := by decide +kernel
theorem dX7_findNext_11 : decode cX7_findNext 11 = .ok (.putfield 133, 3) := by decide +kernel
theorem dX7_findNext_14 : decode cX7_findNext 14 = .ok (.aload_n 0, 1) := by decide +kernel
theorem dX7_findNext_15 : decode cX7_findNext 15 = .ok (.getfield 133, 3) := by decide +kernel
theorem dX7_findNext_18 : decode cX7_findNext 18 = .ok (.bipush 100, 2) := by decide +kernel
theorem dX7_findNext_20 : decode cX7_findNext 20 = .ok (.if_icmp .ge 27, 3) := by decide +kernel
theorem dX7_findNext_23 : decode cX7_findNext 23 = .ok (.aload_n 0, 1) := by decide +kernel
theorem dX7_findNext_24 : decode cX7_findNext 24 = .ok (.invokevirtual 105, 3) := by decide +kernel
theorem dX7_findNext_27 : decode cX7_findNext 27 = .ok (.ifCond .ne 20, 3) := by decide +kernel
theorem dX7_findNext_30 : decode cX7_findNext 30 = .ok (.aload_n 0, 1) := by decide +kernel
theorem dX7_findNext_31 : decode cX7_findNext 31 = .ok (.invokevirtual 112, 3) := by decide +kernel
theorem dX7_findNext_34 : decode cX7_findNext 34 = .ok (.aload_n 0, 1) := by decide +kernel
theorem dX7_findNext_35 : decode cX7_findNext 35 = .ok (.dup, 1) := by decide +kernel
theorem dX7_findNext_36 : decode cX7_findNext 36 = .ok (.getfield 133, 3) := by decide +kernel
theorem dX7_findNext_39 : decode cX7_findNext 39 = .ok (.iconst 1, 1) := by decide +kernel
theorem dX7_findNext_40 : decode cX7_findNext 40 = .ok (.iadd, 1) := by decide +kernel
theorem dX7_findNext_41 : decode cX7_findNext 41 = .ok (.putfield 133, 3) := by decide +kernel
theorem dX7_findNext_44 : decode cX7_findNext 44 = .ok (.goto (-30), 3) := by decide +kernel
theorem dX7_findNext_47 : decode cX7_findNext 47 = .ok (.aload_n 0, 1) := by decide +kernel
theorem dX7_findNext_48 : decode cX7_findNext 48 = .ok (.aload_n 0, 1) := by decide +kernel
theorem dX7_findNext_49 : decode cX7_findNext 49 = .ok (.aload_n 0, 1) := by decide +kernel
theorem dX7_findNext_50 : decode cX7_findNext 50 = .ok (.getfield 7, 3) := by decide +kernel
theorem dX7_findNext_53 : decode cX7_findNext 53 = .ok (.iconst 0, 1) := by decide +kernel
theorem dX7_findNext_54 : decode cX7_findNext 54 = .ok (.iaload, 1) := by decide +kernel
theorem dX7_findNext_55 : decode cX7_findNext 55 = .ok (.invokevirtual 101, 3) := by decide +kernel
theorem dX7_findNext_58 : decode cX7_findNext 58 = .ok (.putfield 137, 3) := by decide +kernel
theorem dX7_findNext_61 : decode cX7_findNext 61 = .ok (.aload_n 0, 1) := by decide +kernel
theorem dX7_findNext_62 : decode cX7_findNext 62 = .ok (.aload_n 0, 1) := by decide +kernel
theorem dX7_findNext_63 : decode cX7_findNext 63 = .ok (.getfield 7, 3) := by decide +kernel
theorem dX7_findNext_66 : decode cX7_findNext 66 = .ok (.iconst 1, 1) := by decide +kernel
theorem dX7_findNext_67 : decode cX7_findNext 67 = .ok (.iaload, 1) := by decide +kernel
theorem dX7_findNext_68 : decode cX7_findNext 68 = .ok (.putfield 140, 3) := by decide +kernel
theorem dX7_findNext_71 : decode cX7_findNext 71 = .ok (.aload_n 0, 1) := by decide +kernel
theorem dX7_findNext_72 : decode cX7_findNext 72 = .ok (.aload_n 0, 1) := by decide +kernel
theorem dX7_findNext_73 : decode cX7_findNext 73 = .ok (.getfield 7, 3) := by decide +kernel
theorem dX7_findNext_76 : decode cX7_findNext 76 = .ok (.iconst 0, 1) := by decide +kernel
theorem dX7_findNext_77 : decode cX7_findNext 77 = .ok (.iaload, 1) := by decide +kernel
theorem dX7_findNext_78 : decode cX7_findNext 78 = .ok (.putfield 143, 3) := by decide +kernel
theorem dX7_findNext_81 : decode cX7_findNext 81 = .ok (.aload_n 0, 1) := by decide +kernel
theorem dX7_findNext_82 : decode cX7_findNext 82 = .ok (.iconst 0, 1) := by decide +kernel
theorem dX7_findNext_83 : decode cX7_findNext 83 = .ok (.aload_n 0, 1) := by decide +kernel
theorem dX7_findNext_84 : decode cX7_findNext 84 = .ok (.getfield 16, 3) := by decide +kernel
theorem dX7_findNext_87 : decode cX7_findNext 87 = .ok (.invokevirtual 126, 3) := by decide +kernel
theorem dX7_findNext_90 : decode cX7_findNext 90 = .ok (.aload_n 0, 1) := by decide +kernel
theorem dX7_findNext_91 : decode cX7_findNext 91 = .ok (.getfield 133, 3) := by decide +kernel
theorem dX7_findNext_94 : decode cX7_findNext 94 = .ok (.bipush 100, 2) := by decide +kernel
theorem dX7_findNext_96 : decode cX7_findNext 96 = .ok (.if_icmp .ge 7, 3) := by decide +kernel
theorem dX7_findNext_99 : decode cX7_findNext 99 = .ok (.iconst 1, 1) := by decide +kernel
theorem dX7_findNext_100 : decode cX7_findNext 100 = .ok (.goto 4, 3) := by decide +kernel
theorem dX7_findNext_103 : decode cX7_findNext 103 = .ok (.iconst 0, 1) := by decide +kernel
theorem dX7_findNext_104 : decode cX7_findNext 104 = .ok (.ireturn, 1) := by decide +kernel
theorem dX7_next_0 : decode cX7_next 0 = .ok (.iload_n 1, 1) := by decide +kernel
theorem dX7_next_1 : decode cX7_next 1 = .ok (.iconst 0, 1) := by decide +kernel
theorem dX7_next_2 : decode cX7_next 2 = .ok (.iconst 3, 1) := by decide +kernel
theorem dX7_next_3 : decode cX7_next 3 = .ok (.invokestatic 45, 3) := by decide +kernel
theorem dX7_next_6 : decode cX7_next 6 = .ok (.ifCond .ne 10, 3) := by decide +kernel
theorem dX7_next_9 : decode cX7_next 9 = .ok (.aload_n 0, 1) := by decide +kernel
theorem dX7_next_10 : decode cX7_next 10 = .ok (.ldc 44, 2) := by decide +kernel
theorem dX7_next_12 : decode cX7_next 12 = .ok (.invokevirtual 53, 3) := by decide +kernel
theorem dX7_next_15 : decode cX7_next 15 = .ok (.ireturn, 1) := by decide +kernel
theorem dX7_next_16 : decode cX7_next 16 = .ok (.aload_n 0, 1) := by decide +kernel
theorem dX7_next_17 : decode cX7_next 17 = .ok (.invokevirtual 146, 3) := by decide +kernel
theorem dX7_next_20 : decode cX7_next 20 = .ok (.ifCond .ne 10, 3) := by decide +kernel
theorem dX7_next_23 : decode cX7_next 23 = .ok (.aload_n 0, 1) := by decide +kernel
theorem dX7_next_24 : decode cX7_next 24 = .ok (.ldc 149, 2) := by decide +kernel
theorem dX7_next_26 : decode cX7_next 26 = .ok (.invokevirtual 53, 3) := by decide +kernel
theorem dX7_next_29 : decode cX7_next 29 = .ok (.ireturn, 1) := by decide +kernel
theorem dX7_next_30 : decode cX7_next 30 = .ok (.iload_n 1, 1) := by decide +kernel
theorem dX7_next_31 : decode cX7_next 31 = .ok (.ifCond .ne 10, 3) := by decide +kernel
theorem dX7_next_34 : decode cX7_next 34 = .ok (.aload_n 0, 1) := by decide +kernel
theorem dX7_next_35 : decode cX7_next 35 = .ok (.getfield 133, 3) := by decide +kernel
theorem dX7_next_38 : decode cX7_next 38 = .ok (.goto 31, 3) := by decide +kernel
theorem dX7_next_41 : decode cX7_next 41 = .ok (.iload_n 1, 1) := by decide +kernel
theorem dX7_next_42 : decode cX7_next 42 = .ok (.iconst 1, 1) := by decide +kernel
theorem dX7_next_43 : decode cX7_next 43 = .ok (.if_icmp .ne 10, 3) := by decide +kernel
theorem dX7_next_46 : decode cX7_next 46 = .ok (.aload_n 0, 1) := by decide +kernel
theorem dX7_next_47 : decode cX7_next 47 = .ok (.getfield 137, 3) := by decide +kernel
theorem dX7_next_50 : decode cX7_next 50 = .ok (.goto 19, 3) := by decide +kernel
theorem dX7_next_53 : decode cX7_next 53 = .ok (.iload_n 1, 1) := by decide +kernel
theorem dX7_next_54 : decode cX7_next 54 = .ok (.iconst 2, 1) := by decide +kernel
theorem dX7_next_55 : decode cX7_next 55 = .ok (.if_icmp .ne 10, 3) := by decide +kernel
theorem dX7_next_58 : decode cX7_next 58 = .ok (.aload_n 0, 1) := by decide +kernel
theorem dX7_next_59 : decode cX7_next 59 = .ok (.getfield 140, 3) := by decide +kernel
theorem dX7_next_62 : decode cX7_next 62 = .ok (.goto 7, 3) := by decide +kernel
theorem dX7_next_65 : decode cX7_next 65 = .ok (.aload_n 0, 1) := by decide +kernel
theorem dX7_next_66 : decode cX7_next 66 = .ok (.getfield 143, 3) := by decide +kernel
theorem dX7_next_69 : decode cX7_next 69 = .ok (.ireturn, 1) := by decide +kernel
theorem dX7_struck_0 : decode cX7_struck 0 = .ok (.iload_n 1, 1) := by decide +kernel
theorem dX7_struck_1 : decode cX7_struck 1 = .ok (.invokestatic 49, 3) := by decide +kernel
theorem dX7_struck_4 : decode cX7_struck 4 = .ok (.ifCond .eq 11, 3) := by decide +kernel
theorem dX7_struck_7 : decode cX7_struck 7 = .ok (.aload_n 0, 1) := by decide +kernel
theorem dX7_struck_8 : decode cX7_struck 8 = .ok (.iload_n 1, 1) := by decide +kernel
theorem dX7_struck_9 : decode cX7_struck 9 = .ok (.invokevirtual 101, 3) := by decide +kernel
theorem dX7_struck_12 : decode cX7_struck 12 = .ok (.goto 9, 3) := by decide +kernel
theorem dX7_struck_15 : decode cX7_struck 15 = .ok (.aload_n 0, 1) := by decide +kernel
theorem dX7_struck_16 : decode cX7_struck 16 = .ok (.ldc 44, 2) := by decide +kernel
theorem dX7_struck_18 : decode cX7_struck 18 = .ok (.invokevirtual 53, 3) := by decide +kernel
theorem dX7_struck_21 : decode cX7_struck 21 = .ok (.ireturn, 1) := by decide +kernel
theorem dX7_reach_0 : decode cX7_reach 0 = .ok (.aload_n 0, 1) := by decide +kernel
theorem dX7_reach_1 : decode cX7_reach 1 = .ok (.iload_n 1, 1) := by decide +kernel
theorem dX7_reach_2 : decode cX7_reach 2 = .ok (.invokevirtual 87, 3) := by decide +kernel
theorem dX7_reach_5 : decode cX7_reach 5 = .ok (.ifCond .ne 10, 3) := by decide +kernel
theorem dX7_reach_8 : decode cX7_reach 8 = .ok (.aload_n 0, 1) := by decide +kernel
theorem dX7_reach_9 : decode cX7_reach 9 = .ok (.ldc 44, 2) := by decide +kernel
theorem dX7_reach_11 : decode cX7_reach 11 = .ok (.invokevirtual 53, 3) := by decide +kernel
theorem dX7_reach_14 : decode cX7_reach 14 = .ok (.ireturn, 1) := by decide +kernel
theorem dX7_reach_15 : decode cX7_reach 15 = .ok (.iconst 0, 1) := by decide +kernel
theorem dX7_reach_16 : decode cX7_reach 16 = .ok (.istore_n 2, 1) := by decide +kernel
theorem dX7_reach_17 : decode cX7_reach 17 = .ok (.iconst 0, 1) := by decide +kernel
theorem dX7_reach_18 : decode cX7_reach 18 = .ok (.istore_n 3, 1) := by decide +kernel
theorem dX7_reach_19 : decode cX7_reach 19 = .ok (.iload_n 3, 1) := by decide +kernel
theorem dX7_reach_20 : decode cX7_reach 20 = .ok (.bipush 16, 2) := by decide +kernel
theorem dX7_reach_22 : decode cX7_reach 22 = .ok (.if_icmp .ge 28, 3) := by decide +kernel
theorem dX7_reach_25 : decode cX7_reach 25 = .ok (.iload_n 2, 1) := by decide +kernel
theorem dX7_reach_26 : decode cX7_reach 26 = .ok (.aload_n 0, 1) := by decide +kernel
theorem dX7_reach_27 : decode cX7_reach 27 = .ok (.iload_n 3, 1) := by decide +kernel
theorem dX7_reach_28 : decode cX7_reach 28 = .ok (.invokevirtual 101, 3) := by decide +kernel
theorem dX7_reach_31 : decode cX7_reach 31 = .ok (.iload_n 1, 1) := by decide +kernel
theorem dX7_reach_32 : decode cX7_reach 32 = .ok (.if_icmp .ne 9, 3) := by decide +kernel
theorem dX7_reach_35 : decode cX7_reach 35 = .ok (.iconst 1, 1) := by decide +kernel
theorem dX7_reach_36 : decode cX7_reach 36 = .ok (.iload_n 3, 1) := by decide +kernel
theorem dX7_reach_37 : decode cX7_reach 37 = .ok (.ishl, 1) := by decide +kernel
theorem dX7_reach_38 : decode cX7_reach 38 = .ok (.goto 4, 3) := by decide +kernel
theorem dX7_reach_41 : decode cX7_reach 41 = .ok (.iconst 0, 1) := by decide +kernel
theorem dX7_reach_42 : decode cX7_reach 42 = .ok (.ior, 1) := by decide +kernel
theorem dX7_reach_43 : decode cX7_reach 43 = .ok (.istore_n 2, 1) := by decide +kernel
theorem dX7_reach_44 : decode cX7_reach 44 = .ok (.iinc 3 1, 3) := by decide +kernel
theorem dX7_reach_47 : decode cX7_reach 47 = .ok (.goto (-28), 3) := by decide +kernel
theorem dX7_reach_50 : decode cX7_reach 50 = .ok (.iload_n 2, 1) := by decide +kernel
theorem dX7_reach_51 : decode cX7_reach 51 = .ok (.ireturn, 1) := by decide +kernel
theorem dX7_isStruckBy_0 : decode cX7_isStruckBy 0 = .ok (.aload_n 0, 1) := by decide +kernel
theorem dX7_isStruckBy_1 : decode cX7_isStruckBy 1 = .ok (.iload_n 1, 1) := by decide +kernel
theorem dX7_isStruckBy_2 : decode cX7_isStruckBy 2 = .ok (.iconst 2, 1) := by decide +kernel
theorem dX7_isStruckBy_3 : decode cX7_isStruckBy 3 = .ok (.invokevirtual 69, 3) := by decide +kernel
theorem dX7_isStruckBy_6 : decode cX7_isStruckBy 6 = .ok (.istore_n 3, 1) := by decide +kernel
theorem dX7_isStruckBy_7 : decode cX7_isStruckBy 7 = .ok (.aload_n 0, 1) := by decide +kernel
theorem dX7_isStruckBy_8 : decode cX7_isStruckBy 8 = .ok (.iload_n 1, 1) := by decide +kernel
theorem dX7_isStruckBy_9 : decode cX7_isStruckBy 9 = .ok (.iconst 2, 1) := by decide +kernel
theorem dX7_isStruckBy_10 : decode cX7_isStruckBy 10 = .ok (.iload_n 2, 1) := by decide +kernel
theorem dX7_isStruckBy_11 : decode cX7_isStruckBy 11 = .ok (.invokevirtual 57, 3) := by decide +kernel
theorem dX7_isStruckBy_14 : decode cX7_isStruckBy 14 = .ok (.aload_n 0, 1) := by decide +kernel
theorem dX7_isStruckBy_15 : decode cX7_isStruckBy 15 = .ok (.invokevirtual 146, 3) := by decide +kernel
theorem dX7_isStruckBy_18 : decode cX7_isStruckBy 18 = .ok (.ifCond .eq 15, 3) := by decide +kernel
theorem dX7_isStruckBy_21 : decode cX7_isStruckBy 21 = .ok (.aload_n 0, 1) := by decide +kernel
theorem dX7_isStruckBy_22 : decode cX7_isStruckBy 22 = .ok (.getfield 137, 3) := by decide +kernel
theorem dX7_isStruckBy_25 : decode cX7_isStruckBy 25 = .ok (.iload_n 1, 1) := by decide +kernel
theorem dX7_isStruckBy_26 : decode cX7_isStruckBy 26 = .ok (.if_icmp .ne 7, 3) := by decide +kernel
theorem dX7_isStruckBy_29 : decode cX7_isStruckBy 29 = .ok (.iconst 1, 1) := by decide +kernel
theorem dX7_isStruckBy_30 : decode cX7_isStruckBy 30 = .ok (.goto 4, 3) := by decide +kernel
theorem dX7_isStruckBy_33 : decode cX7_isStruckBy 33 = .ok (.iconst 0, 1) := by decide +kernel
theorem dX7_isStruckBy_34 : decode cX7_isStruckBy 34 = .ok (.istore 4, 2) := by decide +kernel
theorem dX7_isStruckBy_36 : decode cX7_isStruckBy 36 = .ok (.aload_n 0, 1) := by decide +kernel
theorem dX7_isStruckBy_37 : decode cX7_isStruckBy 37 = .ok (.iload_n 1, 1) := by decide +kernel
theorem dX7_isStruckBy_38 : decode cX7_isStruckBy 38 = .ok (.iconst 2, 1) := by decide +kernel
theorem dX7_isStruckBy_39 : decode cX7_isStruckBy 39 = .ok (.iload_n 3, 1) := by decide +kernel
theorem dX7_isStruckBy_40 : decode cX7_isStruckBy 40 = .ok (.invokevirtual 57, 3) := by decide +kernel
theorem dX7_isStruckBy_43 : decode cX7_isStruckBy 43 = .ok (.iload 4, 2) := by decide +kernel
theorem dX7_isStruckBy_45 : decode cX7_isStruckBy 45 = .ok (.ireturn, 1) := by decide +kernel
theorem dX7_steals_0 : decode cX7_steals 0 = .ok (.aload_n 0, 1) := by decide +kernel
theorem dX7_steals_1 : decode cX7_steals 1 = .ok (.iload_n 1, 1) := by decide +kernel
theorem dX7_steals_2 : decode cX7_steals 2 = .ok (.invokevirtual 87, 3) := by decide +kernel
theorem dX7_steals_5 : decode cX7_steals 5 = .ok (.ifCond .ne 10, 3) := by decide +kernel
theorem dX7_steals_8 : decode cX7_steals 8 = .ok (.aload_n 0, 1) := by decide +kernel
theorem dX7_steals_9 : decode cX7_steals 9 = .ok (.ldc 44, 2) := by decide +kernel
theorem dX7_steals_11 : decode cX7_steals 11 = .ok (.invokevirtual 53, 3) := by decide +kernel
theorem dX7_steals_14 : decode cX7_steals 14 = .ok (.ireturn, 1) := by decide +kernel
theorem dX7_steals_15 : decode cX7_steals 15 = .ok (.iconst 0, 1) := by decide +kernel
theorem dX7_steals_16 : decode cX7_steals 16 = .ok (.istore_n 2, 1) := by decide +kernel
theorem dX7_steals_17 : decode cX7_steals 17 = .ok (.iload_n 2, 1) := by decide +kernel
theorem dX7_steals_18 : decode cX7_steals 18 = .ok (.bipush 60, 2) := by decide +kernel
theorem dX7_steals_20 : decode cX7_steals 20 = .ok (.if_icmp .gt 18, 3) := by decide +kernel
theorem dX7_steals_23 : decode cX7_steals 23 = .ok (.aload_n 0, 1) := by decide +kernel
theorem dX7_steals_24 : decode cX7_steals 24 = .ok (.iload_n 1, 1) := by decide +kernel
theorem dX7_steals_25 : decode cX7_steals 25 = .ok (.iload_n 2, 1) := by decide +kernel
theorem dX7_steals_26 : decode cX7_steals 26 = .ok (.invokevirtual 150, 3) := by decide +kernel
theorem dX7_steals_29 : decode cX7_steals 29 = .ok (.ifCond .ne 9, 3) := by decide +kernel
theorem dX7_steals_32 : decode cX7_steals 32 = .ok (.iinc 2 1, 3) := by decide +kernel
theorem dX7_steals_35 : decode cX7_steals 35 = .ok (.goto (-18), 3) := by decide +kernel
theorem dX7_steals_38 : decode cX7_steals 38 = .ok (.iload_n 2, 1) := by decide +kernel
theorem dX7_steals_39 : decode cX7_steals 39 = .ok (.bipush 60, 2) := by decide +kernel
theorem dX7_steals_41 : decode cX7_steals 41 = .ok (.if_icmp .le 12, 3) := by decide +kernel
theorem dX7_steals_44 : decode cX7_steals 44 = .ok (.aload_n 0, 1) := by decide +kernel
theorem dX7_steals_45 : decode cX7_steals 45 = .ok (.ldc 149, 2) := by decide +kernel
theorem dX7_steals_47 : decode cX7_steals 47 = .ok (.invokevirtual 53, 3) := by decide +kernel
theorem dX7_steals_50 : decode cX7_steals 50 = .ok (.goto 4, 3) := by decide +kernel
theorem dX7_steals_53 : decode cX7_steals 53 = .ok (.iload_n 2, 1) := by decide +kernel
theorem dX7_steals_54 : decode cX7_steals 54 = .ok (.ireturn, 1) := by decide +kernel
theorem dX7_ducks_0 : decode cX7_ducks 0 = .ok (.aload_n 0, 1) := by decide +kernel
theorem dX7_ducks_1 : decode cX7_ducks 1 = .ok (.iload_n 1, 1) := by decide +kernel
theorem dX7_ducks_2 : decode cX7_ducks 2 = .ok (.invokevirtual 87, 3) := by decide +kernel
theorem dX7_ducks_5 : decode cX7_ducks 5 = .ok (.ifCond .ne 10, 3) := by decide +kernel
theorem dX7_ducks_8 : decode cX7_ducks 8 = .ok (.aload_n 0, 1) := by decide +kernel
theorem dX7_ducks_9 : decode cX7_ducks 9 = .ok (.ldc 44, 2) := by decide +kernel
theorem dX7_ducks_11 : decode cX7_ducks 11 = .ok (.invokevirtual 53, 3) := by decide +kernel
theorem dX7_ducks_14 : decode cX7_ducks 14 = .ok (.ireturn, 1) := by decide +kernel
theorem dX7_ducks_15 : decode cX7_ducks 15 = .ok (.bipush 60, 2) := by decide +kernel
theorem dX7_ducks_17 : decode cX7_ducks 17 = .ok (.istore_n 2, 1) := by decide +kernel
theorem dX7_ducks_18 : decode cX7_ducks 18 = .ok (.iload_n 2, 1) := by decide +kernel
theorem dX7_ducks_19 : decode cX7_ducks 19 = .ok (.ifCond .lt 18, 3) := by decide +kernel
theorem dX7_ducks_22 : decode cX7_ducks 22 = .ok (.aload_n 0, 1) := by decide +kernel
theorem dX7_ducks_23 : decode cX7_ducks 23 = .ok (.iload_n 1, 1) := by decide +kernel
theorem dX7_ducks_24 : decode cX7_ducks 24 = .ok (.iload_n 2, 1) := by decide +kernel
theorem dX7_ducks_25 : decode cX7_ducks 25 = .ok (.invokevirtual 150, 3) := by decide +kernel
theorem dX7_ducks_28 : decode cX7_ducks 28 = .ok (.ifCond .eq 9, 3) := by decide +kernel
theorem dX7_ducks_31 : decode cX7_ducks 31 = .ok (.iinc 2 (-1), 3) := by decide +kernel
theorem dX7_ducks_34 : decode cX7_ducks 34 = .ok (.goto (-16), 3) := by decide +kernel
theorem dX7_ducks_37 : decode cX7_ducks 37 = .ok (.iload_n 2, 1) := by decide +kernel
theorem dX7_ducks_38 : decode cX7_ducks 38 = .ok (.ifCond .ge 12, 3) := by decide +kernel
theorem dX7_ducks_41 : decode cX7_ducks 41 = .ok (.aload_n 0, 1) := by decide +kernel
theorem dX7_ducks_42 : decode cX7_ducks 42 = .ok (.ldc 149, 2) := by decide +kernel
theorem dX7_ducks_44 : decode cX7_ducks 44 = .ok (.invokevirtual 53, 3) := by decide +kernel
theorem dX7_ducks_47 : decode cX7_ducks 47 = .ok (.goto 4, 3) := by decide +kernel
theorem dX7_ducks_50 : decode cX7_ducks 50 = .ok (.iload_n 2, 1) := by decide +kernel
theorem dX7_ducks_51 : decode cX7_ducks 51 = .ok (.ireturn, 1) := by decide +kernel
theorem dX7_place_0 : decode cX7_place 0 = .ok (.aload_n 0, 1) := by decide +kernel
theorem dX7_place_1 : decode cX7_place 1 = .ok (.iload_n 1, 1) := by decide +kernel
theorem dX7_place_2 : decode cX7_place 2 = .ok (.invokevirtual 87, 3) := by decide +kernel
theorem dX7_place_5 : decode cX7_place 5 = .ok (.ifCond .eq 13, 3) := by decide +kernel
theorem dX7_place_8 : decode cX7_place 8 = .ok (.iload_n 2, 1) := by decide +kernel
theorem dX7_place_9 : decode cX7_place 9 = .ok (.iconst 0, 1) := by decide +kernel
theorem dX7_place_10 : decode cX7_place 10 = .ok (.bipush 100, 2) := by decide +kernel
theorem dX7_place_12 : decode cX7_place 12 = .ok (.invokestatic 45, 3) := by decide +kernel
theorem dX7_place_15 : decode cX7_place 15 = .ok (.ifCond .ne 10, 3) := by decide +kernel
theorem dX7_place_18 : decode cX7_place 18 = .ok (.aload_n 0, 1) := by decide +kernel
theorem dX7_place_19 : decode cX7_place 19 = .ok (.ldc 44, 2) := by decide +kernel
theorem dX7_place_21 : decode cX7_place 21 = .ok (.invokevirtual 53, 3) := by decide +kernel
theorem dX7_place_24 : decode cX7_place 24 = .ok (.ireturn, 1) := by decide +kernel
theorem dX7_place_25 : decode cX7_place 25 = .ok (.aload_n 0, 1) := by decide +kernel
theorem dX7_place_26 : decode cX7_place 26 = .ok (.iload_n 1, 1) := by decide +kernel
theorem dX7_place_27 : decode cX7_place 27 = .ok (.iconst 1, 1) := by decide +kernel
theorem dX7_place_28 : decode cX7_place 28 = .ok (.invokevirtual 69, 3) := by decide +kernel
theorem dX7_place_31 : decode cX7_place 31 = .ok (.istore_n 3, 1) := by decide +kernel
theorem dX7_place_32 : decode cX7_place 32 = .ok (.iconst 0, 1) := by decide +kernel
theorem dX7_place_33 : decode cX7_place 33 = .ok (.istore 4, 2) := by decide +kernel
theorem dX7_place_35 : decode cX7_place 35 = .ok (.iconst (-1), 1) := by decide +kernel
theorem dX7_place_36 : decode cX7_place 36 = .ok (.istore 5, 2) := by decide +kernel
theorem dX7_place_38 : decode cX7_place 38 = .ok (.iconst 0, 1) := by decide +kernel
theorem dX7_place_39 : decode cX7_place 39 = .ok (.istore 6, 2) := by decide +kernel
theorem dX7_place_41 : decode cX7_place 41 = .ok (.iload 6, 2) := by decide +kernel
theorem dX7_place_43 : decode cX7_place 43 = .ok (.bipush 16, 2) := by decide +kernel
theorem dX7_place_45 : decode cX7_place 45 = .ok (.if_icmp .ge 59, 3) := by decide +kernel
theorem dX7_place_48 : decode cX7_place 48 = .ok (.aload_n 0, 1) := by decide +kernel
theorem dX7_place_49 : decode cX7_place 49 = .ok (.iload_n 1, 1) := by decide +kernel
theorem dX7_place_50 : decode cX7_place 50 = .ok (.iconst 1, 1) := by decide +kernel
theorem dX7_place_51 : decode cX7_place 51 = .ok (.iload 6, 2) := by decide +kernel
theorem dX7_place_53 : decode cX7_place 53 = .ok (.invokevirtual 57, 3) := by decide +kernel
theorem dX7_place_56 : decode cX7_place 56 = .ok (.aload_n 0, 1) := by decide +kernel
theorem dX7_place_57 : decode cX7_place 57 = .ok (.iload_n 1, 1) := by decide +kernel
theorem dX7_place_58 : decode cX7_place 58 = .ok (.iload_n 2, 1) := by decide +kernel
theorem dX7_place_59 : decode cX7_place 59 = .ok (.bipush 6, 2) := by decide +kernel
theorem dX7_place_61 : decode cX7_place 61 = .ok (.invokevirtual 130, 3) := by decide +kernel
theorem dX7_place_64 : decode cX7_place 64 = .ok (.istore 7, 2) := by decide +kernel
theorem dX7_place_66 : decode cX7_place 66 = .ok (.iload 7, 2) := by decide +kernel
theorem dX7_place_68 : decode cX7_place 68 = .ok (.iload 5, 2) := by decide +kernel
theorem dX7_place_70 : decode cX7_place 70 = .ok (.if_icmp .le 8, 3) := by decide +kernel
theorem dX7_place_73 : decode cX7_place 73 = .ok (.iload 6, 2) := by decide +kernel
theorem dX7_place_75 : decode cX7_place 75 = .ok (.goto 5, 3) := by decide +kernel
theorem dX7_place_78 : decode cX7_place 78 = .ok (.iload 4, 2) := by decide +kernel
theorem dX7_place_80 : decode cX7_place 80 = .ok (.istore 4, 2) := by decide +kernel
theorem dX7_place_82 : decode cX7_place 82 = .ok (.iload 7, 2) := by decide +kernel
theorem dX7_place_84 : decode cX7_place 84 = .ok (.iload 5, 2) := by decide +kernel
theorem dX7_place_86 : decode cX7_place 86 = .ok (.if_icmp .le 8, 3) := by decide +kernel
theorem dX7_place_89 : decode cX7_place 89 = .ok (.iload 7, 2) := by decide +kernel
theorem dX7_place_91 : decode cX7_place 91 = .ok (.goto 5, 3) := by decide +kernel
theorem dX7_place_94 : decode cX7_place 94 = .ok (.iload 5, 2) := by decide +kernel
theorem dX7_place_96 : decode cX7_place 96 = .ok (.istore 5, 2) := by decide +kernel
theorem dX7_place_98 : decode cX7_place 98 = .ok (.iinc 6 1, 3) := by decide +kernel
theorem dX7_place_101 : decode cX7_place 101 = .ok (.goto (-60), 3) := by decide +kernel
theorem dX7_place_104 : decode cX7_place 104 = .ok (.aload_n 0, 1) := by decide +kernel
theorem dX7_place_105 : decode cX7_place 105 = .ok (.iload_n 1, 1) := by decide +kernel
theorem dX7_place_106 : decode cX7_place 106 = .ok (.iconst 1, 1) := by decide +kernel
theorem dX7_place_107 : decode cX7_place 107 = .ok (.iload_n 3, 1) := by decide +kernel
theorem dX7_place_108 : decode cX7_place 108 = .ok (.invokevirtual 57, 3) := by decide +kernel
theorem dX7_place_111 : decode cX7_place 111 = .ok (.iload 4, 2) := by decide +kernel
theorem dX7_place_113 : decode cX7_place 113 = .ok (.ireturn, 1) := by decide +kernel
theorem dX7_thief_0 : decode cX7_thief 0 = .ok (.aload_n 0, 1) := by decide +kernel
theorem dX7_thief_1 : decode cX7_thief 1 = .ok (.iload_n 1, 1) := by decide +kernel
theorem dX7_thief_2 : decode cX7_thief 2 = .ok (.invokevirtual 87, 3) := by decide +kernel
theorem dX7_thief_5 : decode cX7_thief 5 = .ok (.ifCond .eq 13, 3) := by decide +kernel
theorem dX7_thief_8 : decode cX7_thief 8 = .ok (.iload_n 2, 1) := by decide +kernel
theorem dX7_thief_9 : decode cX7_thief 9 = .ok (.iconst 0, 1) := by decide +kernel
theorem dX7_thief_10 : decode cX7_thief 10 = .ok (.bipush 60, 2) := by decide +kernel
theorem dX7_thief_12 : decode cX7_thief 12 = .ok (.invokestatic 45, 3) := by decide +kernel
theorem dX7_thief_15 : decode cX7_thief 15 = .ok (.ifCond .ne 10, 3) := by decide +kernel
theorem dX7_thief_18 : decode cX7_thief 18 = .ok (.aload_n 0, 1) := by decide +kernel
theorem dX7_thief_19 : decode cX7_thief 19 = .ok (.ldc 44, 2) := by decide +kernel
theorem dX7_thief_21 : decode cX7_thief 21 = .ok (.invokevirtual 53, 3) := by decide +kernel
theorem dX7_thief_24 : decode cX7_thief 24 = .ok (.ireturn, 1) := by decide +kernel
theorem dX7_thief_25 : decode cX7_thief 25 = .ok (.iconst (-1), 1) := by decide +kernel
theorem dX7_thief_26 : decode cX7_thief 26 = .ok (.istore_n 3, 1) := by decide +kernel
theorem dX7_thief_27 : decode cX7_thief 27 = .ok (.aload_n 0, 1) := by decide +kernel
theorem dX7_thief_28 : decode cX7_thief 28 = .ok (.iload_n 1, 1) := by decide +kernel
theorem dX7_thief_29 : decode cX7_thief 29 = .ok (.iload_n 2, 1) := by decide +kernel
theorem dX7_thief_30 : decode cX7_thief 30 = .ok (.bipush 6, 2) := by decide +kernel
theorem dX7_thief_32 : decode cX7_thief 32 = .ok (.invokevirtual 130, 3) := by decide +kernel
theorem dX7_thief_35 : decode cX7_thief 35 = .ok (.istore 4, 2) := by decide +kernel
theorem dX7_thief_37 : decode cX7_thief 37 = .ok (.aload_n 0, 1) := by decide +kernel
theorem dX7_thief_38 : decode cX7_thief 38 = .ok (.iconst 1, 1) := by decide +kernel
theorem dX7_thief_39 : decode cX7_thief 39 = .ok (.aload_n 0, 1) := by decide +kernel
theorem dX7_thief_40 : decode cX7_thief 40 = .ok (.getfield 19, 3) := by decide +kernel
theorem dX7_thief_43 : decode cX7_thief 43 = .ok (.invokevirtual 126, 3) := by decide +kernel
theorem dX7_thief_46 : decode cX7_thief 46 = .ok (.aload_n 0, 1) := by decide +kernel
theorem dX7_thief_47 : decode cX7_thief 47 = .ok (.getfield 7, 3) := by decide +kernel
theorem dX7_thief_50 : decode cX7_thief 50 = .ok (.bipush 8, 2) := by decide +kernel
theorem dX7_thief_52 : decode cX7_thief 52 = .ok (.iaload, 1) := by decide +kernel
theorem dX7_thief_53 : decode cX7_thief 53 = .ok (.istore 5, 2) := by decide +kernel
theorem dX7_thief_55 : decode cX7_thief 55 = .ok (.iconst 0, 1) := by decide +kernel
theorem dX7_thief_56 : decode cX7_thief 56 = .ok (.istore 6, 2) := by decide +kernel
theorem dX7_thief_58 : decode cX7_thief 58 = .ok (.iload 6, 2) := by decide +kernel
theorem dX7_thief_60 : decode cX7_thief 60 = .ok (.iload 5, 2) := by decide +kernel
theorem dX7_thief_62 : decode cX7_thief 62 = .ok (.if_icmp .ge 82, 3) := by decide +kernel
theorem dX7_thief_65 : decode cX7_thief 65 = .ok (.iload 6, 2) := by decide +kernel
theorem dX7_thief_67 : decode cX7_thief 67 = .ok (.iload_n 1, 1) := by decide +kernel
theorem dX7_thief_68 : decode cX7_thief 68 = .ok (.if_icmp .eq 70, 3) := by decide +kernel
theorem dX7_thief_71 : decode cX7_thief 71 = .ok (.aload_n 0, 1) := by decide +kernel
theorem dX7_thief_72 : decode cX7_thief 72 = .ok (.iload 6, 2) := by decide +kernel
theorem dX7_thief_74 : decode cX7_thief 74 = .ok (.invokevirtual 97, 3) := by decide +kernel
theorem dX7_thief_77 : decode cX7_thief 77 = .ok (.aload_n 0, 1) := by decide +kernel
theorem dX7_thief_78 : decode cX7_thief 78 = .ok (.iload 6, 2) := by decide +kernel
theorem dX7_thief_80 : decode cX7_thief 80 = .ok (.iload_n 1, 1) := by decide +kernel
theorem dX7_thief_81 : decode cX7_thief 81 = .ok (.if_icmp .ge 9, 3) := by decide +kernel
theorem dX7_thief_84 : decode cX7_thief 84 = .ok (.iload_n 1, 1) := by decide +kernel
theorem dX7_thief_85 : decode cX7_thief 85 = .ok (.iconst 1, 1) := by decide +kernel
theorem dX7_thief_86 : decode cX7_thief 86 = .ok (.isub, 1) := by decide +kernel
theorem dX7_thief_87 : decode cX7_thief 87 = .ok (.goto 4, 3) := by decide +kernel
theorem dX7_thief_90 : decode cX7_thief 90 = .ok (.iload_n 1, 1) := by decide +kernel
theorem dX7_thief_91 : decode cX7_thief 91 = .ok (.iload_n 2, 1) := by decide +kernel
theorem dX7_thief_92 : decode cX7_thief 92 = .ok (.bipush 6, 2) := by decide +kernel
theorem dX7_thief_94 : decode cX7_thief 94 = .ok (.invokevirtual 130, 3) := by decide +kernel
theorem dX7_thief_97 : decode cX7_thief 97 = .ok (.istore 7, 2) := by decide +kernel
theorem dX7_thief_99 : decode cX7_thief 99 = .ok (.iload 7, 2) := by decide +kernel
theorem dX7_thief_101 : decode cX7_thief 101 = .ok (.iload 4, 2) := by decide +kernel
theorem dX7_thief_103 : decode cX7_thief 103 = .ok (.if_icmp .le 8, 3) := by decide +kernel
theorem dX7_thief_106 : decode cX7_thief 106 = .ok (.iload 6, 2) := by decide +kernel
theorem dX7_thief_108 : decode cX7_thief 108 = .ok (.goto 4, 3) := by decide +kernel
theorem dX7_thief_111 : decode cX7_thief 111 = .ok (.iload_n 3, 1) := by decide +kernel
theorem dX7_thief_112 : decode cX7_thief 112 = .ok (.istore_n 3, 1) := by decide +kernel
theorem dX7_thief_113 : decode cX7_thief 113 = .ok (.iload 7, 2) := by decide +kernel
theorem dX7_thief_115 : decode cX7_thief 115 = .ok (.iload 4, 2) := by decide +kernel
theorem dX7_thief_117 : decode cX7_thief 117 = .ok (.if_icmp .le 8, 3) := by decide +kernel
theorem dX7_thief_120 : decode cX7_thief 120 = .ok (.iload 7, 2) := by decide +kernel
theorem dX7_thief_122 : decode cX7_thief 122 = .ok (.goto 5, 3) := by decide +kernel
theorem dX7_thief_125 : decode cX7_thief 125 = .ok (.iload 4, 2) := by decide +kernel
theorem dX7_thief_127 : decode cX7_thief 127 = .ok (.istore 4, 2) := by decide +kernel
theorem dX7_thief_129 : decode cX7_thief 129 = .ok (.aload_n 0, 1) := by decide +kernel
theorem dX7_thief_130 : decode cX7_thief 130 = .ok (.iconst 0, 1) := by decide +kernel
theorem dX7_thief_131 : decode cX7_thief 131 = .ok (.aload_n 0, 1) := by decide +kernel
theorem dX7_thief_132 : decode cX7_thief 132 = .ok (.getfield 19, 3) := by decide +kernel
theorem dX7_thief_135 : decode cX7_thief 135 = .ok (.invokevirtual 126, 3) := by decide +kernel
theorem dX7_thief_138 : decode cX7_thief 138 = .ok (.iinc 6 1, 3) := by decide +kernel
theorem dX7_thief_141 : decode cX7_thief 141 = .ok (.goto (-83), 3) := by decide +kernel
theorem dX7_thief_144 : decode cX7_thief 144 = .ok (.iload_n 3, 1) := by decide +kernel
theorem dX7_thief_145 : decode cX7_thief 145 = .ok (.ifCond .ge 12, 3) := by decide +kernel
theorem dX7_thief_148 : decode cX7_thief 148 = .ok (.aload_n 0, 1) := by decide +kernel
theorem dX7_thief_149 : decode cX7_thief 149 = .ok (.ldc 149, 2) := by decide +kernel
theorem dX7_thief_151 : decode cX7_thief 151 = .ok (.invokevirtual 53, 3) := by decide +kernel
theorem dX7_thief_154 : decode cX7_thief 154 = .ok (.goto 4, 3) := by decide +kernel
theorem dX7_thief_157 : decode cX7_thief 157 = .ok (.iload_n 3, 1) := by decide +kernel
theorem dX7_thief_158 : decode cX7_thief 158 = .ok (.ireturn, 1) := by decide +kernel
theorem dX7_kind_0 : decode cX7_kind 0 = .ok (.aload_n 0, 1) := by decide +kernel
theorem dX7_kind_1 : decode cX7_kind 1 = .ok (.iload_n 1, 1) := by decide +kernel
theorem dX7_kind_2 : decode cX7_kind 2 = .ok (.invokevirtual 87, 3) := by decide +kernel
theorem dX7_kind_5 : decode cX7_kind 5 = .ok (.ifCond .eq 13, 3) := by decide +kernel
theorem dX7_kind_8 : decode cX7_kind 8 = .ok (.iload_n 2, 1) := by decide +kernel
theorem dX7_kind_9 : decode cX7_kind 9 = .ok (.iconst 0, 1) := by decide +kernel
theorem dX7_kind_10 : decode cX7_kind 10 = .ok (.bipush 60, 2) := by decide +kernel
theorem dX7_kind_12 : decode cX7_kind 12 = .ok (.invokestatic 45, 3) := by decide +kernel
theorem dX7_kind_15 : decode cX7_kind 15 = .ok (.ifCond .ne 10, 3) := by decide +kernel
theorem dX7_kind_18 : decode cX7_kind 18 = .ok (.aload_n 0, 1) := by decide +kernel
theorem dX7_kind_19 : decode cX7_kind 19 = .ok (.ldc 44, 2) := by decide +kernel
theorem dX7_kind_21 : decode cX7_kind 21 = .ok (.invokevirtual 53, 3) := by decide +kernel
theorem dX7_kind_24 : decode cX7_kind 24 = .ok (.ireturn, 1) := by decide +kernel
theorem dX7_kind_25 : decode cX7_kind 25 = .ok (.aload_n 0, 1) := by decide +kernel
theorem dX7_kind_26 : decode cX7_kind 26 = .ok (.iload_n 1, 1) := by decide +kernel
theorem dX7_kind_27 : decode cX7_kind 27 = .ok (.iconst 0, 1) := by decide +kernel
theorem dX7_kind_28 : decode cX7_kind 28 = .ok (.invokevirtual 69, 3) := by decide +kernel
theorem dX7_kind_31 : decode cX7_kind 31 = .ok (.istore_n 3, 1) := by decide +kernel
theorem dX7_kind_32 : decode cX7_kind 32 = .ok (.iconst (-1), 1) := by decide +kernel
theorem dX7_kind_33 : decode cX7_kind 33 = .ok (.istore 4, 2) := by decide +kernel
theorem dX7_kind_35 : decode cX7_kind 35 = .ok (.iconst 0, 1) := by decide +kernel
theorem dX7_kind_36 : decode cX7_kind 36 = .ok (.istore 5, 2) := by decide +kernel
theorem dX7_kind_38 : decode cX7_kind 38 = .ok (.iconst 0, 1) := by decide +kernel
theorem dX7_kind_39 : decode cX7_kind 39 = .ok (.istore 6, 2) := by decide +kernel
theorem dX7_kind_41 : decode cX7_kind 41 = .ok (.iconst 0, 1) := by decide +kernel
theorem dX7_kind_42 : decode cX7_kind 42 = .ok (.istore 7, 2) := by decide +kernel
theorem dX7_kind_44 : decode cX7_kind 44 = .ok (.iload 7, 2) := by decide +kernel
theorem dX7_kind_46 : decode cX7_kind 46 = .ok (.iconst 5, 1) := by decide +kernel
theorem dX7_kind_47 : decode cX7_kind 47 = .ok (.if_icmp .gt 111, 3) := by decide +kernel
theorem dX7_kind_50 : decode cX7_kind 50 = .ok (.aload_n 0, 1) := by decide +kernel
theorem dX7_kind_51 : decode cX7_kind 51 = .ok (.iload_n 1, 1) := by decide +kernel
theorem dX7_kind_52 : decode cX7_kind 52 = .ok (.iconst 0, 1) := by decide +kernel
theorem dX7_kind_53 : decode cX7_kind 53 = .ok (.iload 7, 2) := by decide +kernel
theorem dX7_kind_55 : decode cX7_kind 55 = .ok (.invokevirtual 57, 3) := by decide +kernel
theorem dX7_kind_58 : decode cX7_kind 58 = .ok (.aload_n 0, 1) := by decide +kernel
theorem dX7_kind_59 : decode cX7_kind 59 = .ok (.iload_n 1, 1) := by decide +kernel
theorem dX7_kind_60 : decode cX7_kind 60 = .ok (.iload_n 2, 1) := by decide +kernel
theorem dX7_kind_61 : decode cX7_kind 61 = .ok (.bipush 6, 2) := by decide +kernel
theorem dX7_kind_63 : decode cX7_kind 63 = .ok (.invokevirtual 130, 3) := by decide +kernel
theorem dX7_kind_66 : decode cX7_kind 66 = .ok (.istore 8, 2) := by decide +kernel
theorem dX7_kind_68 : decode cX7_kind 68 = .ok (.aload_n 0, 1) := by decide +kernel
theorem dX7_kind_69 : decode cX7_kind 69 = .ok (.iload_n 1, 1) := by decide +kernel
theorem dX7_kind_70 : decode cX7_kind 70 = .ok (.iload_n 2, 1) := by decide +kernel
theorem dX7_kind_71 : decode cX7_kind 71 = .ok (.iconst 5, 1) := by decide +kernel
theorem dX7_kind_72 : decode cX7_kind 72 = .ok (.invokevirtual 130, 3) := by decide +kernel
theorem dX7_kind_75 : decode cX7_kind 75 = .ok (.istore 9, 2) := by decide +kernel
theorem dX7_kind_77 : decode cX7_kind 77 = .ok (.iload 4, 2) := by decide +kernel
theorem dX7_kind_79 : decode cX7_kind 79 = .ok (.ifCond .lt 24, 3) := by decide +kernel
theorem dX7_kind_82 : decode cX7_kind 82 = .ok (.iload 8, 2) := by decide +kernel
theorem dX7_kind_84 : decode cX7_kind 84 = .ok (.iload 5, 2) := by decide +kernel
theorem dX7_kind_86 : decode cX7_kind 86 = .ok (.if_icmp .gt 17, 3) := by decide +kernel
theorem dX7_kind_89 : decode cX7_kind 89 = .ok (.iload 8, 2) := by decide +kernel
theorem dX7_kind_91 : decode cX7_kind 91 = .ok (.iload 5, 2) := by decide +kernel
theorem dX7_kind_93 : decode cX7_kind 93 = .ok (.if_icmp .ne 14, 3) := by decide +kernel
theorem dX7_kind_96 : decode cX7_kind 96 = .ok (.iload 9, 2) := by decide +kernel
theorem dX7_kind_98 : decode cX7_kind 98 = .ok (.iload 6, 2) := by decide +kernel
theorem dX7_kind_100 : decode cX7_kind 100 = .ok (.if_icmp .ge 7, 3) := by decide +kernel
theorem dX7_kind_103 : decode cX7_kind 103 = .ok (.iconst 1, 1) := by decide +kernel
theorem dX7_kind_104 : decode cX7_kind 104 = .ok (.goto 4, 3) := by decide +kernel
theorem dX7_kind_107 : decode cX7_kind 107 = .ok (.iconst 0, 1) := by decide +kernel
theorem dX7_kind_108 : decode cX7_kind 108 = .ok (.istore 10, 2) := by decide +kernel
theorem dX7_kind_110 : decode cX7_kind 110 = .ok (.iload 10, 2) := by decide +kernel
theorem dX7_kind_112 : decode cX7_kind 112 = .ok (.ifCond .eq 8, 3) := by decide +kernel
theorem dX7_kind_115 : decode cX7_kind 115 = .ok (.iload 7, 2) := by decide +kernel
theorem dX7_kind_117 : decode cX7_kind 117 = .ok (.goto 5, 3) := by decide +kernel
theorem dX7_kind_120 : decode cX7_kind 120 = .ok (.iload 4, 2) := by decide +kernel
theorem dX7_kind_122 : decode cX7_kind 122 = .ok (.istore 4, 2) := by decide +kernel
theorem dX7_kind_124 : decode cX7_kind 124 = .ok (.iload 10, 2) := by decide +kernel
theorem dX7_kind_126 : decode cX7_kind 126 = .ok (.ifCond .eq 8, 3) := by decide +kernel
theorem dX7_kind_129 : decode cX7_kind 129 = .ok (.iload 8, 2) := by decide +kernel
theorem dX7_kind_131 : decode cX7_kind 131 = .ok (.goto 5, 3) := by decide +kernel
theorem dX7_kind_134 : decode cX7_kind 134 = .ok (.iload 5, 2) := by decide +kernel
theorem dX7_kind_136 : decode cX7_kind 136 = .ok (.istore 5, 2) := by decide +kernel
theorem dX7_kind_138 : decode cX7_kind 138 = .ok (.iload 10, 2) := by decide +kernel
theorem dX7_kind_140 : decode cX7_kind 140 = .ok (.ifCond .eq 8, 3) := by decide +kernel
theorem dX7_kind_143 : decode cX7_kind 143 = .ok (.iload 9, 2) := by decide +kernel
theorem dX7_kind_145 : decode cX7_kind 145 = .ok (.goto 5, 3) := by decide +kernel
theorem dX7_kind_148 : decode cX7_kind 148 = .ok (.iload 6, 2) := by decide +kernel
theorem dX7_kind_150 : decode cX7_kind 150 = .ok (.istore 6, 2) := by decide +kernel
theorem dX7_kind_152 : decode cX7_kind 152 = .ok (.iinc 7 1, 3) := by decide +kernel
theorem dX7_kind_155 : decode cX7_kind 155 = .ok (.goto (-111), 3) := by decide +kernel
theorem dX7_kind_158 : decode cX7_kind 158 = .ok (.aload_n 0, 1) := by decide +kernel
theorem dX7_kind_159 : decode cX7_kind 159 = .ok (.iload_n 1, 1) := by decide +kernel
theorem dX7_kind_160 : decode cX7_kind 160 = .ok (.iconst 0, 1) := by decide +kernel
theorem dX7_kind_161 : decode cX7_kind 161 = .ok (.iload_n 3, 1) := by decide +kernel
theorem dX7_kind_162 : decode cX7_kind 162 = .ok (.invokevirtual 57, 3) := by decide +kernel
theorem dX7_kind_165 : decode cX7_kind 165 = .ok (.iload 4, 2) := by decide +kernel
theorem dX7_kind_167 : decode cX7_kind 167 = .ok (.ireturn, 1) := by decide +kernel
theorem dX7_clocksOf_0 : decode cX7_clocksOf 0 = .ok (.aload_n 0, 1) := by decide +kernel
theorem dX7_clocksOf_1 : decode cX7_clocksOf 1 = .ok (.iconst 1, 1) := by decide +kernel
theorem dX7_clocksOf_2 : decode cX7_clocksOf 2 = .ok (.aload_n 0, 1) := by decide +kernel
theorem dX7_clocksOf_3 : decode cX7_clocksOf 3 = .ok (.getfield 16, 3) := by decide +kernel
theorem dX7_clocksOf_6 : decode cX7_clocksOf 6 = .ok (.invokevirtual 126, 3) := by decide +kernel
theorem dX7_clocksOf_9 : decode cX7_clocksOf 9 = .ok (.iconst 0, 1) := by decide +kernel
theorem dX7_clocksOf_10 : decode cX7_clocksOf 10 = .ok (.istore_n 3, 1) := by decide +kernel
theorem dX7_clocksOf_11 : decode cX7_clocksOf 11 = .ok (.iconst 0, 1) := by decide +kernel
theorem dX7_clocksOf_12 : decode cX7_clocksOf 12 = .ok (.istore 4, 2) := by decide +kernel
theorem dX7_clocksOf_14 : decode cX7_clocksOf 14 = .ok (.iload 4, 2) := by decide +kernel
theorem dX7_clocksOf_16 : decode cX7_clocksOf 16 = .ok (.iload_n 2, 1) := by decide +kernel
theorem dX7_clocksOf_17 : decode cX7_clocksOf 17 = .ok (.if_icmp .ge 47, 3) := by decide +kernel
theorem dX7_clocksOf_20 : decode cX7_clocksOf 20 = .ok (.iload_n 3, 1) := by decide +kernel
theorem dX7_clocksOf_21 : decode cX7_clocksOf 21 = .ok (.aload_n 0, 1) := by decide +kernel
theorem dX7_clocksOf_22 : decode cX7_clocksOf 22 = .ok (.invokevirtual 105, 3) := by decide +kernel
theorem dX7_clocksOf_25 : decode cX7_clocksOf 25 = .ok (.ifCond .eq 26, 3) := by decide +kernel
theorem dX7_clocksOf_28 : decode cX7_clocksOf 28 = .ok (.aload_n 0, 1) := by decide +kernel
theorem dX7_clocksOf_29 : decode cX7_clocksOf 29 = .ok (.aload_n 0, 1) := by decide +kernel
theorem dX7_clocksOf_30 : decode cX7_clocksOf 30 = .ok (.getfield 7, 3) := by decide +kernel
theorem dX7_clocksOf_33 : decode cX7_clocksOf 33 = .ok (.iconst 0, 1) := by decide +kernel
theorem dX7_clocksOf_34 : decode cX7_clocksOf 34 = .ok (.iaload, 1) := by decide +kernel
theorem dX7_clocksOf_35 : decode cX7_clocksOf 35 = .ok (.invokevirtual 101, 3) := by decide +kernel
theorem dX7_clocksOf_38 : decode cX7_clocksOf 38 = .ok (.iload_n 1, 1) := by decide +kernel
theorem dX7_clocksOf_39 : decode cX7_clocksOf 39 = .ok (.if_icmp .ne 12, 3) := by decide +kernel
theorem dX7_clocksOf_42 : decode cX7_clocksOf 42 = .ok (.iconst 1, 1) := by decide +kernel
theorem dX7_clocksOf_43 : decode cX7_clocksOf 43 = .ok (.aload_n 0, 1) := by decide +kernel
theorem dX7_clocksOf_44 : decode cX7_clocksOf 44 = .ok (.invokevirtual 77, 3) := by decide +kernel
theorem dX7_clocksOf_47 : decode cX7_clocksOf 47 = .ok (.ishl, 1) := by decide +kernel
theorem dX7_clocksOf_48 : decode cX7_clocksOf 48 = .ok (.goto 4, 3) := by decide +kernel
theorem dX7_clocksOf_51 : decode cX7_clocksOf 51 = .ok (.iconst 0, 1) := by decide +kernel
theorem dX7_clocksOf_52 : decode cX7_clocksOf 52 = .ok (.ior, 1) := by decide +kernel
theorem dX7_clocksOf_53 : decode cX7_clocksOf 53 = .ok (.istore_n 3, 1) := by decide +kernel
theorem dX7_clocksOf_54 : decode cX7_clocksOf 54 = .ok (.aload_n 0, 1) := by decide +kernel
theorem dX7_clocksOf_55 : decode cX7_clocksOf 55 = .ok (.invokevirtual 112, 3) := by decide +kernel
theorem dX7_clocksOf_58 : decode cX7_clocksOf 58 = .ok (.iinc 4 1, 3) := by decide +kernel
theorem dX7_clocksOf_61 : decode cX7_clocksOf 61 = .ok (.goto (-47), 3) := by decide +kernel
theorem dX7_clocksOf_64 : decode cX7_clocksOf 64 = .ok (.aload_n 0, 1) := by decide +kernel
theorem dX7_clocksOf_65 : decode cX7_clocksOf 65 = .ok (.iconst 0, 1) := by decide +kernel
theorem dX7_clocksOf_66 : decode cX7_clocksOf 66 = .ok (.aload_n 0, 1) := by decide +kernel
theorem dX7_clocksOf_67 : decode cX7_clocksOf 67 = .ok (.getfield 16, 3) := by decide +kernel
theorem dX7_clocksOf_70 : decode cX7_clocksOf 70 = .ok (.invokevirtual 126, 3) := by decide +kernel
theorem dX7_clocksOf_73 : decode cX7_clocksOf 73 = .ok (.iload_n 3, 1) := by decide +kernel
theorem dX7_clocksOf_74 : decode cX7_clocksOf 74 = .ok (.ireturn, 1) := by decide +kernel
theorem dX7_clocks_0 : decode cX7_clocks 0 = .ok (.aload_n 0, 1) := by decide +kernel
theorem dX7_clocks_1 : decode cX7_clocks 1 = .ok (.iload_n 1, 1) := by decide +kernel
theorem dX7_clocks_2 : decode cX7_clocks 2 = .ok (.invokevirtual 87, 3) := by decide +kernel
theorem dX7_clocks_5 : decode cX7_clocks 5 = .ok (.ifCond .eq 22, 3) := by decide +kernel
theorem dX7_clocks_8 : decode cX7_clocks 8 = .ok (.iload_n 2, 1) := by decide +kernel
theorem dX7_clocks_9 : decode cX7_clocks 9 = .ok (.iconst 0, 1) := by decide +kernel
theorem dX7_clocks_10 : decode cX7_clocks 10 = .ok (.bipush 100, 2) := by decide +kernel
theorem dX7_clocks_12 : decode cX7_clocks 12 = .ok (.invokestatic 45, 3) := by decide +kernel
theorem dX7_clocks_15 : decode cX7_clocks 15 = .ok (.ifCond .eq 12, 3) := by decide +kernel
theorem dX7_clocks_18 : decode cX7_clocks 18 = .ok (.aload_n 0, 1) := by decide +kernel
theorem dX7_clocks_19 : decode cX7_clocks 19 = .ok (.iload_n 1, 1) := by decide +kernel
theorem dX7_clocks_20 : decode cX7_clocks 20 = .ok (.iload_n 2, 1) := by decide +kernel
theorem dX7_clocks_21 : decode cX7_clocks 21 = .ok (.invokevirtual 154, 3) := by decide +kernel
theorem dX7_clocks_24 : decode cX7_clocks 24 = .ok (.goto 9, 3) := by decide +kernel
theorem dX7_clocks_27 : decode cX7_clocks 27 = .ok (.aload_n 0, 1) := by decide +kernel
theorem dX7_clocks_28 : decode cX7_clocks 28 = .ok (.ldc 44, 2) := by decide +kernel
theorem dX7_clocks_30 : decode cX7_clocks 30 = .ok (.invokevirtual 53, 3) := by decide +kernel
theorem dX7_clocks_33 : decode cX7_clocks 33 = .ok (.ireturn, 1) := by decide +kernel
theorem dX7_doesCover_0 : decode cX7_doesCover 0 = .ok (.iconst 1, 1) := by decide +kernel
theorem dX7_doesCover_1 : decode cX7_doesCover 1 = .ok (.istore_n 3, 1) := by decide +kernel
theorem dX7_doesCover_2 : decode cX7_doesCover 2 = .ok (.iconst 0, 1) := by decide +kernel
theorem dX7_doesCover_3 : decode cX7_doesCover 3 = .ok (.istore 4, 2) := by decide +kernel
theorem dX7_doesCover_5 : decode cX7_doesCover 5 = .ok (.iload 4, 2) := by decide +kernel
theorem dX7_doesCover_7 : decode cX7_doesCover 7 = .ok (.bipush 24, 2) := by decide +kernel
theorem dX7_doesCover_9 : decode cX7_doesCover 9 = .ok (.if_icmp .ge 42, 3) := by decide +kernel
theorem dX7_doesCover_12 : decode cX7_doesCover 12 = .ok (.iload_n 3, 1) := by decide +kernel
theorem dX7_doesCover_13 : decode cX7_doesCover 13 = .ok (.ifCond .eq 30, 3) := by decide +kernel
theorem dX7_doesCover_16 : decode cX7_doesCover 16 = .ok (.iload_n 0, 1) := by decide +kernel
theorem dX7_doesCover_17 : decode cX7_doesCover 17 = .ok (.iload 4, 2) := by decide +kernel
theorem dX7_doesCover_19 : decode cX7_doesCover 19 = .ok (.ishr, 1) := by decide +kernel
theorem dX7_doesCover_20 : decode cX7_doesCover 20 = .ok (.iconst 1, 1) := by decide +kernel
theorem dX7_doesCover_21 : decode cX7_doesCover 21 = .ok (.iand, 1) := by decide +kernel
theorem dX7_doesCover_22 : decode cX7_doesCover 22 = .ok (.ifCond .eq 17, 3) := by decide +kernel
theorem dX7_doesCover_25 : decode cX7_doesCover 25 = .ok (.iload 4, 2) := by decide +kernel
theorem dX7_doesCover_27 : decode cX7_doesCover 27 = .ok (.iload_n 1, 1) := by decide +kernel
theorem dX7_doesCover_28 : decode cX7_doesCover 28 = .ok (.isub, 1) := by decide +kernel
theorem dX7_doesCover_29 : decode cX7_doesCover 29 = .ok (.bipush 24, 2) := by decide +kernel
theorem dX7_doesCover_31 : decode cX7_doesCover 31 = .ok (.iadd, 1) := by decide +kernel
theorem dX7_doesCover_32 : decode cX7_doesCover 32 = .ok (.bipush 24, 2) := by decide +kernel
theorem dX7_doesCover_34 : decode cX7_doesCover 34 = .ok (.irem, 1) := by decide +kernel
theorem dX7_doesCover_35 : decode cX7_doesCover 35 = .ok (.iload_n 2, 1) := by decide +kernel
theorem dX7_doesCover_36 : decode cX7_doesCover 36 = .ok (.if_icmp .ge 7, 3) := by decide +kernel
theorem dX7_doesCover_39 : decode cX7_doesCover 39 = .ok (.iconst 1, 1) := by decide +kernel
theorem dX7_doesCover_40 : decode cX7_doesCover 40 = .ok (.goto 4, 3) := by decide +kernel
theorem dX7_doesCover_43 : decode cX7_doesCover 43 = .ok (.iconst 0, 1) := by decide +kernel
theorem dX7_doesCover_44 : decode cX7_doesCover 44 = .ok (.istore_n 3, 1) := by decide +kernel
theorem dX7_doesCover_45 : decode cX7_doesCover 45 = .ok (.iinc 4 1, 3) := by decide +kernel
theorem dX7_doesCover_48 : decode cX7_doesCover 48 = .ok (.goto (-43), 3) := by decide +kernel
theorem dX7_doesCover_51 : decode cX7_doesCover 51 = .ok (.iload_n 3, 1) := by decide +kernel
theorem dX7_doesCover_52 : decode cX7_doesCover 52 = .ok (.ireturn, 1) := by decide +kernel
theorem dX7_fewest_0 : decode cX7_fewest 0 = .ok (.iconst 0, 1) := by decide +kernel
theorem dX7_fewest_1 : decode cX7_fewest 1 = .ok (.istore_n 2, 1) := by decide +kernel
theorem dX7_fewest_2 : decode cX7_fewest 2 = .ok (.aload_n 0, 1) := by decide +kernel
theorem dX7_fewest_3 : decode cX7_fewest 3 = .ok (.iconst 0, 1) := by decide +kernel
theorem dX7_fewest_4 : decode cX7_fewest 4 = .ok (.putfield 157, 3) := by decide +kernel
theorem dX7_fewest_7 : decode cX7_fewest 7 = .ok (.iload_n 1, 1) := by decide +kernel
theorem dX7_fewest_8 : decode cX7_fewest 8 = .ok (.aload_n 0, 1) := by decide +kernel
theorem dX7_fewest_9 : decode cX7_fewest 9 = .ok (.getfield 157, 3) := by decide +kernel
theorem dX7_fewest_12 : decode cX7_fewest 12 = .ok (.iload_n 2, 1) := by decide +kernel
theorem dX7_fewest_13 : decode cX7_fewest 13 = .ok (.invokestatic 160, 3) := by decide +kernel
theorem dX7_fewest_16 : decode cX7_fewest 16 = .ok (.ifCond .ne 44, 3) := by decide +kernel
theorem dX7_fewest_19 : decode cX7_fewest 19 = .ok (.aload_n 0, 1) := by decide +kernel
theorem dX7_fewest_20 : decode cX7_fewest 20 = .ok (.dup, 1) := by decide +kernel
theorem dX7_fewest_21 : decode cX7_fewest 21 = .ok (.getfield 157, 3) := by decide +kernel
theorem dX7_fewest_24 : decode cX7_fewest 24 = .ok (.iconst 1, 1) := by decide +kernel
theorem dX7_fewest_25 : decode cX7_fewest 25 = .ok (.iadd, 1) := by decide +kernel
theorem dX7_fewest_26 : decode cX7_fewest 26 = .ok (.putfield 157, 3) := by decide +kernel
theorem dX7_fewest_29 : decode cX7_fewest 29 = .ok (.iload_n 2, 1) := by decide +kernel
theorem dX7_fewest_30 : decode cX7_fewest 30 = .ok (.aload_n 0, 1) := by decide +kernel
theorem dX7_fewest_31 : decode cX7_fewest 31 = .ok (.getfield 157, 3) := by decide +kernel
theorem dX7_fewest_34 : decode cX7_fewest 34 = .ok (.bipush 24, 2) := by decide +kernel
theorem dX7_fewest_36 : decode cX7_fewest 36 = .ok (.if_icmp .ne 7, 3) := by decide +kernel
theorem dX7_fewest_39 : decode cX7_fewest 39 = .ok (.iconst 1, 1) := by decide +kernel
theorem dX7_fewest_40 : decode cX7_fewest 40 = .ok (.goto 4, 3) := by decide +kernel
theorem dX7_fewest_43 : decode cX7_fewest 43 = .ok (.iconst 0, 1) := by decide +kernel
end
section
theorem dX7_fewest_44 : decode cX7_fewest 44 = .ok (.iadd, 1) := by decide +kernel
theorem dX7_fewest_45 : decode cX7_fewest 45 = .ok (.istore_n 2, 1) := by decide +kernel
theorem dX7_fewest_46 : decode cX7_fewest 46 = .ok (.aload_n 0, 1) := by decide +kernel
theorem dX7_fewest_47 : decode cX7_fewest 47 = .ok (.dup, 1) := by decide +kernel
theorem dX7_fewest_48 : decode cX7_fewest 48 = .ok (.getfield 157, 3) := by decide +kernel
theorem dX7_fewest_51 : decode cX7_fewest 51 = .ok (.bipush 24, 2) := by decide +kernel
theorem dX7_fewest_53 : decode cX7_fewest 53 = .ok (.irem, 1) := by decide +kernel
theorem dX7_fewest_54 : decode cX7_fewest 54 = .ok (.putfield 157, 3) := by decide +kernel
theorem dX7_fewest_57 : decode cX7_fewest 57 = .ok (.goto (-50), 3) := by decide +kernel
theorem dX7_fewest_60 : decode cX7_fewest 60 = .ok (.iload_n 2, 1) := by decide +kernel
theorem dX7_fewest_61 : decode cX7_fewest 61 = .ok (.ireturn, 1) := by decide +kernel
theorem dX7_covers_0 : decode cX7_covers 0 = .ok (.aload_n 0, 1) := by decide +kernel
theorem dX7_covers_1 : decode cX7_covers 1 = .ok (.iload_n 1, 1) := by decide +kernel
theorem dX7_covers_2 : decode cX7_covers 2 = .ok (.invokevirtual 87, 3) := by decide +kernel
theorem dX7_covers_5 : decode cX7_covers 5 = .ok (.ifCond .eq 26, 3) := by decide +kernel
theorem dX7_covers_8 : decode cX7_covers 8 = .ok (.iload_n 2, 1) := by decide +kernel
theorem dX7_covers_9 : decode cX7_covers 9 = .ok (.iconst 0, 1) := by decide +kernel
theorem dX7_covers_10 : decode cX7_covers 10 = .ok (.bipush 100, 2) := by decide +kernel
theorem dX7_covers_12 : decode cX7_covers 12 = .ok (.invokestatic 45, 3) := by decide +kernel
theorem dX7_covers_15 : decode cX7_covers 15 = .ok (.ifCond .eq 16, 3) := by decide +kernel
theorem dX7_covers_18 : decode cX7_covers 18 = .ok (.aload_n 0, 1) := by decide +kernel
theorem dX7_covers_19 : decode cX7_covers 19 = .ok (.aload_n 0, 1) := by decide +kernel
theorem dX7_covers_20 : decode cX7_covers 20 = .ok (.iload_n 1, 1) := by decide +kernel
theorem dX7_covers_21 : decode cX7_covers 21 = .ok (.iload_n 2, 1) := by decide +kernel
theorem dX7_covers_22 : decode cX7_covers 22 = .ok (.invokevirtual 154, 3) := by decide +kernel
theorem dX7_covers_25 : decode cX7_covers 25 = .ok (.invokevirtual 163, 3) := by decide +kernel
theorem dX7_covers_28 : decode cX7_covers 28 = .ok (.goto 9, 3) := by decide +kernel
theorem dX7_covers_31 : decode cX7_covers 31 = .ok (.aload_n 0, 1) := by decide +kernel
theorem dX7_covers_32 : decode cX7_covers 32 = .ok (.ldc 44, 2) := by decide +kernel
theorem dX7_covers_34 : decode cX7_covers 34 = .ok (.invokevirtual 53, 3) := by decide +kernel
theorem dX7_covers_37 : decode cX7_covers 37 = .ok (.ireturn, 1) := by decide +kernel
theorem dX7_from_0 : decode cX7_from 0 = .ok (.aload_n 0, 1) := by decide +kernel
theorem dX7_from_1 : decode cX7_from 1 = .ok (.iload_n 1, 1) := by decide +kernel
theorem dX7_from_2 : decode cX7_from 2 = .ok (.invokevirtual 87, 3) := by decide +kernel
theorem dX7_from_5 : decode cX7_from 5 = .ok (.ifCond .eq 13, 3) := by decide +kernel
theorem dX7_from_8 : decode cX7_from 8 = .ok (.iload_n 2, 1) := by decide +kernel
theorem dX7_from_9 : decode cX7_from 9 = .ok (.iconst 0, 1) := by decide +kernel
theorem dX7_from_10 : decode cX7_from 10 = .ok (.bipush 100, 2) := by decide +kernel
theorem dX7_from_12 : decode cX7_from 12 = .ok (.invokestatic 45, 3) := by decide +kernel
theorem dX7_from_15 : decode cX7_from 15 = .ok (.ifCond .ne 10, 3) := by decide +kernel
theorem dX7_from_18 : decode cX7_from 18 = .ok (.aload_n 0, 1) := by decide +kernel
theorem dX7_from_19 : decode cX7_from 19 = .ok (.ldc 44, 2) := by decide +kernel
theorem dX7_from_21 : decode cX7_from 21 = .ok (.invokevirtual 53, 3) := by decide +kernel
theorem dX7_from_24 : decode cX7_from 24 = .ok (.ireturn, 1) := by decide +kernel
theorem dX7_from_25 : decode cX7_from 25 = .ok (.aload_n 0, 1) := by decide +kernel
theorem dX7_from_26 : decode cX7_from 26 = .ok (.aload_n 0, 1) := by decide +kernel
theorem dX7_from_27 : decode cX7_from 27 = .ok (.iload_n 1, 1) := by decide +kernel
theorem dX7_from_28 : decode cX7_from 28 = .ok (.iload_n 2, 1) := by decide +kernel
theorem dX7_from_29 : decode cX7_from 29 = .ok (.invokevirtual 154, 3) := by decide +kernel
theorem dX7_from_32 : decode cX7_from 32 = .ok (.invokevirtual 163, 3) := by decide +kernel
theorem dX7_from_35 : decode cX7_from 35 = .ok (.istore_n 3, 1) := by decide +kernel
theorem dX7_from_36 : decode cX7_from 36 = .ok (.iload_n 3, 1) := by decide +kernel
theorem dX7_from_37 : decode cX7_from 37 = .ok (.ifCond .ge 7, 3) := by decide +kernel
theorem dX7_from_40 : decode cX7_from 40 = .ok (.iconst 0, 1) := by decide +kernel
theorem dX7_from_41 : decode cX7_from 41 = .ok (.goto 7, 3) := by decide +kernel
theorem dX7_from_44 : decode cX7_from 44 = .ok (.aload_n 0, 1) := by decide +kernel
theorem dX7_from_45 : decode cX7_from 45 = .ok (.getfield 157, 3) := by decide +kernel
theorem dX7_from_48 : decode cX7_from 48 = .ok (.ireturn, 1) := by decide +kernel
theorem dX7_strays_0 : decode cX7_strays 0 = .ok (.iload_n 1, 1) := by decide +kernel
theorem dX7_strays_1 : decode cX7_strays 1 = .ok (.iconst 0, 1) := by decide +kernel
theorem dX7_strays_2 : decode cX7_strays 2 = .ok (.bipush 100, 2) := by decide +kernel
theorem dX7_strays_4 : decode cX7_strays 4 = .ok (.invokestatic 45, 3) := by decide +kernel
theorem dX7_strays_7 : decode cX7_strays 7 = .ok (.ifCond .ne 10, 3) := by decide +kernel
theorem dX7_strays_10 : decode cX7_strays 10 = .ok (.aload_n 0, 1) := by decide +kernel
theorem dX7_strays_11 : decode cX7_strays 11 = .ok (.ldc 44, 2) := by decide +kernel
theorem dX7_strays_13 : decode cX7_strays 13 = .ok (.invokevirtual 53, 3) := by decide +kernel
theorem dX7_strays_16 : decode cX7_strays 16 = .ok (.ireturn, 1) := by decide +kernel
theorem dX7_strays_17 : decode cX7_strays 17 = .ok (.aload_n 0, 1) := by decide +kernel
theorem dX7_strays_18 : decode cX7_strays 18 = .ok (.iconst 1, 1) := by decide +kernel
theorem dX7_strays_19 : decode cX7_strays 19 = .ok (.aload_n 0, 1) := by decide +kernel
theorem dX7_strays_20 : decode cX7_strays 20 = .ok (.getfield 16, 3) := by decide +kernel
theorem dX7_strays_23 : decode cX7_strays 23 = .ok (.invokevirtual 126, 3) := by decide +kernel
theorem dX7_strays_26 : decode cX7_strays 26 = .ok (.aload_n 0, 1) := by decide +kernel
theorem dX7_strays_27 : decode cX7_strays 27 = .ok (.iload_n 1, 1) := by decide +kernel
theorem dX7_strays_28 : decode cX7_strays 28 = .ok (.invokevirtual 116, 3) := by decide +kernel
theorem dX7_strays_31 : decode cX7_strays 31 = .ok (.aload_n 0, 1) := by decide +kernel
theorem dX7_strays_32 : decode cX7_strays 32 = .ok (.getfield 7, 3) := by decide +kernel
theorem dX7_strays_35 : decode cX7_strays 35 = .ok (.bipush 6, 2) := by decide +kernel
theorem dX7_strays_37 : decode cX7_strays 37 = .ok (.iaload, 1) := by decide +kernel
theorem dX7_strays_38 : decode cX7_strays 38 = .ok (.istore_n 2, 1) := by decide +kernel
theorem dX7_strays_39 : decode cX7_strays 39 = .ok (.aload_n 0, 1) := by decide +kernel
theorem dX7_strays_40 : decode cX7_strays 40 = .ok (.iconst 0, 1) := by decide +kernel
theorem dX7_strays_41 : decode cX7_strays 41 = .ok (.aload_n 0, 1) := by decide +kernel
theorem dX7_strays_42 : decode cX7_strays 42 = .ok (.getfield 16, 3) := by decide +kernel
theorem dX7_strays_45 : decode cX7_strays 45 = .ok (.invokevirtual 126, 3) := by decide +kernel
theorem dX7_strays_48 : decode cX7_strays 48 = .ok (.iload_n 2, 1) := by decide +kernel
theorem dX7_strays_49 : decode cX7_strays 49 = .ok (.ireturn, 1) := by decide +kernel
theorem dX7_drawAll_0 : decode cX7_drawAll 0 = .ok (.iconst 0, 1) := by decide +kernel
theorem dX7_drawAll_1 : decode cX7_drawAll 1 = .ok (.istore_n 1, 1) := by decide +kernel
theorem dX7_drawAll_2 : decode cX7_drawAll 2 = .ok (.iconst 0, 1) := by decide +kernel
theorem dX7_drawAll_3 : decode cX7_drawAll 3 = .ok (.istore_n 2, 1) := by decide +kernel
theorem dX7_drawAll_4 : decode cX7_drawAll 4 = .ok (.iload_n 2, 1) := by decide +kernel
theorem dX7_drawAll_5 : decode cX7_drawAll 5 = .ok (.aload_n 0, 1) := by decide +kernel
theorem dX7_drawAll_6 : decode cX7_drawAll 6 = .ok (.getfield 7, 3) := by decide +kernel
theorem dX7_drawAll_9 : decode cX7_drawAll 9 = .ok (.bipush 8, 2) := by decide +kernel
theorem dX7_drawAll_11 : decode cX7_drawAll 11 = .ok (.iaload, 1) := by decide +kernel
theorem dX7_drawAll_12 : decode cX7_drawAll 12 = .ok (.if_icmp .ge 23, 3) := by decide +kernel
theorem dX7_drawAll_15 : decode cX7_drawAll 15 = .ok (.iload_n 1, 1) := by decide +kernel
theorem dX7_drawAll_16 : decode cX7_drawAll 16 = .ok (.aload_n 0, 1) := by decide +kernel
theorem dX7_drawAll_17 : decode cX7_drawAll 17 = .ok (.iload_n 2, 1) := by decide +kernel
theorem dX7_drawAll_18 : decode cX7_drawAll 18 = .ok (.aload_n 0, 1) := by decide +kernel
theorem dX7_drawAll_19 : decode cX7_drawAll 19 = .ok (.getfield 7, 3) := by decide +kernel
theorem dX7_drawAll_22 : decode cX7_drawAll 22 = .ok (.iconst 0, 1) := by decide +kernel
theorem dX7_drawAll_23 : decode cX7_drawAll 23 = .ok (.iaload, 1) := by decide +kernel
theorem dX7_drawAll_24 : decode cX7_drawAll 24 = .ok (.invokevirtual 90, 3) := by decide +kernel
theorem dX7_drawAll_27 : decode cX7_drawAll 27 = .ok (.iadd, 1) := by decide +kernel
theorem dX7_drawAll_28 : decode cX7_drawAll 28 = .ok (.istore_n 1, 1) := by decide +kernel
theorem dX7_drawAll_29 : decode cX7_drawAll 29 = .ok (.iinc 2 1, 3) := by decide +kernel
theorem dX7_drawAll_32 : decode cX7_drawAll 32 = .ok (.goto (-28), 3) := by decide +kernel
theorem dX7_drawAll_35 : decode cX7_drawAll 35 = .ok (.iload_n 1, 1) := by decide +kernel
theorem dX7_drawAll_36 : decode cX7_drawAll 36 = .ok (.ireturn, 1) := by decide +kernel
theorem dX7_divisor_0 : decode cX7_divisor 0 = .ok (.iload_n 0, 1) := by decide +kernel
theorem dX7_divisor_1 : decode cX7_divisor 1 = .ok (.istore_n 2, 1) := by decide +kernel
theorem dX7_divisor_2 : decode cX7_divisor 2 = .ok (.iload_n 1, 1) := by decide +kernel
theorem dX7_divisor_3 : decode cX7_divisor 3 = .ok (.istore_n 3, 1) := by decide +kernel
theorem dX7_divisor_4 : decode cX7_divisor 4 = .ok (.iload_n 3, 1) := by decide +kernel
theorem dX7_divisor_5 : decode cX7_divisor 5 = .ok (.ifCond .eq 16, 3) := by decide +kernel
theorem dX7_divisor_8 : decode cX7_divisor 8 = .ok (.iload_n 2, 1) := by decide +kernel
theorem dX7_divisor_9 : decode cX7_divisor 9 = .ok (.iload_n 3, 1) := by decide +kernel
theorem dX7_divisor_10 : decode cX7_divisor 10 = .ok (.irem, 1) := by decide +kernel
theorem dX7_divisor_11 : decode cX7_divisor 11 = .ok (.istore 4, 2) := by decide +kernel
theorem dX7_divisor_13 : decode cX7_divisor 13 = .ok (.iload_n 3, 1) := by decide +kernel
theorem dX7_divisor_14 : decode cX7_divisor 14 = .ok (.istore_n 2, 1) := by decide +kernel
theorem dX7_divisor_15 : decode cX7_divisor 15 = .ok (.iload 4, 2) := by decide +kernel
theorem dX7_divisor_17 : decode cX7_divisor 17 = .ok (.istore_n 3, 1) := by decide +kernel
theorem dX7_divisor_18 : decode cX7_divisor 18 = .ok (.goto (-14), 3) := by decide +kernel
theorem dX7_divisor_21 : decode cX7_divisor 21 = .ok (.iload_n 2, 1) := by decide +kernel
theorem dX7_divisor_22 : decode cX7_divisor 22 = .ok (.ireturn, 1) := by decide +kernel
theorem dX7_fork_0 : decode cX7_fork 0 = .ok (.aload_n 0, 1) := by decide +kernel
theorem dX7_fork_1 : decode cX7_fork 1 = .ok (.iload_n 1, 1) := by decide +kernel
theorem dX7_fork_2 : decode cX7_fork 2 = .ok (.invokevirtual 87, 3) := by decide +kernel
theorem dX7_fork_5 : decode cX7_fork 5 = .ok (.ifCond .eq 12, 3) := by decide +kernel
theorem dX7_fork_8 : decode cX7_fork 8 = .ok (.iload_n 2, 1) := by decide +kernel
theorem dX7_fork_9 : decode cX7_fork 9 = .ok (.iconst 0, 1) := by decide +kernel
theorem dX7_fork_10 : decode cX7_fork 10 = .ok (.iconst 1, 1) := by decide +kernel
theorem dX7_fork_11 : decode cX7_fork 11 = .ok (.invokestatic 45, 3) := by decide +kernel
theorem dX7_fork_14 : decode cX7_fork 14 = .ok (.ifCond .ne 10, 3) := by decide +kernel
theorem dX7_fork_17 : decode cX7_fork 17 = .ok (.aload_n 0, 1) := by decide +kernel
theorem dX7_fork_18 : decode cX7_fork 18 = .ok (.ldc 44, 2) := by decide +kernel
theorem dX7_fork_20 : decode cX7_fork 20 = .ok (.invokevirtual 53, 3) := by decide +kernel
theorem dX7_fork_23 : decode cX7_fork 23 = .ok (.ireturn, 1) := by decide +kernel
theorem dX7_fork_24 : decode cX7_fork 24 = .ok (.aload_n 0, 1) := by decide +kernel
theorem dX7_fork_25 : decode cX7_fork 25 = .ok (.iload_n 1, 1) := by decide +kernel
theorem dX7_fork_26 : decode cX7_fork 26 = .ok (.aload_n 0, 1) := by decide +kernel
theorem dX7_fork_27 : decode cX7_fork 27 = .ok (.getfield 7, 3) := by decide +kernel
theorem dX7_fork_30 : decode cX7_fork 30 = .ok (.iconst 0, 1) := by decide +kernel
theorem dX7_fork_31 : decode cX7_fork 31 = .ok (.iaload, 1) := by decide +kernel
theorem dX7_fork_32 : decode cX7_fork 32 = .ok (.invokevirtual 90, 3) := by decide +kernel
theorem dX7_fork_35 : decode cX7_fork 35 = .ok (.aload_n 0, 1) := by decide +kernel
theorem dX7_fork_36 : decode cX7_fork 36 = .ok (.getfield 7, 3) := by decide +kernel
theorem dX7_fork_39 : decode cX7_fork 39 = .ok (.iconst 1, 1) := by decide +kernel
theorem dX7_fork_40 : decode cX7_fork 40 = .ok (.iaload, 1) := by decide +kernel
theorem dX7_fork_41 : decode cX7_fork 41 = .ok (.imul, 1) := by decide +kernel
theorem dX7_fork_42 : decode cX7_fork 42 = .ok (.istore_n 3, 1) := by decide +kernel
theorem dX7_fork_43 : decode cX7_fork 43 = .ok (.iload_n 3, 1) := by decide +kernel
theorem dX7_fork_44 : decode cX7_fork 44 = .ok (.ifCond .ne 7, 3) := by decide +kernel
theorem dX7_fork_47 : decode cX7_fork 47 = .ok (.iconst 1, 1) := by decide +kernel
theorem dX7_fork_48 : decode cX7_fork 48 = .ok (.goto 7, 3) := by decide +kernel
theorem dX7_fork_51 : decode cX7_fork 51 = .ok (.aload_n 0, 1) := by decide +kernel
theorem dX7_fork_52 : decode cX7_fork 52 = .ok (.invokevirtual 166, 3) := by decide +kernel
theorem dX7_fork_55 : decode cX7_fork 55 = .ok (.istore 4, 2) := by decide +kernel
theorem dX7_fork_57 : decode cX7_fork 57 = .ok (.iload_n 3, 1) := by decide +kernel
theorem dX7_fork_58 : decode cX7_fork 58 = .ok (.iload 4, 2) := by decide +kernel
theorem dX7_fork_60 : decode cX7_fork 60 = .ok (.invokestatic 169, 3) := by decide +kernel
theorem dX7_fork_63 : decode cX7_fork 63 = .ok (.istore 5, 2) := by decide +kernel
theorem dX7_fork_65 : decode cX7_fork 65 = .ok (.iload_n 2, 1) := by decide +kernel
theorem dX7_fork_66 : decode cX7_fork 66 = .ok (.ifCond .ne 10, 3) := by decide +kernel
theorem dX7_fork_69 : decode cX7_fork 69 = .ok (.iload_n 3, 1) := by decide +kernel
theorem dX7_fork_70 : decode cX7_fork 70 = .ok (.iload 5, 2) := by decide +kernel
theorem dX7_fork_72 : decode cX7_fork 72 = .ok (.idiv, 1) := by decide +kernel
theorem dX7_fork_73 : decode cX7_fork 73 = .ok (.goto 8, 3) := by decide +kernel
theorem dX7_fork_76 : decode cX7_fork 76 = .ok (.iload 4, 2) := by decide +kernel
theorem dX7_fork_78 : decode cX7_fork 78 = .ok (.iload 5, 2) := by decide +kernel
theorem dX7_fork_80 : decode cX7_fork 80 = .ok (.idiv, 1) := by decide +kernel
theorem dX7_fork_81 : decode cX7_fork 81 = .ok (.ireturn, 1) := by decide +kernel
theorem dX7_share_0 : decode cX7_share 0 = .ok (.aload_n 0, 1) := by decide +kernel
theorem dX7_share_1 : decode cX7_share 1 = .ok (.iload_n 1, 1) := by decide +kernel
theorem dX7_share_2 : decode cX7_share 2 = .ok (.invokevirtual 87, 3) := by decide +kernel
theorem dX7_share_5 : decode cX7_share 5 = .ok (.ifCond .ne 10, 3) := by decide +kernel
theorem dX7_share_8 : decode cX7_share 8 = .ok (.aload_n 0, 1) := by decide +kernel
theorem dX7_share_9 : decode cX7_share 9 = .ok (.ldc 44, 2) := by decide +kernel
theorem dX7_share_11 : decode cX7_share 11 = .ok (.invokevirtual 53, 3) := by decide +kernel
theorem dX7_share_14 : decode cX7_share 14 = .ok (.ireturn, 1) := by decide +kernel
theorem dX7_share_15 : decode cX7_share 15 = .ok (.aload_n 0, 1) := by decide +kernel
theorem dX7_share_16 : decode cX7_share 16 = .ok (.invokevirtual 166, 3) := by decide +kernel
theorem dX7_share_19 : decode cX7_share 19 = .ok (.istore_n 2, 1) := by decide +kernel
theorem dX7_share_20 : decode cX7_share 20 = .ok (.iload_n 2, 1) := by decide +kernel
theorem dX7_share_21 : decode cX7_share 21 = .ok (.ifCond .ne 5, 3) := by decide +kernel
theorem dX7_share_24 : decode cX7_share 24 = .ok (.iconst 0, 1) := by decide +kernel
theorem dX7_share_25 : decode cX7_share 25 = .ok (.ireturn, 1) := by decide +kernel
theorem dX7_share_26 : decode cX7_share 26 = .ok (.aload_n 0, 1) := by decide +kernel
theorem dX7_share_27 : decode cX7_share 27 = .ok (.getfield 7, 3) := by decide +kernel
theorem dX7_share_30 : decode cX7_share 30 = .ok (.iconst 1, 1) := by decide +kernel
theorem dX7_share_31 : decode cX7_share 31 = .ok (.iaload, 1) := by decide +kernel
theorem dX7_share_32 : decode cX7_share 32 = .ok (.istore_n 3, 1) := by decide +kernel
theorem dX7_share_33 : decode cX7_share 33 = .ok (.iconst 0, 1) := by decide +kernel
theorem dX7_share_34 : decode cX7_share 34 = .ok (.istore 4, 2) := by decide +kernel
theorem dX7_share_36 : decode cX7_share 36 = .ok (.iload 4, 2) := by decide +kernel
theorem dX7_share_38 : decode cX7_share 38 = .ok (.aload_n 0, 1) := by decide +kernel
theorem dX7_share_39 : decode cX7_share 39 = .ok (.getfield 7, 3) := by decide +kernel
theorem dX7_share_42 : decode cX7_share 42 = .ok (.bipush 8, 2) := by decide +kernel
theorem dX7_share_44 : decode cX7_share 44 = .ok (.iaload, 1) := by decide +kernel
theorem dX7_share_45 : decode cX7_share 45 = .ok (.if_icmp .ge 33, 3) := by decide +kernel
theorem dX7_share_48 : decode cX7_share 48 = .ok (.iload_n 3, 1) := by decide +kernel
theorem dX7_share_49 : decode cX7_share 49 = .ok (.aload_n 0, 1) := by decide +kernel
theorem dX7_share_50 : decode cX7_share 50 = .ok (.iload 4, 2) := by decide +kernel
theorem dX7_share_52 : decode cX7_share 52 = .ok (.aload_n 0, 1) := by decide +kernel
theorem dX7_share_53 : decode cX7_share 53 = .ok (.getfield 7, 3) := by decide +kernel
theorem dX7_share_56 : decode cX7_share 56 = .ok (.iconst 0, 1) := by decide +kernel
theorem dX7_share_57 : decode cX7_share 57 = .ok (.iaload, 1) := by decide +kernel
theorem dX7_share_58 : decode cX7_share 58 = .ok (.invokevirtual 90, 3) := by decide +kernel
theorem dX7_share_61 : decode cX7_share 61 = .ok (.aload_n 0, 1) := by decide +kernel
theorem dX7_share_62 : decode cX7_share 62 = .ok (.getfield 7, 3) := by decide +kernel
theorem dX7_share_65 : decode cX7_share 65 = .ok (.iconst 1, 1) := by decide +kernel
theorem dX7_share_66 : decode cX7_share 66 = .ok (.iaload, 1) := by decide +kernel
theorem dX7_share_67 : decode cX7_share 67 = .ok (.imul, 1) := by decide +kernel
theorem dX7_share_68 : decode cX7_share 68 = .ok (.iload_n 2, 1) := by decide +kernel
theorem dX7_share_69 : decode cX7_share 69 = .ok (.idiv, 1) := by decide +kernel
theorem dX7_share_70 : decode cX7_share 70 = .ok (.isub, 1) := by decide +kernel
theorem dX7_share_71 : decode cX7_share 71 = .ok (.istore_n 3, 1) := by decide +kernel
theorem dX7_share_72 : decode cX7_share 72 = .ok (.iinc 4 1, 3) := by decide +kernel
theorem dX7_share_75 : decode cX7_share 75 = .ok (.goto (-39), 3) := by decide +kernel
theorem dX7_share_78 : decode cX7_share 78 = .ok (.aload_n 0, 1) := by decide +kernel
theorem dX7_share_79 : decode cX7_share 79 = .ok (.iload_n 1, 1) := by decide +kernel
theorem dX7_share_80 : decode cX7_share 80 = .ok (.aload_n 0, 1) := by decide +kernel
theorem dX7_share_81 : decode cX7_share 81 = .ok (.getfield 7, 3) := by decide +kernel
theorem dX7_share_84 : decode cX7_share 84 = .ok (.iconst 0, 1) := by decide +kernel
theorem dX7_share_85 : decode cX7_share 85 = .ok (.iaload, 1) := by decide +kernel
theorem dX7_share_86 : decode cX7_share 86 = .ok (.invokevirtual 90, 3) := by decide +kernel
theorem dX7_share_89 : decode cX7_share 89 = .ok (.aload_n 0, 1) := by decide +kernel
theorem dX7_share_90 : decode cX7_share 90 = .ok (.getfield 7, 3) := by decide +kernel
theorem dX7_share_93 : decode cX7_share 93 = .ok (.iconst 1, 1) := by decide +kernel
theorem dX7_share_94 : decode cX7_share 94 = .ok (.iaload, 1) := by decide +kernel
theorem dX7_share_95 : decode cX7_share 95 = .ok (.imul, 1) := by decide +kernel
theorem dX7_share_96 : decode cX7_share 96 = .ok (.istore 4, 2) := by decide +kernel
theorem dX7_share_98 : decode cX7_share 98 = .ok (.iconst 0, 1) := by decide +kernel
theorem dX7_share_99 : decode cX7_share 99 = .ok (.istore 5, 2) := by decide +kernel
theorem dX7_share_101 : decode cX7_share 101 = .ok (.iconst 0, 1) := by decide +kernel
theorem dX7_share_102 : decode cX7_share 102 = .ok (.istore 6, 2) := by decide +kernel
theorem dX7_share_104 : decode cX7_share 104 = .ok (.iload 6, 2) := by decide +kernel
theorem dX7_share_106 : decode cX7_share 106 = .ok (.aload_n 0, 1) := by decide +kernel
theorem dX7_share_107 : decode cX7_share 107 = .ok (.getfield 7, 3) := by decide +kernel
theorem dX7_share_110 : decode cX7_share 110 = .ok (.bipush 8, 2) := by decide +kernel
theorem dX7_share_112 : decode cX7_share 112 = .ok (.iaload, 1) := by decide +kernel
theorem dX7_share_113 : decode cX7_share 113 = .ok (.if_icmp .ge 66, 3) := by decide +kernel
theorem dX7_share_116 : decode cX7_share 116 = .ok (.aload_n 0, 1) := by decide +kernel
theorem dX7_share_117 : decode cX7_share 117 = .ok (.iload 6, 2) := by decide +kernel
theorem dX7_share_119 : decode cX7_share 119 = .ok (.aload_n 0, 1) := by decide +kernel
theorem dX7_share_120 : decode cX7_share 120 = .ok (.getfield 7, 3) := by decide +kernel
theorem dX7_share_123 : decode cX7_share 123 = .ok (.iconst 0, 1) := by decide +kernel
theorem dX7_share_124 : decode cX7_share 124 = .ok (.iaload, 1) := by decide +kernel
theorem dX7_share_125 : decode cX7_share 125 = .ok (.invokevirtual 90, 3) := by decide +kernel
theorem dX7_share_128 : decode cX7_share 128 = .ok (.aload_n 0, 1) := by decide +kernel
theorem dX7_share_129 : decode cX7_share 129 = .ok (.getfield 7, 3) := by decide +kernel
theorem dX7_share_132 : decode cX7_share 132 = .ok (.iconst 1, 1) := by decide +kernel
theorem dX7_share_133 : decode cX7_share 133 = .ok (.iaload, 1) := by decide +kernel
theorem dX7_share_134 : decode cX7_share 134 = .ok (.imul, 1) := by decide +kernel
theorem dX7_share_135 : decode cX7_share 135 = .ok (.iload_n 2, 1) := by decide +kernel
theorem dX7_share_136 : decode cX7_share 136 = .ok (.irem, 1) := by decide +kernel
theorem dX7_share_137 : decode cX7_share 137 = .ok (.istore 7, 2) := by decide +kernel
theorem dX7_share_139 : decode cX7_share 139 = .ok (.iload 5, 2) := by decide +kernel
theorem dX7_share_141 : decode cX7_share 141 = .ok (.iload 7, 2) := by decide +kernel
theorem dX7_share_143 : decode cX7_share 143 = .ok (.iload 4, 2) := by decide +kernel
theorem dX7_share_145 : decode cX7_share 145 = .ok (.iload_n 2, 1) := by decide +kernel
theorem dX7_share_146 : decode cX7_share 146 = .ok (.irem, 1) := by decide +kernel
theorem dX7_share_147 : decode cX7_share 147 = .ok (.if_icmp .gt 18, 3) := by decide +kernel
theorem dX7_share_150 : decode cX7_share 150 = .ok (.iload 7, 2) := by decide +kernel
theorem dX7_share_152 : decode cX7_share 152 = .ok (.iload 4, 2) := by decide +kernel
theorem dX7_share_154 : decode cX7_share 154 = .ok (.iload_n 2, 1) := by decide +kernel
theorem dX7_share_155 : decode cX7_share 155 = .ok (.irem, 1) := by decide +kernel
theorem dX7_share_156 : decode cX7_share 156 = .ok (.if_icmp .ne 13, 3) := by decide +kernel
theorem dX7_share_159 : decode cX7_share 159 = .ok (.iload 6, 2) := by decide +kernel
theorem dX7_share_161 : decode cX7_share 161 = .ok (.iload_n 1, 1) := by decide +kernel
theorem dX7_share_162 : decode cX7_share 162 = .ok (.if_icmp .ge 7, 3) := by decide +kernel
theorem dX7_share_165 : decode cX7_share 165 = .ok (.iconst 1, 1) := by decide +kernel
theorem dX7_share_166 : decode cX7_share 166 = .ok (.goto 4, 3) := by decide +kernel
theorem dX7_share_169 : decode cX7_share 169 = .ok (.iconst 0, 1) := by decide +kernel
theorem dX7_share_170 : decode cX7_share 170 = .ok (.iadd, 1) := by decide +kernel
theorem dX7_share_171 : decode cX7_share 171 = .ok (.istore 5, 2) := by decide +kernel
theorem dX7_share_173 : decode cX7_share 173 = .ok (.iinc 6 1, 3) := by decide +kernel
theorem dX7_share_176 : decode cX7_share 176 = .ok (.goto (-72), 3) := by decide +kernel
theorem dX7_share_179 : decode cX7_share 179 = .ok (.iload 4, 2) := by decide +kernel
theorem dX7_share_181 : decode cX7_share 181 = .ok (.iload_n 2, 1) := by decide +kernel
theorem dX7_share_182 : decode cX7_share 182 = .ok (.idiv, 1) := by decide +kernel
theorem dX7_share_183 : decode cX7_share 183 = .ok (.iload 5, 2) := by decide +kernel
theorem dX7_share_185 : decode cX7_share 185 = .ok (.iload_n 3, 1) := by decide +kernel
theorem dX7_share_186 : decode cX7_share 186 = .ok (.if_icmp .ge 7, 3) := by decide +kernel
theorem dX7_share_189 : decode cX7_share 189 = .ok (.iconst 1, 1) := by decide +kernel
theorem dX7_share_190 : decode cX7_share 190 = .ok (.goto 4, 3) := by decide +kernel
theorem dX7_share_193 : decode cX7_share 193 = .ok (.iconst 0, 1) := by decide +kernel
theorem dX7_share_194 : decode cX7_share 194 = .ok (.iadd, 1) := by decide +kernel
theorem dX7_share_195 : decode cX7_share 195 = .ok (.ireturn, 1) := by decide +kernel
theorem dX7_feed_0 : decode cX7_feed 0 = .ok (.iload_n 2, 1) := by decide +kernel
theorem dX7_feed_1 : decode cX7_feed 1 = .ok (.iconst 1, 1) := by decide +kernel
theorem dX7_feed_2 : decode cX7_feed 2 = .ok (.iconst 4, 1) := by decide +kernel
theorem dX7_feed_3 : decode cX7_feed 3 = .ok (.invokestatic 45, 3) := by decide +kernel
theorem dX7_feed_6 : decode cX7_feed 6 = .ok (.ifCond .ne 10, 3) := by decide +kernel
theorem dX7_feed_9 : decode cX7_feed 9 = .ok (.aload_n 0, 1) := by decide +kernel
theorem dX7_feed_10 : decode cX7_feed 10 = .ok (.ldc 44, 2) := by decide +kernel
theorem dX7_feed_12 : decode cX7_feed 12 = .ok (.invokevirtual 53, 3) := by decide +kernel
theorem dX7_feed_15 : decode cX7_feed 15 = .ok (.ireturn, 1) := by decide +kernel
theorem dX7_feed_16 : decode cX7_feed 16 = .ok (.aload_n 0, 1) := by decide +kernel
theorem dX7_feed_17 : decode cX7_feed 17 = .ok (.getfield 172, 3) := by decide +kernel
theorem dX7_feed_20 : decode cX7_feed 20 = .ok (.iload_n 2, 1) := by decide +kernel
theorem dX7_feed_21 : decode cX7_feed 21 = .ok (.iadd, 1) := by decide +kernel
theorem dX7_feed_22 : decode cX7_feed 22 = .ok (.bipush 120, 2) := by decide +kernel
theorem dX7_feed_24 : decode cX7_feed 24 = .ok (.if_icmp .le 10, 3) := by decide +kernel
theorem dX7_feed_27 : decode cX7_feed 27 = .ok (.aload_n 0, 1) := by decide +kernel
theorem dX7_feed_28 : decode cX7_feed 28 = .ok (.ldc 64, 2) := by decide +kernel
theorem dX7_feed_30 : decode cX7_feed 30 = .ok (.invokevirtual 53, 3) := by decide +kernel
theorem dX7_feed_33 : decode cX7_feed 33 = .ok (.ireturn, 1) := by decide +kernel
theorem dX7_feed_34 : decode cX7_feed 34 = .ok (.iload_n 2, 1) := by decide +kernel
theorem dX7_feed_35 : decode cX7_feed 35 = .ok (.iconst 1, 1) := by decide +kernel
theorem dX7_feed_36 : decode cX7_feed 36 = .ok (.isub, 1) := by decide +kernel
theorem dX7_feed_37 : decode cX7_feed 37 = .ok (.istore_n 3, 1) := by decide +kernel
theorem dX7_feed_38 : decode cX7_feed 38 = .ok (.iload_n 3, 1) := by decide +kernel
theorem dX7_feed_39 : decode cX7_feed 39 = .ok (.ifCond .lt 38, 3) := by decide +kernel
theorem dX7_feed_42 : decode cX7_feed 42 = .ok (.aload_n 0, 1) := by decide +kernel
theorem dX7_feed_43 : decode cX7_feed 43 = .ok (.getfield 22, 3) := by decide +kernel
theorem dX7_feed_46 : decode cX7_feed 46 = .ok (.aload_n 0, 1) := by decide +kernel
theorem dX7_feed_47 : decode cX7_feed 47 = .ok (.getfield 172, 3) := by decide +kernel
theorem dX7_feed_50 : decode cX7_feed 50 = .ok (.iload_n 1, 1) := by decide +kernel
theorem dX7_feed_51 : decode cX7_feed 51 = .ok (.bipush 8, 2) := by decide +kernel
theorem dX7_feed_53 : decode cX7_feed 53 = .ok (.iload_n 3, 1) := by decide +kernel
theorem dX7_feed_54 : decode cX7_feed 54 = .ok (.imul, 1) := by decide +kernel
theorem dX7_feed_55 : decode cX7_feed 55 = .ok (.ishr, 1) := by decide +kernel
theorem dX7_feed_56 : decode cX7_feed 56 = .ok (.sipush 255, 3) := by decide +kernel
theorem dX7_feed_59 : decode cX7_feed 59 = .ok (.iand, 1) := by decide +kernel
theorem dX7_feed_60 : decode cX7_feed 60 = .ok (.iastore, 1) := by decide +kernel
theorem dX7_feed_61 : decode cX7_feed 61 = .ok (.aload_n 0, 1) := by decide +kernel
theorem dX7_feed_62 : decode cX7_feed 62 = .ok (.dup, 1) := by decide +kernel
theorem dX7_feed_63 : decode cX7_feed 63 = .ok (.getfield 172, 3) := by decide +kernel
theorem dX7_feed_66 : decode cX7_feed 66 = .ok (.iconst 1, 1) := by decide +kernel
theorem dX7_feed_67 : decode cX7_feed 67 = .ok (.iadd, 1) := by decide +kernel
theorem dX7_feed_68 : decode cX7_feed 68 = .ok (.putfield 172, 3) := by decide +kernel
theorem dX7_feed_71 : decode cX7_feed 71 = .ok (.iinc 3 (-1), 3) := by decide +kernel
theorem dX7_feed_74 : decode cX7_feed 74 = .ok (.goto (-36), 3) := by decide +kernel
theorem dX7_feed_77 : decode cX7_feed 77 = .ok (.aload_n 0, 1) := by decide +kernel
theorem dX7_feed_78 : decode cX7_feed 78 = .ok (.getfield 172, 3) := by decide +kernel
theorem dX7_feed_81 : decode cX7_feed 81 = .ok (.ireturn, 1) := by decide +kernel
theorem dX7_wipe_0 : decode cX7_wipe 0 = .ok (.aload_n 0, 1) := by decide +kernel
theorem dX7_wipe_1 : decode cX7_wipe 1 = .ok (.getfield 172, 3) := by decide +kernel
theorem dX7_wipe_4 : decode cX7_wipe 4 = .ok (.istore_n 1, 1) := by decide +kernel
theorem dX7_wipe_5 : decode cX7_wipe 5 = .ok (.aload_n 0, 1) := by decide +kernel
theorem dX7_wipe_6 : decode cX7_wipe 6 = .ok (.iconst 0, 1) := by decide +kernel
theorem dX7_wipe_7 : decode cX7_wipe 7 = .ok (.putfield 172, 3) := by decide +kernel
theorem dX7_wipe_10 : decode cX7_wipe 10 = .ok (.iload_n 1, 1) := by decide +kernel
theorem dX7_wipe_11 : decode cX7_wipe 11 = .ok (.ireturn, 1) := by decide +kernel
theorem dX7_byteAt_0 : decode cX7_byteAt 0 = .ok (.iload_n 1, 1) := by decide +kernel
theorem dX7_byteAt_1 : decode cX7_byteAt 1 = .ok (.aload_n 0, 1) := by decide +kernel
theorem dX7_byteAt_2 : decode cX7_byteAt 2 = .ok (.getfield 172, 3) := by decide +kernel
theorem dX7_byteAt_5 : decode cX7_byteAt 5 = .ok (.if_icmp .ge 12, 3) := by decide +kernel
theorem dX7_byteAt_8 : decode cX7_byteAt 8 = .ok (.aload_n 0, 1) := by decide +kernel
theorem dX7_byteAt_9 : decode cX7_byteAt 9 = .ok (.getfield 22, 3) := by decide +kernel
theorem dX7_byteAt_12 : decode cX7_byteAt 12 = .ok (.iload_n 1, 1) := by decide +kernel
theorem dX7_byteAt_13 : decode cX7_byteAt 13 = .ok (.iaload, 1) := by decide +kernel
theorem dX7_byteAt_14 : decode cX7_byteAt 14 = .ok (.goto 4, 3) := by decide +kernel
theorem dX7_byteAt_17 : decode cX7_byteAt 17 = .ok (.iconst (-1), 1) := by decide +kernel
theorem dX7_byteAt_18 : decode cX7_byteAt 18 = .ok (.ireturn, 1) := by decide +kernel
theorem dX7_isLetter_0 : decode cX7_isLetter 0 = .ok (.iload_n 0, 1) := by decide +kernel
theorem dX7_isLetter_1 : decode cX7_isLetter 1 = .ok (.bipush 97, 2) := by decide +kernel
theorem dX7_isLetter_3 : decode cX7_isLetter 3 = .ok (.bipush 122, 2) := by decide +kernel
theorem dX7_isLetter_5 : decode cX7_isLetter 5 = .ok (.invokestatic 45, 3) := by decide +kernel
theorem dX7_isLetter_8 : decode cX7_isLetter 8 = .ok (.ireturn, 1) := by decide +kernel
theorem dX7_isDigit_0 : decode cX7_isDigit 0 = .ok (.iload_n 0, 1) := by decide +kernel
theorem dX7_isDigit_1 : decode cX7_isDigit 1 = .ok (.bipush 48, 2) := by decide +kernel
theorem dX7_isDigit_3 : decode cX7_isDigit 3 = .ok (.bipush 57, 2) := by decide +kernel
theorem dX7_isDigit_5 : decode cX7_isDigit 5 = .ok (.invokestatic 45, 3) := by decide +kernel
theorem dX7_isDigit_8 : decode cX7_isDigit 8 = .ok (.ireturn, 1) := by decide +kernel
theorem dX7_advance_0 : decode cX7_advance 0 = .ok (.aload_n 0, 1) := by decide +kernel
theorem dX7_advance_1 : decode cX7_advance 1 = .ok (.aload_n 0, 1) := by decide +kernel
theorem dX7_advance_2 : decode cX7_advance 2 = .ok (.getfield 175, 3) := by decide +kernel
theorem dX7_advance_5 : decode cX7_advance 5 = .ok (.putfield 178, 3) := by decide +kernel
theorem dX7_advance_8 : decode cX7_advance 8 = .ok (.aload_n 0, 1) := by decide +kernel
theorem dX7_advance_9 : decode cX7_advance 9 = .ok (.aload_n 0, 1) := by decide +kernel
theorem dX7_advance_10 : decode cX7_advance 10 = .ok (.getfield 178, 3) := by decide +kernel
theorem dX7_advance_13 : decode cX7_advance 13 = .ok (.invokevirtual 181, 3) := by decide +kernel
theorem dX7_advance_16 : decode cX7_advance 16 = .ok (.bipush 32, 2) := by decide +kernel
theorem dX7_advance_18 : decode cX7_advance 18 = .ok (.if_icmp .ne 16, 3) := by decide +kernel
theorem dX7_advance_21 : decode cX7_advance 21 = .ok (.aload_n 0, 1) := by decide +kernel
theorem dX7_advance_22 : decode cX7_advance 22 = .ok (.dup, 1) := by decide +kernel
theorem dX7_advance_23 : decode cX7_advance 23 = .ok (.getfield 178, 3) := by decide +kernel
theorem dX7_advance_26 : decode cX7_advance 26 = .ok (.iconst 1, 1) := by decide +kernel
theorem dX7_advance_27 : decode cX7_advance 27 = .ok (.iadd, 1) := by decide +kernel
theorem dX7_advance_28 : decode cX7_advance 28 = .ok (.putfield 178, 3) := by decide +kernel
theorem dX7_advance_31 : decode cX7_advance 31 = .ok (.goto (-23), 3) := by decide +kernel
theorem dX7_advance_34 : decode cX7_advance 34 = .ok (.aload_n 0, 1) := by decide +kernel
theorem dX7_advance_35 : decode cX7_advance 35 = .ok (.aload_n 0, 1) := by decide +kernel
theorem dX7_advance_36 : decode cX7_advance 36 = .ok (.getfield 178, 3) := by decide +kernel
theorem dX7_advance_39 : decode cX7_advance 39 = .ok (.putfield 175, 3) := by decide +kernel
theorem dX7_advance_42 : decode cX7_advance 42 = .ok (.aload_n 0, 1) := by decide +kernel
theorem dX7_advance_43 : decode cX7_advance 43 = .ok (.aload_n 0, 1) := by decide +kernel
theorem dX7_advance_44 : decode cX7_advance 44 = .ok (.getfield 178, 3) := by decide +kernel
theorem dX7_advance_47 : decode cX7_advance 47 = .ok (.invokevirtual 181, 3) := by decide +kernel
theorem dX7_advance_50 : decode cX7_advance 50 = .ok (.istore_n 1, 1) := by decide +kernel
theorem dX7_advance_51 : decode cX7_advance 51 = .ok (.aload_n 0, 1) := by decide +kernel
theorem dX7_advance_52 : decode cX7_advance 52 = .ok (.iload_n 1, 1) := by decide +kernel
theorem dX7_advance_53 : decode cX7_advance 53 = .ok (.ifCond .ge 7, 3) := by decide +kernel
theorem dX7_advance_56 : decode cX7_advance 56 = .ok (.iconst 0, 1) := by decide +kernel
theorem dX7_advance_57 : decode cX7_advance 57 = .ok (.goto 26, 3) := by decide +kernel
theorem dX7_advance_60 : decode cX7_advance 60 = .ok (.iload_n 1, 1) := by decide +kernel
theorem dX7_advance_61 : decode cX7_advance 61 = .ok (.invokestatic 184, 3) := by decide +kernel
theorem dX7_advance_64 : decode cX7_advance 64 = .ok (.ifCond .eq 7, 3) := by decide +kernel
theorem dX7_advance_67 : decode cX7_advance 67 = .ok (.iconst 1, 1) := by decide +kernel
theorem dX7_advance_68 : decode cX7_advance 68 = .ok (.goto 15, 3) := by decide +kernel
theorem dX7_advance_71 : decode cX7_advance 71 = .ok (.iload_n 1, 1) := by decide +kernel
theorem dX7_advance_72 : decode cX7_advance 72 = .ok (.invokestatic 187, 3) := by decide +kernel
theorem dX7_advance_75 : decode cX7_advance 75 = .ok (.ifCond .eq 7, 3) := by decide +kernel
theorem dX7_advance_78 : decode cX7_advance 78 = .ok (.iconst 2, 1) := by decide +kernel
theorem dX7_advance_79 : decode cX7_advance 79 = .ok (.goto 4, 3) := by decide +kernel
theorem dX7_advance_82 : decode cX7_advance 82 = .ok (.iconst 3, 1) := by decide +kernel
theorem dX7_advance_83 : decode cX7_advance 83 = .ok (.putfield 190, 3) := by decide +kernel
theorem dX7_advance_86 : decode cX7_advance 86 = .ok (.aload_n 0, 1) := by decide +kernel
theorem dX7_advance_87 : decode cX7_advance 87 = .ok (.lconst 0, 1) := by decide +kernel
theorem dX7_advance_88 : decode cX7_advance 88 = .ok (.putfield 193, 3) := by decide +kernel
theorem dX7_advance_91 : decode cX7_advance 91 = .ok (.aload_n 0, 1) := by decide +kernel
theorem dX7_advance_92 : decode cX7_advance 92 = .ok (.aload_n 0, 1) := by decide +kernel
theorem dX7_advance_93 : decode cX7_advance 93 = .ok (.getfield 190, 3) := by decide +kernel
theorem dX7_advance_96 : decode cX7_advance 96 = .ok (.iconst 2, 1) := by decide +kernel
theorem dX7_advance_97 : decode cX7_advance 97 = .ok (.if_icmp .ne 7, 3) := by decide +kernel
theorem dX7_advance_100 : decode cX7_advance 100 = .ok (.iconst 0, 1) := by decide +kernel
theorem dX7_advance_101 : decode cX7_advance 101 = .ok (.goto 4, 3) := by decide +kernel
theorem dX7_advance_104 : decode cX7_advance 104 = .ok (.iload_n 1, 1) := by decide +kernel
theorem dX7_advance_105 : decode cX7_advance 105 = .ok (.putfield 197, 3) := by decide +kernel
theorem dX7_advance_108 : decode cX7_advance 108 = .ok (.aload_n 0, 1) := by decide +kernel
theorem dX7_advance_109 : decode cX7_advance 109 = .ok (.getfield 190, 3) := by decide +kernel
theorem dX7_advance_112 : decode cX7_advance 112 = .ok (.iconst 3, 1) := by decide +kernel
theorem dX7_advance_113 : decode cX7_advance 113 = .ok (.if_icmp .ne 13, 3) := by decide +kernel
theorem dX7_advance_116 : decode cX7_advance 116 = .ok (.aload_n 0, 1) := by decide +kernel
theorem dX7_advance_117 : decode cX7_advance 117 = .ok (.dup, 1) := by decide +kernel
theorem dX7_advance_118 : decode cX7_advance 118 = .ok (.getfield 175, 3) := by decide +kernel
theorem dX7_advance_121 : decode cX7_advance 121 = .ok (.iconst 1, 1) := by decide +kernel
theorem dX7_advance_122 : decode cX7_advance 122 = .ok (.iadd, 1) := by decide +kernel
theorem dX7_advance_123 : decode cX7_advance 123 = .ok (.putfield 175, 3) := by decide +kernel
theorem dX7_advance_126 : decode cX7_advance 126 = .ok (.aload_n 0, 1) := by decide +kernel
theorem dX7_advance_127 : decode cX7_advance 127 = .ok (.getfield 190, 3) := by decide +kernel
theorem dX7_advance_130 : decode cX7_advance 130 = .ok (.iconst 1, 1) := by decide +kernel
theorem dX7_advance_131 : decode cX7_advance 131 = .ok (.if_icmp .ne 76, 3) := by decide +kernel
theorem dX7_advance_134 : decode cX7_advance 134 = .ok (.aload_n 0, 1) := by decide +kernel
theorem dX7_advance_135 : decode cX7_advance 135 = .ok (.aload_n 0, 1) := by decide +kernel
theorem dX7_advance_136 : decode cX7_advance 136 = .ok (.getfield 175, 3) := by decide +kernel
theorem dX7_advance_139 : decode cX7_advance 139 = .ok (.invokevirtual 181, 3) := by decide +kernel
theorem dX7_advance_142 : decode cX7_advance 142 = .ok (.invokestatic 184, 3) := by decide +kernel
theorem dX7_advance_145 : decode cX7_advance 145 = .ok (.ifCond .eq 62, 3) := by decide +kernel
theorem dX7_advance_148 : decode cX7_advance 148 = .ok (.aload_n 0, 1) := by decide +kernel
theorem dX7_advance_149 : decode cX7_advance 149 = .ok (.aload_n 0, 1) := by decide +kernel
theorem dX7_advance_150 : decode cX7_advance 150 = .ok (.getfield 175, 3) := by decide +kernel
theorem dX7_advance_153 : decode cX7_advance 153 = .ok (.aload_n 0, 1) := by decide +kernel
theorem dX7_advance_154 : decode cX7_advance 154 = .ok (.getfield 178, 3) := by decide +kernel
theorem dX7_advance_157 : decode cX7_advance 157 = .ok (.isub, 1) := by decide +kernel
theorem dX7_advance_158 : decode cX7_advance 158 = .ok (.bipush 12, 2) := by decide +kernel
theorem dX7_advance_160 : decode cX7_advance 160 = .ok (.if_icmp .ge 28, 3) := by decide +kernel
theorem dX7_advance_163 : decode cX7_advance 163 = .ok (.ldc2_w 200, 3) := by decide +kernel
theorem dX7_advance_166 : decode cX7_advance 166 = .ok (.aload_n 0, 1) := by decide +kernel
theorem dX7_advance_167 : decode cX7_advance 167 = .ok (.getfield 193, 3) := by decide +kernel
theorem dX7_advance_170 : decode cX7_advance 170 = .ok (.lmul, 1) := by decide +kernel
theorem dX7_advance_171 : decode cX7_advance 171 = .ok (.aload_n 0, 1) := by decide +kernel
theorem dX7_advance_172 : decode cX7_advance 172 = .ok (.aload_n 0, 1) := by decide +kernel
theorem dX7_advance_173 : decode cX7_advance 173 = .ok (.getfield 175, 3) := by decide +kernel
theorem dX7_advance_176 : decode cX7_advance 176 = .ok (.invokevirtual 181, 3) := by decide +kernel
theorem dX7_advance_179 : decode cX7_advance 179 = .ok (.i2l, 1) := by decide +kernel
theorem dX7_advance_180 : decode cX7_advance 180 = .ok (.ladd, 1) := by decide +kernel
theorem dX7_advance_181 : decode cX7_advance 181 = .ok (.ldc2_w 202, 3) := by decide +kernel
theorem dX7_advance_184 : decode cX7_advance 184 = .ok (.lsub, 1) := by decide +kernel
theorem dX7_advance_185 : decode cX7_advance 185 = .ok (.goto 6, 3) := by decide +kernel
theorem dX7_advance_188 : decode cX7_advance 188 = .ok (.ldc2_w 204, 3) := by decide +kernel
theorem dX7_advance_191 : decode cX7_advance 191 = .ok (.putfield 193, 3) := by decide +kernel
theorem dX7_advance_194 : decode cX7_advance 194 = .ok (.aload_n 0, 1) := by decide +kernel
theorem dX7_advance_195 : decode cX7_advance 195 = .ok (.dup, 1) := by decide +kernel
theorem dX7_advance_196 : decode cX7_advance 196 = .ok (.getfield 175, 3) := by decide +kernel
theorem dX7_advance_199 : decode cX7_advance 199 = .ok (.iconst 1, 1) := by decide +kernel
theorem dX7_advance_200 : decode cX7_advance 200 = .ok (.iadd, 1) := by decide +kernel
theorem dX7_advance_201 : decode cX7_advance 201 = .ok (.putfield 175, 3) := by decide +kernel
theorem dX7_advance_204 : decode cX7_advance 204 = .ok (.goto (-78), 3) := by decide +kernel
theorem dX7_advance_207 : decode cX7_advance 207 = .ok (.aload_n 0, 1) := by decide +kernel
theorem dX7_advance_208 : decode cX7_advance 208 = .ok (.getfield 190, 3) := by decide +kernel
theorem dX7_advance_211 : decode cX7_advance 211 = .ok (.iconst 2, 1) := by decide +kernel
theorem dX7_advance_212 : decode cX7_advance 212 = .ok (.if_icmp .ne 68, 3) := by decide +kernel
theorem dX7_advance_215 : decode cX7_advance 215 = .ok (.aload_n 0, 1) := by decide +kernel
theorem dX7_advance_216 : decode cX7_advance 216 = .ok (.aload_n 0, 1) := by decide +kernel
theorem dX7_advance_217 : decode cX7_advance 217 = .ok (.getfield 175, 3) := by decide +kernel
theorem dX7_advance_220 : decode cX7_advance 220 = .ok (.invokevirtual 181, 3) := by decide +kernel
theorem dX7_advance_223 : decode cX7_advance 223 = .ok (.invokestatic 187, 3) := by decide +kernel
theorem dX7_advance_226 : decode cX7_advance 226 = .ok (.ifCond .eq 54, 3) := by decide +kernel
theorem dX7_advance_229 : decode cX7_advance 229 = .ok (.aload_n 0, 1) := by decide +kernel
theorem dX7_advance_230 : decode cX7_advance 230 = .ok (.aload_n 0, 1) := by decide +kernel
theorem dX7_advance_231 : decode cX7_advance 231 = .ok (.getfield 197, 3) := by decide +kernel
theorem dX7_advance_234 : decode cX7_advance 234 = .ok (.bipush 99, 2) := by decide +kernel
theorem dX7_advance_236 : decode cX7_advance 236 = .ok (.if_icmp .le 9, 3) := by decide +kernel
theorem dX7_advance_239 : decode cX7_advance 239 = .ok (.sipush 1000, 3) := by decide +kernel
theorem dX7_advance_242 : decode cX7_advance 242 = .ok (.goto 22, 3) := by decide +kernel
theorem dX7_advance_245 : decode cX7_advance 245 = .ok (.bipush 10, 2) := by decide +kernel
theorem dX7_advance_247 : decode cX7_advance 247 = .ok (.aload_n 0, 1) := by decide +kernel
theorem dX7_advance_248 : decode cX7_advance 248 = .ok (.getfield 197, 3) := by decide +kernel
theorem dX7_advance_251 : decode cX7_advance 251 = .ok (.imul, 1) := by decide +kernel
theorem dX7_advance_252 : decode cX7_advance 252 = .ok (.aload_n 0, 1) := by decide +kernel
theorem dX7_advance_253 : decode cX7_advance 253 = .ok (.aload_n 0, 1) := by decide +kernel
theorem dX7_advance_254 : decode cX7_advance 254 = .ok (.getfield 175, 3) := by decide +kernel
theorem dX7_advance_257 : decode cX7_advance 257 = .ok (.invokevirtual 181, 3) := by decide +kernel
theorem dX7_advance_260 : decode cX7_advance 260 = .ok (.iadd, 1) := by decide +kernel
theorem dX7_advance_261 : decode cX7_advance 261 = .ok (.bipush 48, 2) := by decide +kernel
theorem dX7_advance_263 : decode cX7_advance 263 = .ok (.isub, 1) := by decide +kernel
theorem dX7_advance_264 : decode cX7_advance 264 = .ok (.putfield 197, 3) := by decide +kernel
theorem dX7_advance_267 : decode cX7_advance 267 = .ok (.aload_n 0, 1) := by decide +kernel
theorem dX7_advance_268 : decode cX7_advance 268 = .ok (.dup, 1) := by decide +kernel
theorem dX7_advance_269 : decode cX7_advance 269 = .ok (.getfield 175, 3) := by decide +kernel
theorem dX7_advance_272 : decode cX7_advance 272 = .ok (.iconst 1, 1) := by decide +kernel
theorem dX7_advance_273 : decode cX7_advance 273 = .ok (.iadd, 1) := by decide +kernel
theorem dX7_advance_274 : decode cX7_advance 274 = .ok (.putfield 175, 3) := by decide +kernel
theorem dX7_advance_277 : decode cX7_advance 277 = .ok (.goto (-70), 3) := by decide +kernel
theorem dX7_advance_280 : decode cX7_advance 280 = .ok (.return_, 1) := by decide +kernel
theorem dX7_isWord_0 : decode cX7_isWord 0 = .ok (.aload_n 0, 1) := by decide +kernel
theorem dX7_isWord_1 : decode cX7_isWord 1 = .ok (.getfield 190, 3) := by decide +kernel
theorem dX7_isWord_4 : decode cX7_isWord 4 = .ok (.iconst 1, 1) := by decide +kernel
theorem dX7_isWord_5 : decode cX7_isWord 5 = .ok (.if_icmp .ne 16, 3) := by decide +kernel
theorem dX7_isWord_8 : decode cX7_isWord 8 = .ok (.aload_n 0, 1) := by decide +kernel
theorem dX7_isWord_9 : decode cX7_isWord 9 = .ok (.getfield 193, 3) := by decide +kernel
theorem dX7_isWord_12 : decode cX7_isWord 12 = .ok (.lload_n 1, 1) := by decide +kernel
theorem dX7_isWord_13 : decode cX7_isWord 13 = .ok (.lcmp, 1) := by decide +kernel
theorem dX7_isWord_14 : decode cX7_isWord 14 = .ok (.ifCond .ne 7, 3) := by decide +kernel
theorem dX7_isWord_17 : decode cX7_isWord 17 = .ok (.iconst 1, 1) := by decide +kernel
theorem dX7_isWord_18 : decode cX7_isWord 18 = .ok (.goto 4, 3) := by decide +kernel
theorem dX7_isWord_21 : decode cX7_isWord 21 = .ok (.iconst 0, 1) := by decide +kernel
theorem dX7_isWord_22 : decode cX7_isWord 22 = .ok (.ireturn, 1) := by decide +kernel
theorem dX7_kindHere_0 : decode cX7_kindHere 0 = .ok (.aload_n 0, 1) := by decide +kernel
theorem dX7_kindHere_1 : decode cX7_kindHere 1 = .ok (.ldc2_w 206, 3) := by decide +kernel
theorem dX7_kindHere_4 : decode cX7_kindHere 4 = .ok (.invokevirtual 208, 3) := by decide +kernel
theorem dX7_kindHere_7 : decode cX7_kindHere 7 = .ok (.ifCond .eq 7, 3) := by decide +kernel
theorem dX7_kindHere_10 : decode cX7_kindHere 10 = .ok (.iconst 0, 1) := by decide +kernel
theorem dX7_kindHere_11 : decode cX7_kindHere 11 = .ok (.goto 74, 3) := by decide +kernel
theorem dX7_kindHere_14 : decode cX7_kindHere 14 = .ok (.aload_n 0, 1) := by decide +kernel
theorem dX7_kindHere_15 : decode cX7_kindHere 15 = .ok (.ldc2_w 212, 3) := by decide +kernel
theorem dX7_kindHere_18 : decode cX7_kindHere 18 = .ok (.invokevirtual 208, 3) := by decide +kernel
theorem dX7_kindHere_21 : decode cX7_kindHere 21 = .ok (.ifCond .eq 7, 3) := by decide +kernel
theorem dX7_kindHere_24 : decode cX7_kindHere 24 = .ok (.iconst 1, 1) := by decide +kernel
theorem dX7_kindHere_25 : decode cX7_kindHere 25 = .ok (.goto 60, 3) := by decide +kernel
theorem dX7_kindHere_28 : decode cX7_kindHere 28 = .ok (.aload_n 0, 1) := by decide +kernel
theorem dX7_kindHere_29 : decode cX7_kindHere 29 = .ok (.ldc2_w 214, 3) := by decide +kernel
theorem dX7_kindHere_32 : decode cX7_kindHere 32 = .ok (.invokevirtual 208, 3) := by decide +kernel
theorem dX7_kindHere_35 : decode cX7_kindHere 35 = .ok (.ifCond .eq 7, 3) := by decide +kernel
theorem dX7_kindHere_38 : decode cX7_kindHere 38 = .ok (.iconst 2, 1) := by decide +kernel
theorem dX7_kindHere_39 : decode cX7_kindHere 39 = .ok (.goto 46, 3) := by decide +kernel
theorem dX7_kindHere_42 : decode cX7_kindHere 42 = .ok (.aload_n 0, 1) := by decide +kernel
theorem dX7_kindHere_43 : decode cX7_kindHere 43 = .ok (.ldc2_w 216, 3) := by decide +kernel
theorem dX7_kindHere_46 : decode cX7_kindHere 46 = .ok (.invokevirtual 208, 3) := by decide +kernel
theorem dX7_kindHere_49 : decode cX7_kindHere 49 = .ok (.ifCond .eq 7, 3) := by decide +kernel
theorem dX7_kindHere_52 : decode cX7_kindHere 52 = .ok (.iconst 3, 1) := by decide +kernel
theorem dX7_kindHere_53 : decode cX7_kindHere 53 = .ok (.goto 32, 3) := by decide +kernel
theorem dX7_kindHere_56 : decode cX7_kindHere 56 = .ok (.aload_n 0, 1) := by decide +kernel
theorem dX7_kindHere_57 : decode cX7_kindHere 57 = .ok (.ldc2_w 218, 3) := by decide +kernel
theorem dX7_kindHere_60 : decode cX7_kindHere 60 = .ok (.invokevirtual 208, 3) := by decide +kernel
theorem dX7_kindHere_63 : decode cX7_kindHere 63 = .ok (.ifCond .eq 7, 3) := by decide +kernel
theorem dX7_kindHere_66 : decode cX7_kindHere 66 = .ok (.iconst 4, 1) := by decide +kernel
theorem dX7_kindHere_67 : decode cX7_kindHere 67 = .ok (.goto 18, 3) := by decide +kernel
theorem dX7_kindHere_70 : decode cX7_kindHere 70 = .ok (.aload_n 0, 1) := by decide +kernel
theorem dX7_kindHere_71 : decode cX7_kindHere 71 = .ok (.ldc2_w 220, 3) := by decide +kernel
theorem dX7_kindHere_74 : decode cX7_kindHere 74 = .ok (.invokevirtual 208, 3) := by decide +kernel
theorem dX7_kindHere_77 : decode cX7_kindHere 77 = .ok (.ifCond .eq 7, 3) := by decide +kernel
theorem dX7_kindHere_80 : decode cX7_kindHere 80 = .ok (.iconst 5, 1) := by decide +kernel
theorem dX7_kindHere_81 : decode cX7_kindHere 81 = .ok (.goto 4, 3) := by decide +kernel
theorem dX7_kindHere_84 : decode cX7_kindHere 84 = .ok (.iconst (-1), 1) := by decide +kernel
theorem dX7_kindHere_85 : decode cX7_kindHere 85 = .ok (.ireturn, 1) := by decide +kernel
theorem dX7_wantNumber_0 : decode cX7_wantNumber 0 = .ok (.aload_n 0, 1) := by decide +kernel
theorem dX7_wantNumber_1 : decode cX7_wantNumber 1 = .ok (.getfield 197, 3) := by decide +kernel
theorem dX7_wantNumber_4 : decode cX7_wantNumber 4 = .ok (.istore_n 3, 1) := by decide +kernel
theorem dX7_wantNumber_5 : decode cX7_wantNumber 5 = .ok (.aload_n 0, 1) := by decide +kernel
theorem dX7_wantNumber_6 : decode cX7_wantNumber 6 = .ok (.aload_n 0, 1) := by decide +kernel
theorem dX7_wantNumber_7 : decode cX7_wantNumber 7 = .ok (.getfield 222, 3) := by decide +kernel
theorem dX7_wantNumber_10 : decode cX7_wantNumber 10 = .ok (.ifCond .eq 24, 3) := by decide +kernel
theorem dX7_wantNumber_13 : decode cX7_wantNumber 13 = .ok (.aload_n 0, 1) := by decide +kernel
theorem dX7_wantNumber_14 : decode cX7_wantNumber 14 = .ok (.getfield 190, 3) := by decide +kernel
theorem dX7_wantNumber_17 : decode cX7_wantNumber 17 = .ok (.iconst 2, 1) := by decide +kernel
theorem dX7_wantNumber_18 : decode cX7_wantNumber 18 = .ok (.if_icmp .ne 16, 3) := by decide +kernel
theorem dX7_wantNumber_21 : decode cX7_wantNumber 21 = .ok (.iload_n 3, 1) := by decide +kernel
theorem dX7_wantNumber_22 : decode cX7_wantNumber 22 = .ok (.iload_n 1, 1) := by decide +kernel
theorem dX7_wantNumber_23 : decode cX7_wantNumber 23 = .ok (.iload_n 2, 1) := by decide +kernel
theorem dX7_wantNumber_24 : decode cX7_wantNumber 24 = .ok (.invokestatic 45, 3) := by decide +kernel
theorem dX7_wantNumber_27 : decode cX7_wantNumber 27 = .ok (.ifCond .eq 7, 3) := by decide +kernel
theorem dX7_wantNumber_30 : decode cX7_wantNumber 30 = .ok (.iconst 1, 1) := by decide +kernel
theorem dX7_wantNumber_31 : decode cX7_wantNumber 31 = .ok (.goto 4, 3) := by decide +kernel
theorem dX7_wantNumber_34 : decode cX7_wantNumber 34 = .ok (.iconst 0, 1) := by decide +kernel
theorem dX7_wantNumber_35 : decode cX7_wantNumber 35 = .ok (.putfield 222, 3) := by decide +kernel
theorem dX7_wantNumber_38 : decode cX7_wantNumber 38 = .ok (.aload_n 0, 1) := by decide +kernel
theorem dX7_wantNumber_39 : decode cX7_wantNumber 39 = .ok (.getfield 222, 3) := by decide +kernel
theorem dX7_wantNumber_42 : decode cX7_wantNumber 42 = .ok (.ifCond .eq 7, 3) := by decide +kernel
theorem dX7_wantNumber_45 : decode cX7_wantNumber 45 = .ok (.aload_n 0, 1) := by decide +kernel
theorem dX7_wantNumber_46 : decode cX7_wantNumber 46 = .ok (.invokevirtual 226, 3) := by decide +kernel
theorem dX7_wantNumber_49 : decode cX7_wantNumber 49 = .ok (.iload_n 3, 1) := by decide +kernel
theorem dX7_wantNumber_50 : decode cX7_wantNumber 50 = .ok (.ireturn, 1) := by decide +kernel
theorem dX7_mayWant_0 : decode cX7_mayWant 0 = .ok (.aload_n 0, 1) := by decide +kernel
theorem dX7_mayWant_1 : decode cX7_mayWant 1 = .ok (.getfield 222, 3) := by decide +kernel
theorem dX7_mayWant_4 : decode cX7_mayWant 4 = .ok (.ifCond .eq 11, 3) := by decide +kernel
theorem dX7_mayWant_7 : decode cX7_mayWant 7 = .ok (.aload_n 0, 1) := by decide +kernel
theorem dX7_mayWant_8 : decode cX7_mayWant 8 = .ok (.lload_n 1, 1) := by decide +kernel
theorem dX7_mayWant_9 : decode cX7_mayWant 9 = .ok (.invokevirtual 208, 3) := by decide +kernel
theorem dX7_mayWant_12 : decode cX7_mayWant 12 = .ok (.ifCond .ne 6, 3) := by decide +kernel
theorem dX7_mayWant_15 : decode cX7_mayWant 15 = .ok (.iload 5, 2) := by decide +kernel
theorem dX7_mayWant_17 : decode cX7_mayWant 17 = .ok (.ireturn, 1) := by decide +kernel
theorem dX7_mayWant_18 : decode cX7_mayWant 18 = .ok (.aload_n 0, 1) := by decide +kernel
theorem dX7_mayWant_19 : decode cX7_mayWant 19 = .ok (.invokevirtual 226, 3) := by decide +kernel
theorem dX7_mayWant_22 : decode cX7_mayWant 22 = .ok (.aload_n 0, 1) := by decide +kernel
theorem dX7_mayWant_23 : decode cX7_mayWant 23 = .ok (.iload_n 3, 1) := by decide +kernel
theorem dX7_mayWant_24 : decode cX7_mayWant 24 = .ok (.iload 4, 2) := by decide +kernel
theorem dX7_mayWant_26 : decode cX7_mayWant 26 = .ok (.invokevirtual 229, 3) := by decide +kernel
theorem dX7_mayWant_29 : decode cX7_mayWant 29 = .ok (.ireturn, 1) := by decide +kernel
theorem dX7_wantRod_0 : decode cX7_wantRod 0 = .ok (.aload_n 0, 1) := by decide +kernel
theorem dX7_wantRod_1 : decode cX7_wantRod 1 = .ok (.aload_n 0, 1) := by decide +kernel
theorem dX7_wantRod_2 : decode cX7_wantRod 2 = .ok (.getfield 7, 3) := by decide +kernel
theorem dX7_wantRod_5 : decode cX7_wantRod 5 = .ok (.bipush 8, 2) := by decide +kernel
theorem dX7_wantRod_7 : decode cX7_wantRod 7 = .ok (.iaload, 1) := by decide +kernel
theorem dX7_wantRod_8 : decode cX7_wantRod 8 = .ok (.bipush 8, 2) := by decide +kernel
theorem dX7_wantRod_10 : decode cX7_wantRod 10 = .ok (.if_icmp .ge 7, 3) := by decide +kernel
theorem dX7_wantRod_13 : decode cX7_wantRod 13 = .ok (.iconst 1, 1) := by decide +kernel
theorem dX7_wantRod_14 : decode cX7_wantRod 14 = .ok (.goto 4, 3) := by decide +kernel
theorem dX7_wantRod_17 : decode cX7_wantRod 17 = .ok (.iconst 0, 1) := by decide +kernel
theorem dX7_wantRod_18 : decode cX7_wantRod 18 = .ok (.putfield 222, 3) := by decide +kernel
theorem dX7_wantRod_21 : decode cX7_wantRod 21 = .ok (.aload_n 0, 1) := by decide +kernel
theorem dX7_wantRod_22 : decode cX7_wantRod 22 = .ok (.getfield 222, 3) := by decide +kernel
theorem dX7_wantRod_25 : decode cX7_wantRod 25 = .ok (.ifCond .ne 4, 3) := by decide +kernel
theorem dX7_wantRod_28 : decode cX7_wantRod 28 = .ok (.return_, 1) := by decide +kernel
theorem dX7_wantRod_29 : decode cX7_wantRod 29 = .ok (.aload_n 0, 1) := by decide +kernel
theorem dX7_wantRod_30 : decode cX7_wantRod 30 = .ok (.invokevirtual 226, 3) := by decide +kernel
theorem dX7_wantRod_33 : decode cX7_wantRod 33 = .ok (.aload_n 0, 1) := by decide +kernel
theorem dX7_wantRod_34 : decode cX7_wantRod 34 = .ok (.aload_n 0, 1) := by decide +kernel
theorem dX7_wantRod_35 : decode cX7_wantRod 35 = .ok (.ldc2_w 232, 3) := by decide +kernel
theorem dX7_wantRod_38 : decode cX7_wantRod 38 = .ok (.invokevirtual 208, 3) := by decide +kernel
theorem dX7_wantRod_41 : decode cX7_wantRod 41 = .ok (.putfield 222, 3) := by decide +kernel
theorem dX7_wantRod_44 : decode cX7_wantRod 44 = .ok (.aload_n 0, 1) := by decide +kernel
theorem dX7_wantRod_45 : decode cX7_wantRod 45 = .ok (.getfield 222, 3) := by decide +kernel
theorem dX7_wantRod_48 : decode cX7_wantRod 48 = .ok (.ifCond .ne 4, 3) := by decide +kernel
theorem dX7_wantRod_51 : decode cX7_wantRod 51 = .ok (.return_, 1) := by decide +kernel
theorem dX7_wantRod_52 : decode cX7_wantRod 52 = .ok (.aload_n 0, 1) := by decide +kernel
theorem dX7_wantRod_53 : decode cX7_wantRod 53 = .ok (.invokevirtual 226, 3) := by decide +kernel
theorem dX7_wantRod_56 : decode cX7_wantRod 56 = .ok (.aload_n 0, 1) := by decide +kernel
theorem dX7_wantRod_57 : decode cX7_wantRod 57 = .ok (.iconst 0, 1) := by decide +kernel
theorem dX7_wantRod_58 : decode cX7_wantRod 58 = .ok (.bipush 15, 2) := by decide +kernel
theorem dX7_wantRod_60 : decode cX7_wantRod 60 = .ok (.invokevirtual 229, 3) := by decide +kernel
theorem dX7_wantRod_63 : decode cX7_wantRod 63 = .ok (.istore_n 2, 1) := by decide +kernel
theorem dX7_wantRod_64 : decode cX7_wantRod 64 = .ok (.aload_n 0, 1) := by decide +kernel
theorem dX7_wantRod_65 : decode cX7_wantRod 65 = .ok (.ldc2_w 234, 3) := by decide +kernel
theorem dX7_wantRod_68 : decode cX7_wantRod 68 = .ok (.iconst 0, 1) := by decide +kernel
theorem dX7_wantRod_69 : decode cX7_wantRod 69 = .ok (.bipush 60, 2) := by decide +kernel
theorem dX7_wantRod_71 : decode cX7_wantRod 71 = .ok (.bipush 10, 2) := by decide +kernel
theorem dX7_wantRod_73 : decode cX7_wantRod 73 = .ok (.invokevirtual 236, 3) := by decide +kernel
theorem dX7_wantRod_76 : decode cX7_wantRod 76 = .ok (.istore_n 3, 1) := by decide +kernel
theorem dX7_wantRod_77 : decode cX7_wantRod 77 = .ok (.aload_n 0, 1) := by decide +kernel
theorem dX7_wantRod_78 : decode cX7_wantRod 78 = .ok (.getfield 222, 3) := by decide +kernel
theorem dX7_wantRod_81 : decode cX7_wantRod 81 = .ok (.ifCond .eq 17, 3) := by decide +kernel
theorem dX7_wantRod_84 : decode cX7_wantRod 84 = .ok (.aload_n 0, 1) := by decide +kernel
theorem dX7_wantRod_85 : decode cX7_wantRod 85 = .ok (.ldc2_w 240, 3) := by decide +kernel
theorem dX7_wantRod_88 : decode cX7_wantRod 88 = .ok (.invokevirtual 208, 3) := by decide +kernel
theorem dX7_wantRod_91 : decode cX7_wantRod 91 = .ok (.ifCond .eq 7, 3) := by decide +kernel
theorem dX7_wantRod_94 : decode cX7_wantRod 94 = .ok (.iconst 1, 1) := by decide +kernel
theorem dX7_wantRod_95 : decode cX7_wantRod 95 = .ok (.goto 4, 3) := by decide +kernel
theorem dX7_wantRod_98 : decode cX7_wantRod 98 = .ok (.iconst 0, 1) := by decide +kernel
theorem dX7_wantRod_99 : decode cX7_wantRod 99 = .ok (.istore 4, 2) := by decide +kernel
theorem dX7_wantRod_101 : decode cX7_wantRod 101 = .ok (.aload_n 0, 1) := by decide +kernel
theorem dX7_wantRod_102 : decode cX7_wantRod 102 = .ok (.ldc2_w 240, 3) := by decide +kernel
theorem dX7_wantRod_105 : decode cX7_wantRod 105 = .ok (.iconst 0, 1) := by decide +kernel
theorem dX7_wantRod_106 : decode cX7_wantRod 106 = .ok (.bipush 23, 2) := by decide +kernel
theorem dX7_wantRod_108 : decode cX7_wantRod 108 = .ok (.iconst 0, 1) := by decide +kernel
theorem dX7_wantRod_109 : decode cX7_wantRod 109 = .ok (.invokevirtual 236, 3) := by decide +kernel
theorem dX7_wantRod_112 : decode cX7_wantRod 112 = .ok (.istore 5, 2) := by decide +kernel
theorem dX7_wantRod_114 : decode cX7_wantRod 114 = .ok (.iload 4, 2) := by decide +kernel
theorem dX7_wantRod_116 : decode cX7_wantRod 116 = .ok (.ifCond .eq 21, 3) := by decide +kernel
theorem dX7_wantRod_119 : decode cX7_wantRod 119 = .ok (.aload_n 0, 1) := by decide +kernel
theorem dX7_wantRod_120 : decode cX7_wantRod 120 = .ok (.getfield 222, 3) := by decide +kernel
theorem dX7_wantRod_123 : decode cX7_wantRod 123 = .ok (.ifCond .eq 14, 3) := by decide +kernel
theorem dX7_wantRod_126 : decode cX7_wantRod 126 = .ok (.aload_n 0, 1) := by decide +kernel
theorem dX7_wantRod_127 : decode cX7_wantRod 127 = .ok (.aload_n 0, 1) := by decide +kernel
theorem dX7_wantRod_128 : decode cX7_wantRod 128 = .ok (.ldc2_w 242, 3) := by decide +kernel
theorem dX7_wantRod_131 : decode cX7_wantRod 131 = .ok (.invokevirtual 208, 3) := by decide +kernel
theorem dX7_wantRod_134 : decode cX7_wantRod 134 = .ok (.putfield 222, 3) := by decide +kernel
theorem dX7_wantRod_137 : decode cX7_wantRod 137 = .ok (.iload 4, 2) := by decide +kernel
theorem dX7_wantRod_139 : decode cX7_wantRod 139 = .ok (.ifCond .eq 17, 3) := by decide +kernel
theorem dX7_wantRod_142 : decode cX7_wantRod 142 = .ok (.aload_n 0, 1) := by decide +kernel
theorem dX7_wantRod_143 : decode cX7_wantRod 143 = .ok (.ldc2_w 242, 3) := by decide +kernel
theorem dX7_wantRod_146 : decode cX7_wantRod 146 = .ok (.iconst 0, 1) := by decide +kernel
theorem dX7_wantRod_147 : decode cX7_wantRod 147 = .ok (.bipush 23, 2) := by decide +kernel
theorem dX7_wantRod_149 : decode cX7_wantRod 149 = .ok (.iconst 0, 1) := by decide +kernel
theorem dX7_wantRod_150 : decode cX7_wantRod 150 = .ok (.invokevirtual 236, 3) := by decide +kernel
theorem dX7_wantRod_153 : decode cX7_wantRod 153 = .ok (.goto 4, 3) := by decide +kernel
theorem dX7_wantRod_156 : decode cX7_wantRod 156 = .ok (.iconst 0, 1) := by decide +kernel
theorem dX7_wantRod_157 : decode cX7_wantRod 157 = .ok (.istore 6, 2) := by decide +kernel
theorem dX7_wantRod_159 : decode cX7_wantRod 159 = .ok (.aload_n 0, 1) := by decide +kernel
theorem dX7_wantRod_160 : decode cX7_wantRod 160 = .ok (.getfield 222, 3) := by decide +kernel
theorem dX7_wantRod_163 : decode cX7_wantRod 163 = .ok (.ifCond .eq 14, 3) := by decide +kernel
theorem dX7_wantRod_166 : decode cX7_wantRod 166 = .ok (.aload_n 0, 1) := by decide +kernel
theorem dX7_wantRod_167 : decode cX7_wantRod 167 = .ok (.iload_n 1, 1) := by decide +kernel
theorem dX7_wantRod_168 : decode cX7_wantRod 168 = .ok (.iload_n 2, 1) := by decide +kernel
theorem dX7_wantRod_169 : decode cX7_wantRod 169 = .ok (.iload_n 3, 1) := by decide +kernel
theorem dX7_wantRod_170 : decode cX7_wantRod 170 = .ok (.iload 5, 2) := by decide +kernel
theorem dX7_wantRod_172 : decode cX7_wantRod 172 = .ok (.iload 6, 2) := by decide +kernel
theorem dX7_wantRod_174 : decode cX7_wantRod 174 = .ok (.invokevirtual 65, 3) := by decide +kernel
theorem dX7_wantRod_177 : decode cX7_wantRod 177 = .ok (.return_, 1) := by decide +kernel
theorem dX7_wantCloud_0 : decode cX7_wantCloud 0 = .ok (.aload_n 0, 1) := by decide +kernel
theorem dX7_wantCloud_1 : decode cX7_wantCloud 1 = .ok (.invokevirtual 226, 3) := by decide +kernel
theorem dX7_wantCloud_4 : decode cX7_wantCloud 4 = .ok (.aload_n 0, 1) := by decide +kernel
theorem dX7_wantCloud_5 : decode cX7_wantCloud 5 = .ok (.iconst 0, 1) := by decide +kernel
theorem dX7_wantCloud_6 : decode cX7_wantCloud 6 = .ok (.bipush 15, 2) := by decide +kernel
theorem dX7_wantCloud_8 : decode cX7_wantCloud 8 = .ok (.invokevirtual 229, 3) := by decide +kernel
theorem dX7_wantCloud_11 : decode cX7_wantCloud 11 = .ok (.istore_n 1, 1) := by decide +kernel
theorem dX7_wantCloud_12 : decode cX7_wantCloud 12 = .ok (.aload_n 0, 1) := by decide +kernel
theorem dX7_wantCloud_13 : decode cX7_wantCloud 13 = .ok (.ldc2_w 244, 3) := by decide +kernel
theorem dX7_wantCloud_16 : decode cX7_wantCloud 16 = .ok (.iconst 0, 1) := by decide +kernel
theorem dX7_wantCloud_17 : decode cX7_wantCloud 17 = .ok (.bipush 99, 2) := by decide +kernel
theorem dX7_wantCloud_19 : decode cX7_wantCloud 19 = .ok (.aload_n 0, 1) := by decide +kernel
theorem dX7_wantCloud_20 : decode cX7_wantCloud 20 = .ok (.getfield 7, 3) := by decide +kernel
theorem dX7_wantCloud_23 : decode cX7_wantCloud 23 = .ok (.iconst 1, 1) := by decide +kernel
theorem dX7_wantCloud_24 : decode cX7_wantCloud 24 = .ok (.iaload, 1) := by decide +kernel
theorem dX7_wantCloud_25 : decode cX7_wantCloud 25 = .ok (.invokevirtual 236, 3) := by decide +kernel
theorem dX7_wantCloud_28 : decode cX7_wantCloud 28 = .ok (.istore_n 2, 1) := by decide +kernel
theorem dX7_wantCloud_29 : decode cX7_wantCloud 29 = .ok (.aload_n 0, 1) := by decide +kernel
theorem dX7_wantCloud_30 : decode cX7_wantCloud 30 = .ok (.getfield 222, 3) := by decide +kernel
theorem dX7_wantCloud_33 : decode cX7_wantCloud 33 = .ok (.ifCond .eq 37, 3) := by decide +kernel
theorem dX7_wantCloud_36 : decode cX7_wantCloud 36 = .ok (.aload_n 0, 1) := by decide +kernel
theorem dX7_wantCloud_37 : decode cX7_wantCloud 37 = .ok (.ldc2_w 246, 3) := by decide +kernel
theorem dX7_wantCloud_40 : decode cX7_wantCloud 40 = .ok (.invokevirtual 208, 3) := by decide +kernel
theorem dX7_wantCloud_43 : decode cX7_wantCloud 43 = .ok (.ifCond .ne 23, 3) := by decide +kernel
theorem dX7_wantCloud_46 : decode cX7_wantCloud 46 = .ok (.aload_n 0, 1) := by decide +kernel
theorem dX7_wantCloud_47 : decode cX7_wantCloud 47 = .ok (.ldc2_w 248, 3) := by decide +kernel
theorem dX7_wantCloud_50 : decode cX7_wantCloud 50 = .ok (.invokevirtual 208, 3) := by decide +kernel
theorem dX7_wantCloud_53 : decode cX7_wantCloud 53 = .ok (.ifCond .ne 13, 3) := by decide +kernel
theorem dX7_wantCloud_56 : decode cX7_wantCloud 56 = .ok (.aload_n 0, 1) := by decide +kernel
theorem dX7_wantCloud_57 : decode cX7_wantCloud 57 = .ok (.ldc2_w 250, 3) := by decide +kernel
theorem dX7_wantCloud_60 : decode cX7_wantCloud 60 = .ok (.invokevirtual 208, 3) := by decide +kernel
theorem dX7_wantCloud_63 : decode cX7_wantCloud 63 = .ok (.ifCond .eq 7, 3) := by decide +kernel
theorem dX7_wantCloud_66 : decode cX7_wantCloud 66 = .ok (.iconst 1, 1) := by decide +kernel
theorem dX7_wantCloud_67 : decode cX7_wantCloud 67 = .ok (.goto 4, 3) := by decide +kernel
theorem dX7_wantCloud_70 : decode cX7_wantCloud 70 = .ok (.iconst 0, 1) := by decide +kernel
theorem dX7_wantCloud_71 : decode cX7_wantCloud 71 = .ok (.istore_n 3, 1) := by decide +kernel
theorem dX7_wantCloud_72 : decode cX7_wantCloud 72 = .ok (.iload_n 3, 1) := by decide +kernel
theorem dX7_wantCloud_73 : decode cX7_wantCloud 73 = .ok (.ifCond .ne 12, 3) := by decide +kernel
theorem dX7_wantCloud_76 : decode cX7_wantCloud 76 = .ok (.aload_n 0, 1) := by decide +kernel
theorem dX7_wantCloud_77 : decode cX7_wantCloud 77 = .ok (.getfield 7, 3) := by decide +kernel
theorem dX7_wantCloud_80 : decode cX7_wantCloud 80 = .ok (.iconst 2, 1) := by decide +kernel
theorem dX7_wantCloud_81 : decode cX7_wantCloud 81 = .ok (.iaload, 1) := by decide +kernel
theorem dX7_wantCloud_82 : decode cX7_wantCloud 82 = .ok (.goto 32, 3) := by decide +kernel
theorem dX7_wantCloud_85 : decode cX7_wantCloud 85 = .ok (.aload_n 0, 1) := by decide +kernel
theorem dX7_wantCloud_86 : decode cX7_wantCloud 86 = .ok (.ldc2_w 246, 3) := by decide +kernel
theorem dX7_wantCloud_89 : decode cX7_wantCloud 89 = .ok (.invokevirtual 208, 3) := by decide +kernel
theorem dX7_wantCloud_92 : decode cX7_wantCloud 92 = .ok (.ifCond .eq 7, 3) := by decide +kernel
theorem dX7_wantCloud_95 : decode cX7_wantCloud 95 = .ok (.iconst (-1), 1) := by decide +kernel
theorem dX7_wantCloud_96 : decode cX7_wantCloud 96 = .ok (.goto 18, 3) := by decide +kernel
theorem dX7_wantCloud_99 : decode cX7_wantCloud 99 = .ok (.aload_n 0, 1) := by decide +kernel
theorem dX7_wantCloud_100 : decode cX7_wantCloud 100 = .ok (.ldc2_w 248, 3) := by decide +kernel
theorem dX7_wantCloud_103 : decode cX7_wantCloud 103 = .ok (.invokevirtual 208, 3) := by decide +kernel
theorem dX7_wantCloud_106 : decode cX7_wantCloud 106 = .ok (.ifCond .eq 7, 3) := by decide +kernel
theorem dX7_wantCloud_109 : decode cX7_wantCloud 109 = .ok (.iconst 1, 1) := by decide +kernel
theorem dX7_wantCloud_110 : decode cX7_wantCloud 110 = .ok (.goto 4, 3) := by decide +kernel
theorem dX7_wantCloud_113 : decode cX7_wantCloud 113 = .ok (.iconst 0, 1) := by decide +kernel
theorem dX7_wantCloud_114 : decode cX7_wantCloud 114 = .ok (.istore 4, 2) := by decide +kernel
theorem dX7_wantCloud_116 : decode cX7_wantCloud 116 = .ok (.iload_n 3, 1) := by decide +kernel
theorem dX7_wantCloud_117 : decode cX7_wantCloud 117 = .ok (.ifCond .eq 7, 3) := by decide +kernel
theorem dX7_wantCloud_120 : decode cX7_wantCloud 120 = .ok (.aload_n 0, 1) := by decide +kernel
theorem dX7_wantCloud_121 : decode cX7_wantCloud 121 = .ok (.invokevirtual 226, 3) := by decide +kernel
theorem dX7_wantCloud_124 : decode cX7_wantCloud 124 = .ok (.aload_n 0, 1) := by decide +kernel
theorem dX7_wantCloud_125 : decode cX7_wantCloud 125 = .ok (.getfield 222, 3) := by decide +kernel
theorem dX7_wantCloud_128 : decode cX7_wantCloud 128 = .ok (.ifCond .eq 25, 3) := by decide +kernel
theorem dX7_wantCloud_131 : decode cX7_wantCloud 131 = .ok (.aload_n 0, 1) := by decide +kernel
theorem dX7_wantCloud_132 : decode cX7_wantCloud 132 = .ok (.getfield 7, 3) := by decide +kernel
theorem dX7_wantCloud_135 : decode cX7_wantCloud 135 = .ok (.iconst 0, 1) := by decide +kernel
theorem dX7_wantCloud_136 : decode cX7_wantCloud 136 = .ok (.iload_n 1, 1) := by decide +kernel
theorem dX7_wantCloud_137 : decode cX7_wantCloud 137 = .ok (.iastore, 1) := by decide +kernel
theorem dX7_wantCloud_138 : decode cX7_wantCloud 138 = .ok (.aload_n 0, 1) := by decide +kernel
theorem dX7_wantCloud_139 : decode cX7_wantCloud 139 = .ok (.getfield 7, 3) := by decide +kernel
theorem dX7_wantCloud_142 : decode cX7_wantCloud 142 = .ok (.iconst 1, 1) := by decide +kernel
theorem dX7_wantCloud_143 : decode cX7_wantCloud 143 = .ok (.iload_n 2, 1) := by decide +kernel
theorem dX7_wantCloud_144 : decode cX7_wantCloud 144 = .ok (.iastore, 1) := by decide +kernel
theorem dX7_wantCloud_145 : decode cX7_wantCloud 145 = .ok (.aload_n 0, 1) := by decide +kernel
theorem dX7_wantCloud_146 : decode cX7_wantCloud 146 = .ok (.getfield 7, 3) := by decide +kernel
theorem dX7_wantCloud_149 : decode cX7_wantCloud 149 = .ok (.iconst 2, 1) := by decide +kernel
theorem dX7_wantCloud_150 : decode cX7_wantCloud 150 = .ok (.iload 4, 2) := by decide +kernel
theorem dX7_wantCloud_152 : decode cX7_wantCloud 152 = .ok (.iastore, 1) := by decide +kernel
theorem dX7_wantCloud_153 : decode cX7_wantCloud 153 = .ok (.return_, 1) := by decide +kernel
theorem dX7_wantRule_0 : decode cX7_wantRule 0 = .ok (.aload_n 0, 1) := by decide +kernel
theorem dX7_wantRule_1 : decode cX7_wantRule 1 = .ok (.invokevirtual 226, 3) := by decide +kernel
theorem dX7_wantRule_4 : decode cX7_wantRule 4 = .ok (.aload_n 0, 1) := by decide +kernel
theorem dX7_wantRule_5 : decode cX7_wantRule 5 = .ok (.iload_n 2, 1) := by decide +kernel
theorem dX7_wantRule_6 : decode cX7_wantRule 6 = .ok (.iload_n 3, 1) := by decide +kernel
theorem dX7_wantRule_7 : decode cX7_wantRule 7 = .ok (.invokevirtual 229, 3) := by decide +kernel
theorem dX7_wantRule_10 : decode cX7_wantRule 10 = .ok (.istore 4, 2) := by decide +kernel
theorem dX7_wantRule_12 : decode cX7_wantRule 12 = .ok (.aload_n 0, 1) := by decide +kernel
theorem dX7_wantRule_13 : decode cX7_wantRule 13 = .ok (.getfield 222, 3) := by decide +kernel
theorem dX7_wantRule_16 : decode cX7_wantRule 16 = .ok (.ifCond .eq 11, 3) := by decide +kernel
theorem dX7_wantRule_19 : decode cX7_wantRule 19 = .ok (.aload_n 0, 1) := by decide +kernel
theorem dX7_wantRule_20 : decode cX7_wantRule 20 = .ok (.getfield 7, 3) := by decide +kernel
theorem dX7_wantRule_23 : decode cX7_wantRule 23 = .ok (.iload_n 1, 1) := by decide +kernel
theorem dX7_wantRule_24 : decode cX7_wantRule 24 = .ok (.iload 4, 2) := by decide +kernel
theorem dX7_wantRule_26 : decode cX7_wantRule 26 = .ok (.iastore, 1) := by decide +kernel
theorem dX7_wantRule_27 : decode cX7_wantRule 27 = .ok (.return_, 1) := by decide +kernel
theorem dX7_wantItem_0 : decode cX7_wantItem 0 = .ok (.aload_n 0, 1) := by decide +kernel
theorem dX7_wantItem_1 : decode cX7_wantItem 1 = .ok (.invokevirtual 252, 3) := by decide +kernel
theorem dX7_wantItem_4 : decode cX7_wantItem 4 = .ok (.ifCond .lt 14, 3) := by decide +kernel
theorem dX7_wantItem_7 : decode cX7_wantItem 7 = .ok (.aload_n 0, 1) := by decide +kernel
theorem dX7_wantItem_8 : decode cX7_wantItem 8 = .ok (.aload_n 0, 1) := by decide +kernel
theorem dX7_wantItem_9 : decode cX7_wantItem 9 = .ok (.invokevirtual 252, 3) := by decide +kernel
theorem dX7_wantItem_12 : decode cX7_wantItem 12 = .ok (.invokevirtual 255, 3) := by decide +kernel
theorem dX7_wantItem_15 : decode cX7_wantItem 15 = .ok (.goto 68, 3) := by decide +kernel
theorem dX7_wantItem_18 : decode cX7_wantItem 18 = .ok (.aload_n 0, 1) := by decide +kernel
theorem dX7_wantItem_19 : decode cX7_wantItem 19 = .ok (.ldc2_w 258, 3) := by decide +kernel
theorem dX7_wantItem_22 : decode cX7_wantItem 22 = .ok (.invokevirtual 208, 3) := by decide +kernel
theorem dX7_wantItem_25 : decode cX7_wantItem 25 = .ok (.ifCond .eq 10, 3) := by decide +kernel
theorem dX7_wantItem_28 : decode cX7_wantItem 28 = .ok (.aload_n 0, 1) := by decide +kernel
theorem dX7_wantItem_29 : decode cX7_wantItem 29 = .ok (.invokevirtual 260, 3) := by decide +kernel
theorem dX7_wantItem_32 : decode cX7_wantItem 32 = .ok (.goto 51, 3) := by decide +kernel
theorem dX7_wantItem_35 : decode cX7_wantItem 35 = .ok (.aload_n 0, 1) := by decide +kernel
theorem dX7_wantItem_36 : decode cX7_wantItem 36 = .ok (.ldc2_w 263, 3) := by decide +kernel
theorem dX7_wantItem_39 : decode cX7_wantItem 39 = .ok (.invokevirtual 208, 3) := by decide +kernel
theorem dX7_wantItem_42 : decode cX7_wantItem 42 = .ok (.ifCond .eq 14, 3) := by decide +kernel
theorem dX7_wantItem_45 : decode cX7_wantItem 45 = .ok (.aload_n 0, 1) := by decide +kernel
theorem dX7_wantItem_46 : decode cX7_wantItem 46 = .ok (.iconst 3, 1) := by decide +kernel
theorem dX7_wantItem_47 : decode cX7_wantItem 47 = .ok (.iconst 0, 1) := by decide +kernel
theorem dX7_wantItem_48 : decode cX7_wantItem 48 = .ok (.bipush 50, 2) := by decide +kernel
theorem dX7_wantItem_50 : decode cX7_wantItem 50 = .ok (.invokevirtual 265, 3) := by decide +kernel
theorem dX7_wantItem_53 : decode cX7_wantItem 53 = .ok (.goto 30, 3) := by decide +kernel
theorem dX7_wantItem_56 : decode cX7_wantItem 56 = .ok (.aload_n 0, 1) := by decide +kernel
theorem dX7_wantItem_57 : decode cX7_wantItem 57 = .ok (.ldc2_w 268, 3) := by decide +kernel
theorem dX7_wantItem_60 : decode cX7_wantItem 60 = .ok (.invokevirtual 208, 3) := by decide +kernel
theorem dX7_wantItem_63 : decode cX7_wantItem 63 = .ok (.ifCond .eq 15, 3) := by decide +kernel
theorem dX7_wantItem_66 : decode cX7_wantItem 66 = .ok (.aload_n 0, 1) := by decide +kernel
theorem dX7_wantItem_67 : decode cX7_wantItem 67 = .ok (.iconst 4, 1) := by decide +kernel
theorem dX7_wantItem_68 : decode cX7_wantItem 68 = .ok (.bipush 20, 2) := by decide +kernel
theorem dX7_wantItem_70 : decode cX7_wantItem 70 = .ok (.bipush 99, 2) := by decide +kernel
theorem dX7_wantItem_72 : decode cX7_wantItem 72 = .ok (.invokevirtual 265, 3) := by decide +kernel
theorem dX7_wantItem_75 : decode cX7_wantItem 75 = .ok (.goto 8, 3) := by decide +kernel
theorem dX7_wantItem_78 : decode cX7_wantItem 78 = .ok (.aload_n 0, 1) := by decide +kernel
theorem dX7_wantItem_79 : decode cX7_wantItem 79 = .ok (.iconst 0, 1) := by decide +kernel
theorem dX7_wantItem_80 : decode cX7_wantItem 80 = .ok (.putfield 222, 3) := by decide +kernel
theorem dX7_wantItem_83 : decode cX7_wantItem 83 = .ok (.return_, 1) := by decide +kernel
theorem dX7_plain_0 : decode cX7_plain 0 = .ok (.aload_n 0, 1) := by decide +kernel
theorem dX7_plain_1 : decode cX7_plain 1 = .ok (.iconst 1, 1) := by decide +kernel
theorem dX7_plain_2 : decode cX7_plain 2 = .ok (.aload_n 0, 1) := by decide +kernel
theorem dX7_plain_3 : decode cX7_plain 3 = .ok (.getfield 41, 3) := by decide +kernel
theorem dX7_plain_6 : decode cX7_plain 6 = .ok (.invokevirtual 126, 3) := by decide +kernel
theorem dX7_plain_9 : decode cX7_plain 9 = .ok (.aload_n 0, 1) := by decide +kernel
theorem dX7_plain_10 : decode cX7_plain 10 = .ok (.iconst 0, 1) := by decide +kernel
theorem dX7_plain_11 : decode cX7_plain 11 = .ok (.putfield 175, 3) := by decide +kernel
theorem dX7_plain_14 : decode cX7_plain 14 = .ok (.aload_n 0, 1) := by decide +kernel
theorem dX7_plain_15 : decode cX7_plain 15 = .ok (.iconst 1, 1) := by decide +kernel
theorem dX7_plain_16 : decode cX7_plain 16 = .ok (.putfield 222, 3) := by decide +kernel
theorem dX7_plain_19 : decode cX7_plain 19 = .ok (.iconst 0, 1) := by decide +kernel
theorem dX7_plain_20 : decode cX7_plain 20 = .ok (.istore_n 1, 1) := by decide +kernel
theorem dX7_plain_21 : decode cX7_plain 21 = .ok (.iconst 1, 1) := by decide +kernel
theorem dX7_plain_22 : decode cX7_plain 22 = .ok (.istore_n 2, 1) := by decide +kernel
theorem dX7_plain_23 : decode cX7_plain 23 = .ok (.iload_n 2, 1) := by decide +kernel
theorem dX7_plain_24 : decode cX7_plain 24 = .ok (.ifCond .eq 47, 3) := by decide +kernel
theorem dX7_plain_27 : decode cX7_plain 27 = .ok (.aload_n 0, 1) := by decide +kernel
theorem dX7_plain_28 : decode cX7_plain 28 = .ok (.invokevirtual 226, 3) := by decide +kernel
theorem dX7_plain_31 : decode cX7_plain 31 = .ok (.aload_n 0, 1) := by decide +kernel
theorem dX7_plain_32 : decode cX7_plain 32 = .ok (.invokevirtual 270, 3) := by decide +kernel
theorem dX7_plain_35 : decode cX7_plain 35 = .ok (.iinc 1 1, 3) := by decide +kernel
theorem dX7_plain_38 : decode cX7_plain 38 = .ok (.aload_n 0, 1) := by decide +kernel
theorem dX7_plain_39 : decode cX7_plain 39 = .ok (.getfield 222, 3) := by decide +kernel
theorem dX7_plain_42 : decode cX7_plain 42 = .ok (.ifCond .eq 24, 3) := by decide +kernel
theorem dX7_plain_45 : decode cX7_plain 45 = .ok (.aload_n 0, 1) := by decide +kernel
theorem dX7_plain_46 : decode cX7_plain 46 = .ok (.getfield 190, 3) := by decide +kernel
theorem dX7_plain_49 : decode cX7_plain 49 = .ok (.iconst 3, 1) := by decide +kernel
theorem dX7_plain_50 : decode cX7_plain 50 = .ok (.if_icmp .ne 16, 3) := by decide +kernel
theorem dX7_plain_53 : decode cX7_plain 53 = .ok (.aload_n 0, 1) := by decide +kernel
theorem dX7_plain_54 : decode cX7_plain 54 = .ok (.getfield 197, 3) := by decide +kernel
theorem dX7_plain_57 : decode cX7_plain 57 = .ok (.bipush 59, 2) := by decide +kernel
theorem dX7_plain_59 : decode cX7_plain 59 = .ok (.if_icmp .ne 7, 3) := by decide +kernel
theorem dX7_plain_62 : decode cX7_plain 62 = .ok (.iconst 1, 1) := by decide +kernel
theorem dX7_plain_63 : decode cX7_plain 63 = .ok (.goto 4, 3) := by decide +kernel
theorem dX7_plain_66 : decode cX7_plain 66 = .ok (.iconst 0, 1) := by decide +kernel
theorem dX7_plain_67 : decode cX7_plain 67 = .ok (.istore_n 2, 1) := by decide +kernel
theorem dX7_plain_68 : decode cX7_plain 68 = .ok (.goto (-45), 3) := by decide +kernel
theorem dX7_plain_71 : decode cX7_plain 71 = .ok (.aload_n 0, 1) := by decide +kernel
theorem dX7_plain_72 : decode cX7_plain 72 = .ok (.aload_n 0, 1) := by decide +kernel
theorem dX7_plain_73 : decode cX7_plain 73 = .ok (.getfield 222, 3) := by decide +kernel
theorem dX7_plain_76 : decode cX7_plain 76 = .ok (.ifCond .eq 14, 3) := by decide +kernel
theorem dX7_plain_79 : decode cX7_plain 79 = .ok (.aload_n 0, 1) := by decide +kernel
theorem dX7_plain_80 : decode cX7_plain 80 = .ok (.getfield 190, 3) := by decide +kernel
theorem dX7_plain_83 : decode cX7_plain 83 = .ok (.ifCond .ne 7, 3) := by decide +kernel
theorem dX7_plain_86 : decode cX7_plain 86 = .ok (.iconst 1, 1) := by decide +kernel
theorem dX7_plain_87 : decode cX7_plain 87 = .ok (.goto 4, 3) := by decide +kernel
theorem dX7_plain_90 : decode cX7_plain 90 = .ok (.iconst 0, 1) := by decide +kernel
theorem dX7_plain_91 : decode cX7_plain 91 = .ok (.putfield 222, 3) := by decide +kernel
theorem dX7_plain_94 : decode cX7_plain 94 = .ok (.aload_n 0, 1) := by decide +kernel
theorem dX7_plain_95 : decode cX7_plain 95 = .ok (.iconst 0, 1) := by decide +kernel
theorem dX7_plain_96 : decode cX7_plain 96 = .ok (.putfield 172, 3) := by decide +kernel
theorem dX7_plain_99 : decode cX7_plain 99 = .ok (.aload_n 0, 1) := by decide +kernel
theorem dX7_plain_100 : decode cX7_plain 100 = .ok (.getfield 222, 3) := by decide +kernel
theorem dX7_plain_103 : decode cX7_plain 103 = .ok (.ifCond .ne 19, 3) := by decide +kernel
theorem dX7_plain_106 : decode cX7_plain 106 = .ok (.aload_n 0, 1) := by decide +kernel
theorem dX7_plain_107 : decode cX7_plain 107 = .ok (.iconst 0, 1) := by decide +kernel
theorem dX7_plain_108 : decode cX7_plain 108 = .ok (.aload_n 0, 1) := by decide +kernel
theorem dX7_plain_109 : decode cX7_plain 109 = .ok (.getfield 41, 3) := by decide +kernel
theorem dX7_plain_112 : decode cX7_plain 112 = .ok (.invokevirtual 126, 3) := by decide +kernel
theorem dX7_plain_115 : decode cX7_plain 115 = .ok (.iconst (-1), 1) := by decide +kernel
theorem dX7_plain_116 : decode cX7_plain 116 = .ok (.aload_n 0, 1) := by decide +kernel
theorem dX7_plain_117 : decode cX7_plain 117 = .ok (.getfield 178, 3) := by decide +kernel
theorem dX7_plain_120 : decode cX7_plain 120 = .ok (.isub, 1) := by decide +kernel
theorem dX7_plain_121 : decode cX7_plain 121 = .ok (.ireturn, 1) := by decide +kernel
theorem dX7_plain_122 : decode cX7_plain 122 = .ok (.iload_n 1, 1) := by decide +kernel
theorem dX7_plain_123 : decode cX7_plain 123 = .ok (.ireturn, 1) := by decide +kernel
theorem dX7_isSheet_0 : decode cX7_isSheet 0 = .ok (.iload_n 0, 1) := by decide +kernel
theorem dX7_isSheet_1 : decode cX7_isSheet 1 = .ok (.iconst 0, 1) := by decide +kernel
theorem dX7_isSheet_2 : decode cX7_isSheet 2 = .ok (.iconst 3, 1) := by decide +kernel
theorem dX7_isSheet_3 : decode cX7_isSheet 3 = .ok (.invokestatic 45, 3) := by decide +kernel
theorem dX7_isSheet_6 : decode cX7_isSheet 6 = .ok (.ireturn, 1) := by decide +kernel
theorem dX7_narrow_0 : decode cX7_narrow 0 = .ok (.iload_n 0, 1) := by decide +kernel
theorem dX7_narrow_1 : decode cX7_narrow 1 = .ok (.bipush 8, 2) := by decide +kernel
theorem dX7_narrow_3 : decode cX7_narrow 3 = .ok (.if_icmp .ne 13, 3) := by decide +kernel
theorem dX7_narrow_6 : decode cX7_narrow 6 = .ok (.lload_n 1, 1) := by decide +kernel
theorem dX7_narrow_7 : decode cX7_narrow 7 = .ok (.bipush 56, 2) := by decide +kernel
theorem dX7_narrow_9 : decode cX7_narrow 9 = .ok (.lshl, 1) := by decide +kernel
theorem dX7_narrow_10 : decode cX7_narrow 10 = .ok (.bipush 56, 2) := by decide +kernel
theorem dX7_narrow_12 : decode cX7_narrow 12 = .ok (.lshr, 1) := by decide +kernel
theorem dX7_narrow_13 : decode cX7_narrow 13 = .ok (.goto 20, 3) := by decide +kernel
theorem dX7_narrow_16 : decode cX7_narrow 16 = .ok (.iload_n 0, 1) := by decide +kernel
theorem dX7_narrow_17 : decode cX7_narrow 17 = .ok (.bipush 16, 2) := by decide +kernel
theorem dX7_narrow_19 : decode cX7_narrow 19 = .ok (.if_icmp .ne 13, 3) := by decide +kernel
theorem dX7_narrow_22 : decode cX7_narrow 22 = .ok (.lload_n 1, 1) := by decide +kernel
theorem dX7_narrow_23 : decode cX7_narrow 23 = .ok (.bipush 48, 2) := by decide +kernel
theorem dX7_narrow_25 : decode cX7_narrow 25 = .ok (.lshl, 1) := by decide +kernel
theorem dX7_narrow_26 : decode cX7_narrow 26 = .ok (.bipush 48, 2) := by decide +kernel
theorem dX7_narrow_28 : decode cX7_narrow 28 = .ok (.lshr, 1) := by decide +kernel
theorem dX7_narrow_29 : decode cX7_narrow 29 = .ok (.goto 4, 3) := by decide +kernel
theorem dX7_narrow_32 : decode cX7_narrow 32 = .ok (.lload_n 1, 1) := by decide +kernel
theorem dX7_narrow_33 : decode cX7_narrow 33 = .ok (.lreturn, 1) := by decide +kernel
theorem dX7_sheet_0 : decode cX7_sheet 0 = .ok (.iload_n 1, 1) := by decide +kernel
theorem dX7_sheet_1 : decode cX7_sheet 1 = .ok (.invokestatic 273, 3) := by decide +kernel
theorem dX7_sheet_4 : decode cX7_sheet 4 = .ok (.ifCond .eq 25, 3) := by decide +kernel
theorem dX7_sheet_7 : decode cX7_sheet 7 = .ok (.iload_n 2, 1) := by decide +kernel
theorem dX7_sheet_8 : decode cX7_sheet 8 = .ok (.ifCond .eq 28, 3) := by decide +kernel
theorem dX7_sheet_11 : decode cX7_sheet 11 = .ok (.iload_n 2, 1) := by decide +kernel
theorem dX7_sheet_12 : decode cX7_sheet 12 = .ok (.bipush 8, 2) := by decide +kernel
theorem dX7_sheet_14 : decode cX7_sheet 14 = .ok (.if_icmp .eq 22, 3) := by decide +kernel
theorem dX7_sheet_17 : decode cX7_sheet 17 = .ok (.iload_n 2, 1) := by decide +kernel
theorem dX7_sheet_18 : decode cX7_sheet 18 = .ok (.bipush 16, 2) := by decide +kernel
theorem dX7_sheet_20 : decode cX7_sheet 20 = .ok (.if_icmp .eq 16, 3) := by decide +kernel
theorem dX7_sheet_23 : decode cX7_sheet 23 = .ok (.iload_n 2, 1) := by decide +kernel
theorem dX7_sheet_24 : decode cX7_sheet 24 = .ok (.bipush 64, 2) := by decide +kernel
theorem dX7_sheet_26 : decode cX7_sheet 26 = .ok (.if_icmp .eq 10, 3) := by decide +kernel
theorem dX7_sheet_29 : decode cX7_sheet 29 = .ok (.aload_n 0, 1) := by decide +kernel
theorem dX7_sheet_30 : decode cX7_sheet 30 = .ok (.ldc 44, 2) := by decide +kernel
theorem dX7_sheet_32 : decode cX7_sheet 32 = .ok (.invokevirtual 53, 3) := by decide +kernel
theorem dX7_sheet_35 : decode cX7_sheet 35 = .ok (.ireturn, 1) := by decide +kernel
theorem dX7_sheet_36 : decode cX7_sheet 36 = .ok (.iload_n 3, 1) := by decide +kernel
theorem dX7_sheet_37 : decode cX7_sheet 37 = .ok (.ifCond .ge 11, 3) := by decide +kernel
theorem dX7_sheet_40 : decode cX7_sheet 40 = .ok (.aload_n 0, 1) := by decide +kernel
theorem dX7_sheet_41 : decode cX7_sheet 41 = .ok (.ldc_w 276, 3) := by decide +kernel
theorem dX7_sheet_44 : decode cX7_sheet 44 = .ok (.invokevirtual 53, 3) := by decide +kernel
theorem dX7_sheet_47 : decode cX7_sheet 47 = .ok (.ireturn, 1) := by decide +kernel
theorem dX7_sheet_48 : decode cX7_sheet 48 = .ok (.iload_n 3, 1) := by decide +kernel
theorem dX7_sheet_49 : decode cX7_sheet 49 = .ok (.bipush 40, 2) := by decide +kernel
theorem dX7_sheet_51 : decode cX7_sheet 51 = .ok (.if_icmp .le 10, 3) := by decide +kernel
theorem dX7_sheet_54 : decode cX7_sheet 54 = .ok (.aload_n 0, 1) := by decide +kernel
theorem dX7_sheet_55 : decode cX7_sheet 55 = .ok (.ldc 44, 2) := by decide +kernel
theorem dX7_sheet_57 : decode cX7_sheet 57 = .ok (.invokevirtual 53, 3) := by decide +kernel
theorem dX7_sheet_60 : decode cX7_sheet 60 = .ok (.ireturn, 1) := by decide +kernel
theorem dX7_sheet_61 : decode cX7_sheet 61 = .ok (.aload_n 0, 1) := by decide +kernel
theorem dX7_sheet_62 : decode cX7_sheet 62 = .ok (.getfield 25, 3) := by decide +kernel
theorem dX7_sheet_65 : decode cX7_sheet 65 = .ok (.iload_n 1, 1) := by decide +kernel
theorem dX7_sheet_66 : decode cX7_sheet 66 = .ok (.iload_n 2, 1) := by decide +kernel
theorem dX7_sheet_67 : decode cX7_sheet 67 = .ok (.iastore, 1) := by decide +kernel
theorem dX7_sheet_68 : decode cX7_sheet 68 = .ok (.aload_n 0, 1) := by decide +kernel
theorem dX7_sheet_69 : decode cX7_sheet 69 = .ok (.getfield 28, 3) := by decide +kernel
theorem dX7_sheet_72 : decode cX7_sheet 72 = .ok (.iload_n 1, 1) := by decide +kernel
theorem dX7_sheet_73 : decode cX7_sheet 73 = .ok (.iload_n 2, 1) := by decide +kernel
theorem dX7_sheet_74 : decode cX7_sheet 74 = .ok (.ifCond .ne 7, 3) := by decide +kernel
theorem dX7_sheet_77 : decode cX7_sheet 77 = .ok (.iconst 0, 1) := by decide +kernel
theorem dX7_sheet_78 : decode cX7_sheet 78 = .ok (.goto 4, 3) := by decide +kernel
theorem dX7_sheet_81 : decode cX7_sheet 81 = .ok (.iload_n 3, 1) := by decide +kernel
theorem dX7_sheet_82 : decode cX7_sheet 82 = .ok (.iastore, 1) := by decide +kernel
theorem dX7_sheet_83 : decode cX7_sheet 83 = .ok (.iconst 0, 1) := by decide +kernel
theorem dX7_sheet_84 : decode cX7_sheet 84 = .ok (.istore 4, 2) := by decide +kernel
theorem dX7_sheet_86 : decode cX7_sheet 86 = .ok (.iload 4, 2) := by decide +kernel
theorem dX7_sheet_88 : decode cX7_sheet 88 = .ok (.bipush 40, 2) := by decide +kernel
theorem dX7_sheet_90 : decode cX7_sheet 90 = .ok (.if_icmp .ge 22, 3) := by decide +kernel
theorem dX7_sheet_93 : decode cX7_sheet 93 = .ok (.aload_n 0, 1) := by decide +kernel
theorem dX7_sheet_94 : decode cX7_sheet 94 = .ok (.getfield 31, 3) := by decide +kernel
theorem dX7_sheet_97 : decode cX7_sheet 97 = .ok (.bipush 40, 2) := by decide +kernel
theorem dX7_sheet_99 : decode cX7_sheet 99 = .ok (.iload_n 1, 1) := by decide +kernel
theorem dX7_sheet_100 : decode cX7_sheet 100 = .ok (.imul, 1) := by decide +kernel
theorem dX7_sheet_101 : decode cX7_sheet 101 = .ok (.iload 4, 2) := by decide +kernel
theorem dX7_sheet_103 : decode cX7_sheet 103 = .ok (.iadd, 1) := by decide +kernel
theorem dX7_sheet_104 : decode cX7_sheet 104 = .ok (.lconst 0, 1) := by decide +kernel
theorem dX7_sheet_105 : decode cX7_sheet 105 = .ok (.lastore, 1) := by decide +kernel
theorem dX7_sheet_106 : decode cX7_sheet 106 = .ok (.iinc 4 1, 3) := by decide +kernel
theorem dX7_sheet_109 : decode cX7_sheet 109 = .ok (.goto (-23), 3) := by decide +kernel
theorem dX7_sheet_112 : decode cX7_sheet 112 = .ok (.aload_n 0, 1) := by decide +kernel
theorem dX7_sheet_113 : decode cX7_sheet 113 = .ok (.getfield 28, 3) := by decide +kernel
theorem dX7_sheet_116 : decode cX7_sheet 116 = .ok (.iload_n 1, 1) := by decide +kernel
theorem dX7_sheet_117 : decode cX7_sheet 117 = .ok (.iaload, 1) := by decide +kernel
theorem dX7_sheet_118 : decode cX7_sheet 118 = .ok (.ireturn, 1) := by decide +kernel
theorem dX7_write_0 : decode cX7_write 0 = .ok (.iload_n 1, 1) := by decide +kernel
theorem dX7_write_1 : decode cX7_write 1 = .ok (.invokestatic 273, 3) := by decide +kernel
theorem dX7_write_4 : decode cX7_write 4 = .ok (.ifCond .ne 11, 3) := by decide +kernel
theorem dX7_write_7 : decode cX7_write 7 = .ok (.aload_n 0, 1) := by decide +kernel
theorem dX7_write_8 : decode cX7_write 8 = .ok (.ldc 44, 2) := by decide +kernel
theorem dX7_write_10 : decode cX7_write 10 = .ok (.invokevirtual 53, 3) := by decide +kernel
theorem dX7_write_13 : decode cX7_write 13 = .ok (.i2l, 1) := by decide +kernel
theorem dX7_write_14 : decode cX7_write 14 = .ok (.lreturn, 1) := by decide +kernel
theorem dX7_write_15 : decode cX7_write 15 = .ok (.aload_n 0, 1) := by decide +kernel
theorem dX7_write_16 : decode cX7_write 16 = .ok (.getfield 25, 3) := by decide +kernel
theorem dX7_write_19 : decode cX7_write 19 = .ok (.iload_n 1, 1) := by decide +kernel
theorem dX7_write_20 : decode cX7_write 20 = .ok (.iaload, 1) := by decide +kernel
theorem dX7_write_21 : decode cX7_write 21 = .ok (.ifCond .ne 12, 3) := by decide +kernel
theorem dX7_write_24 : decode cX7_write 24 = .ok (.aload_n 0, 1) := by decide +kernel
theorem dX7_write_25 : decode cX7_write 25 = .ok (.ldc_w 277, 3) := by decide +kernel
theorem dX7_write_28 : decode cX7_write 28 = .ok (.invokevirtual 53, 3) := by decide +kernel
theorem dX7_write_31 : decode cX7_write 31 = .ok (.i2l, 1) := by decide +kernel
theorem dX7_write_32 : decode cX7_write 32 = .ok (.lreturn, 1) := by decide +kernel
theorem dX7_write_33 : decode cX7_write 33 = .ok (.iload_n 2, 1) := by decide +kernel
theorem dX7_write_34 : decode cX7_write 34 = .ok (.iconst 0, 1) := by decide +kernel
theorem dX7_write_35 : decode cX7_write 35 = .ok (.aload_n 0, 1) := by decide +kernel
theorem dX7_write_36 : decode cX7_write 36 = .ok (.getfield 28, 3) := by decide +kernel
theorem dX7_write_39 : decode cX7_write 39 = .ok (.iload_n 1, 1) := by decide +kernel
theorem dX7_write_40 : decode cX7_write 40 = .ok (.iaload, 1) := by decide +kernel
theorem dX7_write_41 : decode cX7_write 41 = .ok (.iconst 1, 1) := by decide +kernel
theorem dX7_write_42 : decode cX7_write 42 = .ok (.isub, 1) := by decide +kernel
theorem dX7_write_43 : decode cX7_write 43 = .ok (.invokestatic 45, 3) := by decide +kernel
theorem dX7_write_46 : decode cX7_write 46 = .ok (.ifCond .ne 11, 3) := by decide +kernel
theorem dX7_write_49 : decode cX7_write 49 = .ok (.aload_n 0, 1) := by decide +kernel
theorem dX7_write_50 : decode cX7_write 50 = .ok (.ldc 44, 2) := by decide +kernel
theorem dX7_write_52 : decode cX7_write 52 = .ok (.invokevirtual 53, 3) := by decide +kernel
theorem dX7_write_55 : decode cX7_write 55 = .ok (.i2l, 1) := by decide +kernel
theorem dX7_write_56 : decode cX7_write 56 = .ok (.lreturn, 1) := by decide +kernel
theorem dX7_write_57 : decode cX7_write 57 = .ok (.aload_n 0, 1) := by decide +kernel
theorem dX7_write_58 : decode cX7_write 58 = .ok (.getfield 31, 3) := by decide +kernel
theorem dX7_write_61 : decode cX7_write 61 = .ok (.bipush 40, 2) := by decide +kernel
theorem dX7_write_63 : decode cX7_write 63 = .ok (.iload_n 1, 1) := by decide +kernel
theorem dX7_write_64 : decode cX7_write 64 = .ok (.imul, 1) := by decide +kernel
theorem dX7_write_65 : decode cX7_write 65 = .ok (.iload_n 2, 1) := by decide +kernel
theorem dX7_write_66 : decode cX7_write 66 = .ok (.iadd, 1) := by decide +kernel
theorem dX7_write_67 : decode cX7_write 67 = .ok (.laload, 1) := by decide +kernel
theorem dX7_write_68 : decode cX7_write 68 = .ok (.lstore 5, 2) := by decide +kernel
theorem dX7_write_70 : decode cX7_write 70 = .ok (.aload_n 0, 1) := by decide +kernel
theorem dX7_write_71 : decode cX7_write 71 = .ok (.getfield 31, 3) := by decide +kernel
theorem dX7_write_74 : decode cX7_write 74 = .ok (.bipush 40, 2) := by decide +kernel
theorem dX7_write_76 : decode cX7_write 76 = .ok (.iload_n 1, 1) := by decide +kernel
theorem dX7_write_77 : decode cX7_write 77 = .ok (.imul, 1) := by decide +kernel
theorem dX7_write_78 : decode cX7_write 78 = .ok (.iload_n 2, 1) := by decide +kernel
theorem dX7_write_79 : decode cX7_write 79 = .ok (.iadd, 1) := by decide +kernel
theorem dX7_write_80 : decode cX7_write 80 = .ok (.aload_n 0, 1) := by decide +kernel
theorem dX7_write_81 : decode cX7_write 81 = .ok (.getfield 25, 3) := by decide +kernel
theorem dX7_write_84 : decode cX7_write 84 = .ok (.iload_n 1, 1) := by decide +kernel
theorem dX7_write_85 : decode cX7_write 85 = .ok (.iaload, 1) := by decide +kernel
theorem dX7_write_86 : decode cX7_write 86 = .ok (.lload_n 3, 1) := by decide +kernel
theorem dX7_write_87 : decode cX7_write 87 = .ok (.invokestatic 278, 3) := by decide +kernel
theorem dX7_write_90 : decode cX7_write 90 = .ok (.lastore, 1) := by decide +kernel
theorem dX7_write_91 : decode cX7_write 91 = .ok (.lload 5, 2) := by decide +kernel
theorem dX7_write_93 : decode cX7_write 93 = .ok (.lreturn, 1) := by decide +kernel
theorem dX7_isPart_0 : decode cX7_isPart 0 = .ok (.iload_n 2, 1) := by decide +kernel
theorem dX7_isPart_1 : decode cX7_isPart 1 = .ok (.ifCond .lt 33, 3) := by decide +kernel
theorem dX7_isPart_4 : decode cX7_isPart 4 = .ok (.iload_n 3, 1) := by decide +kernel
theorem dX7_isPart_5 : decode cX7_isPart 5 = .ok (.ifCond .lt 29, 3) := by decide +kernel
theorem dX7_isPart_8 : decode cX7_isPart 8 = .ok (.iload_n 3, 1) := by decide +kernel
theorem dX7_isPart_9 : decode cX7_isPart 9 = .ok (.aload_n 0, 1) := by decide +kernel
theorem dX7_isPart_10 : decode cX7_isPart 10 = .ok (.getfield 28, 3) := by decide +kernel
theorem dX7_isPart_13 : decode cX7_isPart 13 = .ok (.iload_n 1, 1) := by decide +kernel
theorem dX7_isPart_14 : decode cX7_isPart 14 = .ok (.iaload, 1) := by decide +kernel
theorem dX7_isPart_15 : decode cX7_isPart 15 = .ok (.if_icmp .gt 19, 3) := by decide +kernel
theorem dX7_isPart_18 : decode cX7_isPart 18 = .ok (.iload_n 2, 1) := by decide +kernel
theorem dX7_isPart_19 : decode cX7_isPart 19 = .ok (.aload_n 0, 1) := by decide +kernel
theorem dX7_isPart_20 : decode cX7_isPart 20 = .ok (.getfield 28, 3) := by decide +kernel
theorem dX7_isPart_23 : decode cX7_isPart 23 = .ok (.iload_n 1, 1) := by decide +kernel
theorem dX7_isPart_24 : decode cX7_isPart 24 = .ok (.iaload, 1) := by decide +kernel
theorem dX7_isPart_25 : decode cX7_isPart 25 = .ok (.iload_n 3, 1) := by decide +kernel
theorem dX7_isPart_26 : decode cX7_isPart 26 = .ok (.isub, 1) := by decide +kernel
theorem dX7_isPart_27 : decode cX7_isPart 27 = .ok (.if_icmp .gt 7, 3) := by decide +kernel
theorem dX7_isPart_30 : decode cX7_isPart 30 = .ok (.iconst 1, 1) := by decide +kernel
theorem dX7_isPart_31 : decode cX7_isPart 31 = .ok (.goto 4, 3) := by decide +kernel
theorem dX7_isPart_34 : decode cX7_isPart 34 = .ok (.iconst 0, 1) := by decide +kernel
theorem dX7_isPart_35 : decode cX7_isPart 35 = .ok (.ireturn, 1) := by decide +kernel
theorem dX7_copy_0 : decode cX7_copy 0 = .ok (.iload_n 1, 1) := by decide +kernel
theorem dX7_copy_1 : decode cX7_copy 1 = .ok (.invokestatic 273, 3) := by decide +kernel
theorem dX7_copy_4 : decode cX7_copy 4 = .ok (.ifCond .eq 10, 3) := by decide +kernel
theorem dX7_copy_7 : decode cX7_copy 7 = .ok (.iload_n 3, 1) := by decide +kernel
theorem dX7_copy_8 : decode cX7_copy 8 = .ok (.invokestatic 273, 3) := by decide +kernel
theorem dX7_copy_11 : decode cX7_copy 11 = .ok (.ifCond .ne 10, 3) := by decide +kernel
theorem dX7_copy_14 : decode cX7_copy 14 = .ok (.aload_n 0, 1) := by decide +kernel
theorem dX7_copy_15 : decode cX7_copy 15 = .ok (.ldc 44, 2) := by decide +kernel
theorem dX7_copy_17 : decode cX7_copy 17 = .ok (.invokevirtual 53, 3) := by decide +kernel
theorem dX7_copy_20 : decode cX7_copy 20 = .ok (.ireturn, 1) := by decide +kernel
theorem dX7_copy_21 : decode cX7_copy 21 = .ok (.aload_n 0, 1) := by decide +kernel
theorem dX7_copy_22 : decode cX7_copy 22 = .ok (.getfield 25, 3) := by decide +kernel
theorem dX7_copy_25 : decode cX7_copy 25 = .ok (.iload_n 1, 1) := by decide +kernel
theorem dX7_copy_26 : decode cX7_copy 26 = .ok (.iaload, 1) := by decide +kernel
theorem dX7_copy_27 : decode cX7_copy 27 = .ok (.ifCond .eq 12, 3) := by decide +kernel
theorem dX7_copy_30 : decode cX7_copy 30 = .ok (.aload_n 0, 1) := by decide +kernel
theorem dX7_copy_31 : decode cX7_copy 31 = .ok (.getfield 25, 3) := by decide +kernel
theorem dX7_copy_34 : decode cX7_copy 34 = .ok (.iload_n 3, 1) := by decide +kernel
theorem dX7_copy_35 : decode cX7_copy 35 = .ok (.iaload, 1) := by decide +kernel
theorem dX7_copy_36 : decode cX7_copy 36 = .ok (.ifCond .ne 11, 3) := by decide +kernel
theorem dX7_copy_39 : decode cX7_copy 39 = .ok (.aload_n 0, 1) := by decide +kernel
theorem dX7_copy_40 : decode cX7_copy 40 = .ok (.ldc_w 277, 3) := by decide +kernel
theorem dX7_copy_43 : decode cX7_copy 43 = .ok (.invokevirtual 53, 3) := by decide +kernel
theorem dX7_copy_46 : decode cX7_copy 46 = .ok (.ireturn, 1) := by decide +kernel
theorem dX7_copy_47 : decode cX7_copy 47 = .ok (.aload_n 0, 1) := by decide +kernel
theorem dX7_copy_48 : decode cX7_copy 48 = .ok (.getfield 25, 3) := by decide +kernel
theorem dX7_copy_51 : decode cX7_copy 51 = .ok (.iload_n 1, 1) := by decide +kernel
theorem dX7_copy_52 : decode cX7_copy 52 = .ok (.iaload, 1) := by decide +kernel
theorem dX7_copy_53 : decode cX7_copy 53 = .ok (.aload_n 0, 1) := by decide +kernel
theorem dX7_copy_54 : decode cX7_copy 54 = .ok (.getfield 25, 3) := by decide +kernel
theorem dX7_copy_57 : decode cX7_copy 57 = .ok (.iload_n 3, 1) := by decide +kernel
theorem dX7_copy_58 : decode cX7_copy 58 = .ok (.iaload, 1) := by decide +kernel
theorem dX7_copy_59 : decode cX7_copy 59 = .ok (.if_icmp .eq 10, 3) := by decide +kernel
theorem dX7_copy_62 : decode cX7_copy 62 = .ok (.aload_n 0, 1) := by decide +kernel
theorem dX7_copy_63 : decode cX7_copy 63 = .ok (.ldc 96, 2) := by decide +kernel
theorem dX7_copy_65 : decode cX7_copy 65 = .ok (.invokevirtual 53, 3) := by decide +kernel
theorem dX7_copy_68 : decode cX7_copy 68 = .ok (.ireturn, 1) := by decide +kernel
theorem dX7_copy_69 : decode cX7_copy 69 = .ok (.aload_n 0, 1) := by decide +kernel
theorem dX7_copy_70 : decode cX7_copy 70 = .ok (.iload_n 1, 1) := by decide +kernel
theorem dX7_copy_71 : decode cX7_copy 71 = .ok (.iload_n 2, 1) := by decide +kernel
theorem dX7_copy_72 : decode cX7_copy 72 = .ok (.iload 5, 2) := by decide +kernel
theorem dX7_copy_74 : decode cX7_copy 74 = .ok (.invokevirtual 282, 3) := by decide +kernel
theorem dX7_copy_77 : decode cX7_copy 77 = .ok (.ifCond .eq 15, 3) := by decide +kernel
theorem dX7_copy_80 : decode cX7_copy 80 = .ok (.aload_n 0, 1) := by decide +kernel
theorem dX7_copy_81 : decode cX7_copy 81 = .ok (.iload_n 3, 1) := by decide +kernel
theorem dX7_copy_82 : decode cX7_copy 82 = .ok (.iload 4, 2) := by decide +kernel
theorem dX7_copy_84 : decode cX7_copy 84 = .ok (.iload 5, 2) := by decide +kernel
theorem dX7_copy_86 : decode cX7_copy 86 = .ok (.invokevirtual 282, 3) := by decide +kernel
theorem dX7_copy_89 : decode cX7_copy 89 = .ok (.ifCond .ne 10, 3) := by decide +kernel
theorem dX7_copy_92 : decode cX7_copy 92 = .ok (.aload_n 0, 1) := by decide +kernel
theorem dX7_copy_93 : decode cX7_copy 93 = .ok (.ldc 44, 2) := by decide +kernel
theorem dX7_copy_95 : decode cX7_copy 95 = .ok (.invokevirtual 53, 3) := by decide +kernel
theorem dX7_copy_98 : decode cX7_copy 98 = .ok (.ireturn, 1) := by decide +kernel
theorem dX7_copy_99 : decode cX7_copy 99 = .ok (.iconst 0, 1) := by decide +kernel
theorem dX7_copy_100 : decode cX7_copy 100 = .ok (.istore 6, 2) := by decide +kernel
theorem dX7_copy_102 : decode cX7_copy 102 = .ok (.iload 6, 2) := by decide +kernel
theorem dX7_copy_104 : decode cX7_copy 104 = .ok (.iload 5, 2) := by decide +kernel
theorem dX7_copy_106 : decode cX7_copy 106 = .ok (.if_icmp .ge 30, 3) := by decide +kernel
theorem dX7_copy_109 : decode cX7_copy 109 = .ok (.aload_n 0, 1) := by decide +kernel
theorem dX7_copy_110 : decode cX7_copy 110 = .ok (.getfield 35, 3) := by decide +kernel
theorem dX7_copy_113 : decode cX7_copy 113 = .ok (.iload 6, 2) := by decide +kernel
theorem dX7_copy_115 : decode cX7_copy 115 = .ok (.aload_n 0, 1) := by decide +kernel
theorem dX7_copy_116 : decode cX7_copy 116 = .ok (.getfield 31, 3) := by decide +kernel
theorem dX7_copy_119 : decode cX7_copy 119 = .ok (.bipush 40, 2) := by decide +kernel
theorem dX7_copy_121 : decode cX7_copy 121 = .ok (.iload_n 1, 1) := by decide +kernel
theorem dX7_copy_122 : decode cX7_copy 122 = .ok (.imul, 1) := by decide +kernel
theorem dX7_copy_123 : decode cX7_copy 123 = .ok (.iload_n 2, 1) := by decide +kernel
theorem dX7_copy_124 : decode cX7_copy 124 = .ok (.iadd, 1) := by decide +kernel
theorem dX7_copy_125 : decode cX7_copy 125 = .ok (.iload 6, 2) := by decide +kernel
theorem dX7_copy_127 : decode cX7_copy 127 = .ok (.iadd, 1) := by decide +kernel
theorem dX7_copy_128 : decode cX7_copy 128 = .ok (.laload, 1) := by decide +kernel
theorem dX7_copy_129 : decode cX7_copy 129 = .ok (.lastore, 1) := by decide +kernel
theorem dX7_copy_130 : decode cX7_copy 130 = .ok (.iinc 6 1, 3) := by decide +kernel
theorem dX7_copy_133 : decode cX7_copy 133 = .ok (.goto (-31), 3) := by decide +kernel
theorem dX7_copy_136 : decode cX7_copy 136 = .ok (.iconst 0, 1) := by decide +kernel
theorem dX7_copy_137 : decode cX7_copy 137 = .ok (.istore 6, 2) := by decide +kernel
theorem dX7_copy_139 : decode cX7_copy 139 = .ok (.iload 6, 2) := by decide +kernel
theorem dX7_copy_141 : decode cX7_copy 141 = .ok (.iload 5, 2) := by decide +kernel
theorem dX7_copy_143 : decode cX7_copy 143 = .ok (.if_icmp .ge 31, 3) := by decide +kernel
theorem dX7_copy_146 : decode cX7_copy 146 = .ok (.aload_n 0, 1) := by decide +kernel
theorem dX7_copy_147 : decode cX7_copy 147 = .ok (.getfield 31, 3) := by decide +kernel
theorem dX7_copy_150 : decode cX7_copy 150 = .ok (.bipush 40, 2) := by decide +kernel
theorem dX7_copy_152 : decode cX7_copy 152 = .ok (.iload_n 3, 1) := by decide +kernel
theorem dX7_copy_153 : decode cX7_copy 153 = .ok (.imul, 1) := by decide +kernel
theorem dX7_copy_154 : decode cX7_copy 154 = .ok (.iload 4, 2) := by decide +kernel
theorem dX7_copy_156 : decode cX7_copy 156 = .ok (.iadd, 1) := by decide +kernel
theorem dX7_copy_157 : decode cX7_copy 157 = .ok (.iload 6, 2) := by decide +kernel
theorem dX7_copy_159 : decode cX7_copy 159 = .ok (.iadd, 1) := by decide +kernel
theorem dX7_copy_160 : decode cX7_copy 160 = .ok (.aload_n 0, 1) := by decide +kernel
theorem dX7_copy_161 : decode cX7_copy 161 = .ok (.getfield 35, 3) := by decide +kernel
theorem dX7_copy_164 : decode cX7_copy 164 = .ok (.iload 6, 2) := by decide +kernel
theorem dX7_copy_166 : decode cX7_copy 166 = .ok (.laload, 1) := by decide +kernel
theorem dX7_copy_167 : decode cX7_copy 167 = .ok (.lastore, 1) := by decide +kernel
theorem dX7_copy_168 : decode cX7_copy 168 = .ok (.iinc 6 1, 3) := by decide +kernel
theorem dX7_copy_171 : decode cX7_copy 171 = .ok (.goto (-32), 3) := by decide +kernel
theorem dX7_copy_174 : decode cX7_copy 174 = .ok (.iload 5, 2) := by decide +kernel
theorem dX7_copy_176 : decode cX7_copy 176 = .ok (.ireturn, 1) := by decide +kernel
theorem dX7_badSheet_0 : decode cX7_badSheet 0 = .ok (.iload_n 1, 1) := by decide +kernel
theorem dX7_badSheet_1 : decode cX7_badSheet 1 = .ok (.invokestatic 273, 3) := by decide +kernel
theorem dX7_badSheet_4 : decode cX7_badSheet 4 = .ok (.ifCond .ne 8, 3) := by decide +kernel
theorem dX7_badSheet_7 : decode cX7_badSheet 7 = .ok (.ldc 44, 2) := by decide +kernel
theorem dX7_badSheet_9 : decode cX7_badSheet 9 = .ok (.goto 19, 3) := by decide +kernel
theorem dX7_badSheet_12 : decode cX7_badSheet 12 = .ok (.aload_n 0, 1) := by decide +kernel
theorem dX7_badSheet_13 : decode cX7_badSheet 13 = .ok (.getfield 25, 3) := by decide +kernel
theorem dX7_badSheet_16 : decode cX7_badSheet 16 = .ok (.iload_n 1, 1) := by decide +kernel
theorem dX7_badSheet_17 : decode cX7_badSheet 17 = .ok (.iaload, 1) := by decide +kernel
theorem dX7_badSheet_18 : decode cX7_badSheet 18 = .ok (.ifCond .ne 9, 3) := by decide +kernel
theorem dX7_badSheet_21 : decode cX7_badSheet 21 = .ok (.ldc_w 277, 3) := by decide +kernel
theorem dX7_badSheet_24 : decode cX7_badSheet 24 = .ok (.goto 4, 3) := by decide +kernel
theorem dX7_badSheet_27 : decode cX7_badSheet 27 = .ok (.iconst 0, 1) := by decide +kernel
theorem dX7_badSheet_28 : decode cX7_badSheet 28 = .ok (.ireturn, 1) := by decide +kernel
theorem dX7_lays_0 : decode cX7_lays 0 = .ok (.aload_n 0, 1) := by decide +kernel
theorem dX7_lays_1 : decode cX7_lays 1 = .ok (.iload_n 1, 1) := by decide +kernel
theorem dX7_lays_2 : decode cX7_lays 2 = .ok (.invokevirtual 285, 3) := by decide +kernel
theorem dX7_lays_5 : decode cX7_lays 5 = .ok (.istore_n 2, 1) := by decide +kernel
theorem dX7_lays_6 : decode cX7_lays 6 = .ok (.iload_n 2, 1) := by decide +kernel
theorem dX7_lays_7 : decode cX7_lays 7 = .ok (.ifCond .eq 9, 3) := by decide +kernel
theorem dX7_lays_10 : decode cX7_lays 10 = .ok (.aload_n 0, 1) := by decide +kernel
theorem dX7_lays_11 : decode cX7_lays 11 = .ok (.iload_n 2, 1) := by decide +kernel
theorem dX7_lays_12 : decode cX7_lays 12 = .ok (.invokevirtual 53, 3) := by decide +kernel
theorem dX7_lays_15 : decode cX7_lays 15 = .ok (.ireturn, 1) := by decide +kernel
theorem dX7_lays_16 : decode cX7_lays 16 = .ok (.iconst 0, 1) := by decide +kernel
theorem dX7_lays_17 : decode cX7_lays 17 = .ok (.istore_n 3, 1) := by decide +kernel
theorem dX7_lays_18 : decode cX7_lays 18 = .ok (.iconst 0, 1) := by decide +kernel
theorem dX7_lays_19 : decode cX7_lays 19 = .ok (.istore 4, 2) := by decide +kernel
theorem dX7_lays_21 : decode cX7_lays 21 = .ok (.iload 4, 2) := by decide +kernel
theorem dX7_lays_23 : decode cX7_lays 23 = .ok (.aload_n 0, 1) := by decide +kernel
theorem dX7_lays_24 : decode cX7_lays 24 = .ok (.getfield 28, 3) := by decide +kernel
theorem dX7_lays_27 : decode cX7_lays 27 = .ok (.iload_n 1, 1) := by decide +kernel
theorem dX7_lays_28 : decode cX7_lays 28 = .ok (.iaload, 1) := by decide +kernel
theorem dX7_lays_29 : decode cX7_lays 29 = .ok (.if_icmp .ge 64, 3) := by decide +kernel
theorem dX7_lays_32 : decode cX7_lays 32 = .ok (.iload 4, 2) := by decide +kernel
theorem dX7_lays_34 : decode cX7_lays 34 = .ok (.aload_n 0, 1) := by decide +kernel
theorem dX7_lays_35 : decode cX7_lays 35 = .ok (.getfield 7, 3) := by decide +kernel
theorem dX7_lays_38 : decode cX7_lays 38 = .ok (.bipush 8, 2) := by decide +kernel
theorem dX7_lays_40 : decode cX7_lays 40 = .ok (.iaload, 1) := by decide +kernel
theorem dX7_lays_41 : decode cX7_lays 41 = .ok (.if_icmp .ge 52, 3) := by decide +kernel
theorem dX7_lays_44 : decode cX7_lays 44 = .ok (.aload_n 0, 1) := by decide +kernel
theorem dX7_lays_45 : decode cX7_lays 45 = .ok (.getfield 31, 3) := by decide +kernel
theorem dX7_lays_48 : decode cX7_lays 48 = .ok (.bipush 40, 2) := by decide +kernel
theorem dX7_lays_50 : decode cX7_lays 50 = .ok (.iload_n 1, 1) := by decide +kernel
theorem dX7_lays_51 : decode cX7_lays 51 = .ok (.imul, 1) := by decide +kernel
theorem dX7_lays_52 : decode cX7_lays 52 = .ok (.iload 4, 2) := by decide +kernel
theorem dX7_lays_54 : decode cX7_lays 54 = .ok (.iadd, 1) := by decide +kernel
theorem dX7_lays_55 : decode cX7_lays 55 = .ok (.laload, 1) := by decide +kernel
theorem dX7_lays_56 : decode cX7_lays 56 = .ok (.lstore 5, 2) := by decide +kernel
theorem dX7_lays_58 : decode cX7_lays 58 = .ok (.lload 5, 2) := by decide +kernel
theorem dX7_lays_60 : decode cX7_lays 60 = .ok (.lconst 0, 1) := by decide +kernel
theorem dX7_lays_61 : decode cX7_lays 61 = .ok (.lcmp, 1) := by decide +kernel
theorem dX7_lays_62 : decode cX7_lays 62 = .ok (.ifCond .lt 25, 3) := by decide +kernel
theorem dX7_lays_65 : decode cX7_lays 65 = .ok (.lload 5, 2) := by decide +kernel
theorem dX7_lays_67 : decode cX7_lays 67 = .ok (.ldc2_w 288, 3) := by decide +kernel
theorem dX7_lays_70 : decode cX7_lays 70 = .ok (.lcmp, 1) := by decide +kernel
theorem dX7_lays_71 : decode cX7_lays 71 = .ok (.ifCond .gt 16, 3) := by decide +kernel
theorem dX7_lays_74 : decode cX7_lays 74 = .ok (.aload_n 0, 1) := by decide +kernel
theorem dX7_lays_75 : decode cX7_lays 75 = .ok (.iload 4, 2) := by decide +kernel
theorem dX7_lays_77 : decode cX7_lays 77 = .ok (.iconst 2, 1) := by decide +kernel
theorem dX7_lays_78 : decode cX7_lays 78 = .ok (.lload 5, 2) := by decide +kernel
theorem dX7_lays_80 : decode cX7_lays 80 = .ok (.l2i, 1) := by decide +kernel
theorem dX7_lays_81 : decode cX7_lays 81 = .ok (.invokevirtual 57, 3) := by decide +kernel
theorem dX7_lays_84 : decode cX7_lays 84 = .ok (.iinc 3 1, 3) := by decide +kernel
theorem dX7_lays_87 : decode cX7_lays 87 = .ok (.iinc 4 1, 3) := by decide +kernel
theorem dX7_lays_90 : decode cX7_lays 90 = .ok (.goto (-69), 3) := by decide +kernel
theorem dX7_lays_93 : decode cX7_lays 93 = .ok (.iload_n 3, 1) := by decide +kernel
theorem dX7_lays_94 : decode cX7_lays 94 = .ok (.ireturn, 1) := by decide +kernel
theorem dX7_book_0 : decode cX7_book 0 = .ok (.aload_n 0, 1) := by decide +kernel
theorem dX7_book_1 : decode cX7_book 1 = .ok (.iload_n 1, 1) := by decide +kernel
theorem dX7_book_2 : decode cX7_book 2 = .ok (.invokevirtual 285, 3) := by decide +kernel
theorem dX7_book_5 : decode cX7_book 5 = .ok (.istore_n 3, 1) := by decide +kernel
theorem dX7_book_6 : decode cX7_book 6 = .ok (.iload_n 3, 1) := by decide +kernel
theorem dX7_book_7 : decode cX7_book 7 = .ok (.ifCond .eq 9, 3) := by decide +kernel
theorem dX7_book_10 : decode cX7_book 10 = .ok (.aload_n 0, 1) := by decide +kernel
theorem dX7_book_11 : decode cX7_book 11 = .ok (.iload_n 3, 1) := by decide +kernel
theorem dX7_book_12 : decode cX7_book 12 = .ok (.invokevirtual 53, 3) := by decide +kernel
theorem dX7_book_15 : decode cX7_book 15 = .ok (.ireturn, 1) := by decide +kernel
theorem dX7_book_16 : decode cX7_book 16 = .ok (.aload_n 0, 1) := by decide +kernel
theorem dX7_book_17 : decode cX7_book 17 = .ok (.iload_n 2, 1) := by decide +kernel
theorem dX7_book_18 : decode cX7_book 18 = .ok (.invokevirtual 87, 3) := by decide +kernel
theorem dX7_book_21 : decode cX7_book 21 = .ok (.ifCond .ne 10, 3) := by decide +kernel
theorem dX7_book_24 : decode cX7_book 24 = .ok (.aload_n 0, 1) := by decide +kernel
theorem dX7_book_25 : decode cX7_book 25 = .ok (.ldc 44, 2) := by decide +kernel
theorem dX7_book_27 : decode cX7_book 27 = .ok (.invokevirtual 53, 3) := by decide +kernel
theorem dX7_book_30 : decode cX7_book 30 = .ok (.ireturn, 1) := by decide +kernel
theorem dX7_book_31 : decode cX7_book 31 = .ok (.aload_n 0, 1) := by decide +kernel
theorem dX7_book_32 : decode cX7_book 32 = .ok (.iconst 1, 1) := by decide +kernel
theorem dX7_book_33 : decode cX7_book 33 = .ok (.aload_n 0, 1) := by decide +kernel
theorem dX7_book_34 : decode cX7_book 34 = .ok (.getfield 16, 3) := by decide +kernel
theorem dX7_book_37 : decode cX7_book 37 = .ok (.invokevirtual 126, 3) := by decide +kernel
theorem dX7_book_40 : decode cX7_book 40 = .ok (.iconst 0, 1) := by decide +kernel
theorem dX7_book_41 : decode cX7_book 41 = .ok (.istore 4, 2) := by decide +kernel
theorem dX7_book_43 : decode cX7_book 43 = .ok (.iload 4, 2) := by decide +kernel
theorem dX7_book_45 : decode cX7_book 45 = .ok (.aload_n 0, 1) := by decide +kernel
theorem dX7_book_46 : decode cX7_book 46 = .ok (.getfield 28, 3) := by decide +kernel
theorem dX7_book_49 : decode cX7_book 49 = .ok (.iload_n 1, 1) := by decide +kernel
theorem dX7_book_50 : decode cX7_book 50 = .ok (.iaload, 1) := by decide +kernel
theorem dX7_book_51 : decode cX7_book 51 = .ok (.if_icmp .ge 42, 3) := by decide +kernel
theorem dX7_book_54 : decode cX7_book 54 = .ok (.aload_n 0, 1) := by decide +kernel
theorem dX7_book_55 : decode cX7_book 55 = .ok (.getfield 31, 3) := by decide +kernel
theorem dX7_book_58 : decode cX7_book 58 = .ok (.bipush 40, 2) := by decide +kernel
theorem dX7_book_60 : decode cX7_book 60 = .ok (.iload_n 1, 1) := by decide +kernel
theorem dX7_book_61 : decode cX7_book 61 = .ok (.imul, 1) := by decide +kernel
theorem dX7_book_62 : decode cX7_book 62 = .ok (.iload 4, 2) := by decide +kernel
theorem dX7_book_64 : decode cX7_book 64 = .ok (.iadd, 1) := by decide +kernel
theorem dX7_book_65 : decode cX7_book 65 = .ok (.aload_n 0, 1) := by decide +kernel
theorem dX7_book_66 : decode cX7_book 66 = .ok (.getfield 25, 3) := by decide +kernel
theorem dX7_book_69 : decode cX7_book 69 = .ok (.iload_n 1, 1) := by decide +kernel
theorem dX7_book_70 : decode cX7_book 70 = .ok (.iaload, 1) := by decide +kernel
theorem dX7_book_71 : decode cX7_book 71 = .ok (.aload_n 0, 1) := by decide +kernel
theorem dX7_book_72 : decode cX7_book 72 = .ok (.iload_n 2, 1) := by decide +kernel
theorem dX7_book_73 : decode cX7_book 73 = .ok (.bipush 6, 2) := by decide +kernel
theorem dX7_book_75 : decode cX7_book 75 = .ok (.invokevirtual 69, 3) := by decide +kernel
theorem dX7_book_78 : decode cX7_book 78 = .ok (.i2l, 1) := by decide +kernel
theorem dX7_book_79 : decode cX7_book 79 = .ok (.invokestatic 278, 3) := by decide +kernel
theorem dX7_book_82 : decode cX7_book 82 = .ok (.lastore, 1) := by decide +kernel
theorem dX7_book_83 : decode cX7_book 83 = .ok (.aload_n 0, 1) := by decide +kernel
theorem dX7_book_84 : decode cX7_book 84 = .ok (.invokevirtual 112, 3) := by decide +kernel
theorem dX7_book_87 : decode cX7_book 87 = .ok (.iinc 4 1, 3) := by decide +kernel
theorem dX7_book_90 : decode cX7_book 90 = .ok (.goto (-47), 3) := by decide +kernel
theorem dX7_book_93 : decode cX7_book 93 = .ok (.aload_n 0, 1) := by decide +kernel
theorem dX7_book_94 : decode cX7_book 94 = .ok (.iconst 0, 1) := by decide +kernel
theorem dX7_book_95 : decode cX7_book 95 = .ok (.aload_n 0, 1) := by decide +kernel
theorem dX7_book_96 : decode cX7_book 96 = .ok (.getfield 16, 3) := by decide +kernel
theorem dX7_book_99 : decode cX7_book 99 = .ok (.invokevirtual 126, 3) := by decide +kernel
theorem dX7_book_102 : decode cX7_book 102 = .ok (.aload_n 0, 1) := by decide +kernel
theorem dX7_book_103 : decode cX7_book 103 = .ok (.getfield 28, 3) := by decide +kernel
theorem dX7_book_106 : decode cX7_book 106 = .ok (.iload_n 1, 1) := by decide +kernel
theorem dX7_book_107 : decode cX7_book 107 = .ok (.iaload, 1) := by decide +kernel
theorem dX7_book_108 : decode cX7_book 108 = .ok (.ireturn, 1) := by decide +kernel
theorem dX7_isSo_0 : decode cX7_isSo 0 = .ok (.iconst 1, 1) := by decide +kernel
theorem dX7_isSo_1 : decode cX7_isSo 1 = .ok (.istore_n 3, 1) := by decide +kernel
theorem dX7_isSo_2 : decode cX7_isSo 2 = .ok (.iconst 0, 1) := by decide +kernel
theorem dX7_isSo_3 : decode cX7_isSo 3 = .ok (.istore 4, 2) := by decide +kernel
theorem dX7_isSo_5 : decode cX7_isSo 5 = .ok (.iload 4, 2) := by decide +kernel
theorem dX7_isSo_7 : decode cX7_isSo 7 = .ok (.aload_n 0, 1) := by decide +kernel
theorem dX7_isSo_8 : decode cX7_isSo 8 = .ok (.getfield 28, 3) := by decide +kernel
theorem dX7_isSo_11 : decode cX7_isSo 11 = .ok (.iload_n 1, 1) := by decide +kernel
theorem dX7_isSo_12 : decode cX7_isSo 12 = .ok (.iaload, 1) := by decide +kernel
theorem dX7_isSo_13 : decode cX7_isSo 13 = .ok (.if_icmp .ge 47, 3) := by decide +kernel
theorem dX7_isSo_16 : decode cX7_isSo 16 = .ok (.iload_n 3, 1) := by decide +kernel
theorem dX7_isSo_17 : decode cX7_isSo 17 = .ok (.ifCond .eq 43, 3) := by decide +kernel
theorem dX7_isSo_20 : decode cX7_isSo 20 = .ok (.aload_n 0, 1) := by decide +kernel
theorem dX7_isSo_21 : decode cX7_isSo 21 = .ok (.getfield 31, 3) := by decide +kernel
theorem dX7_isSo_24 : decode cX7_isSo 24 = .ok (.bipush 40, 2) := by decide +kernel
theorem dX7_isSo_26 : decode cX7_isSo 26 = .ok (.iload_n 1, 1) := by decide +kernel
theorem dX7_isSo_27 : decode cX7_isSo 27 = .ok (.imul, 1) := by decide +kernel
theorem dX7_isSo_28 : decode cX7_isSo 28 = .ok (.iload 4, 2) := by decide +kernel
theorem dX7_isSo_30 : decode cX7_isSo 30 = .ok (.iadd, 1) := by decide +kernel
theorem dX7_isSo_31 : decode cX7_isSo 31 = .ok (.laload, 1) := by decide +kernel
theorem dX7_isSo_32 : decode cX7_isSo 32 = .ok (.aload_n 0, 1) := by decide +kernel
theorem dX7_isSo_33 : decode cX7_isSo 33 = .ok (.iload_n 2, 1) := by decide +kernel
theorem dX7_isSo_34 : decode cX7_isSo 34 = .ok (.bipush 6, 2) := by decide +kernel
theorem dX7_isSo_36 : decode cX7_isSo 36 = .ok (.invokevirtual 69, 3) := by decide +kernel
theorem dX7_isSo_39 : decode cX7_isSo 39 = .ok (.i2l, 1) := by decide +kernel
theorem dX7_isSo_40 : decode cX7_isSo 40 = .ok (.lcmp, 1) := by decide +kernel
theorem dX7_isSo_41 : decode cX7_isSo 41 = .ok (.ifCond .ne 7, 3) := by decide +kernel
theorem dX7_isSo_44 : decode cX7_isSo 44 = .ok (.iconst 1, 1) := by decide +kernel
theorem dX7_isSo_45 : decode cX7_isSo 45 = .ok (.goto 4, 3) := by decide +kernel
theorem dX7_isSo_48 : decode cX7_isSo 48 = .ok (.iconst 0, 1) := by decide +kernel
theorem dX7_isSo_49 : decode cX7_isSo 49 = .ok (.istore_n 3, 1) := by decide +kernel
theorem dX7_isSo_50 : decode cX7_isSo 50 = .ok (.aload_n 0, 1) := by decide +kernel
theorem dX7_isSo_51 : decode cX7_isSo 51 = .ok (.invokevirtual 112, 3) := by decide +kernel
theorem dX7_isSo_54 : decode cX7_isSo 54 = .ok (.iinc 4 1, 3) := by decide +kernel
theorem dX7_isSo_57 : decode cX7_isSo 57 = .ok (.goto (-52), 3) := by decide +kernel
theorem dX7_isSo_60 : decode cX7_isSo 60 = .ok (.iload_n 3, 1) := by decide +kernel
theorem dX7_isSo_61 : decode cX7_isSo 61 = .ok (.ireturn, 1) := by decide +kernel
theorem dX7_read_0 : decode cX7_read 0 = .ok (.aload_n 0, 1) := by decide +kernel
theorem dX7_read_1 : decode cX7_read 1 = .ok (.iload_n 1, 1) := by decide +kernel
theorem dX7_read_2 : decode cX7_read 2 = .ok (.invokevirtual 285, 3) := by decide +kernel
theorem dX7_read_5 : decode cX7_read 5 = .ok (.istore_n 3, 1) := by decide +kernel
theorem dX7_read_6 : decode cX7_read 6 = .ok (.iload_n 3, 1) := by decide +kernel
theorem dX7_read_7 : decode cX7_read 7 = .ok (.ifCond .eq 9, 3) := by decide +kernel
theorem dX7_read_10 : decode cX7_read 10 = .ok (.aload_n 0, 1) := by decide +kernel
theorem dX7_read_11 : decode cX7_read 11 = .ok (.iload_n 3, 1) := by decide +kernel
theorem dX7_read_12 : decode cX7_read 12 = .ok (.invokevirtual 53, 3) := by decide +kernel
theorem dX7_read_15 : decode cX7_read 15 = .ok (.ireturn, 1) := by decide +kernel
theorem dX7_read_16 : decode cX7_read 16 = .ok (.aload_n 0, 1) := by decide +kernel
theorem dX7_read_17 : decode cX7_read 17 = .ok (.iload_n 2, 1) := by decide +kernel
theorem dX7_read_18 : decode cX7_read 18 = .ok (.invokevirtual 87, 3) := by decide +kernel
theorem dX7_read_21 : decode cX7_read 21 = .ok (.ifCond .ne 10, 3) := by decide +kernel
theorem dX7_read_24 : decode cX7_read 24 = .ok (.aload_n 0, 1) := by decide +kernel
theorem dX7_read_25 : decode cX7_read 25 = .ok (.ldc 44, 2) := by decide +kernel
theorem dX7_read_27 : decode cX7_read 27 = .ok (.invokevirtual 53, 3) := by decide +kernel
theorem dX7_read_30 : decode cX7_read 30 = .ok (.ireturn, 1) := by decide +kernel
theorem dX7_read_31 : decode cX7_read 31 = .ok (.iconst 0, 1) := by decide +kernel
theorem dX7_read_32 : decode cX7_read 32 = .ok (.istore 4, 2) := by decide +kernel
theorem dX7_read_34 : decode cX7_read 34 = .ok (.aload_n 0, 1) := by decide +kernel
theorem dX7_read_35 : decode cX7_read 35 = .ok (.iconst 1, 1) := by decide +kernel
theorem dX7_read_36 : decode cX7_read 36 = .ok (.aload_n 0, 1) := by decide +kernel
theorem dX7_read_37 : decode cX7_read 37 = .ok (.getfield 16, 3) := by decide +kernel
theorem dX7_read_40 : decode cX7_read 40 = .ok (.invokevirtual 126, 3) := by decide +kernel
theorem dX7_read_43 : decode cX7_read 43 = .ok (.iconst 0, 1) := by decide +kernel
theorem dX7_read_44 : decode cX7_read 44 = .ok (.istore 5, 2) := by decide +kernel
theorem dX7_read_46 : decode cX7_read 46 = .ok (.iload 5, 2) := by decide +kernel
theorem dX7_read_48 : decode cX7_read 48 = .ok (.bipush 99, 2) := by decide +kernel
theorem dX7_read_50 : decode cX7_read 50 = .ok (.if_icmp .gt 69, 3) := by decide +kernel
theorem dX7_read_53 : decode cX7_read 53 = .ok (.iconst 0, 1) := by decide +kernel
theorem dX7_read_54 : decode cX7_read 54 = .ok (.istore 6, 2) := by decide +kernel
theorem dX7_read_56 : decode cX7_read 56 = .ok (.iload 6, 2) := by decide +kernel
theorem dX7_read_58 : decode cX7_read 58 = .ok (.bipush 16, 2) := by decide +kernel
theorem dX7_read_60 : decode cX7_read 60 = .ok (.if_icmp .ge 53, 3) := by decide +kernel
theorem dX7_read_63 : decode cX7_read 63 = .ok (.aload_n 0, 1) := by decide +kernel
theorem dX7_read_64 : decode cX7_read 64 = .ok (.getfield 7, 3) := by decide +kernel
theorem dX7_read_67 : decode cX7_read 67 = .ok (.iconst 1, 1) := by decide +kernel
theorem dX7_read_68 : decode cX7_read 68 = .ok (.iload 5, 2) := by decide +kernel
theorem dX7_read_70 : decode cX7_read 70 = .ok (.iastore, 1) := by decide +kernel
theorem dX7_read_71 : decode cX7_read 71 = .ok (.aload_n 0, 1) := by decide +kernel
theorem dX7_read_72 : decode cX7_read 72 = .ok (.getfield 7, 3) := by decide +kernel
theorem dX7_read_75 : decode cX7_read 75 = .ok (.iconst 0, 1) := by decide +kernel
theorem dX7_read_76 : decode cX7_read 76 = .ok (.iload 6, 2) := by decide +kernel
theorem dX7_read_78 : decode cX7_read 78 = .ok (.iastore, 1) := by decide +kernel
theorem dX7_read_79 : decode cX7_read 79 = .ok (.iload 4, 2) := by decide +kernel
theorem dX7_read_81 : decode cX7_read 81 = .ok (.aload_n 0, 1) := by decide +kernel
theorem dX7_read_82 : decode cX7_read 82 = .ok (.iload_n 1, 1) := by decide +kernel
theorem dX7_read_83 : decode cX7_read 83 = .ok (.iload_n 2, 1) := by decide +kernel
theorem dX7_read_84 : decode cX7_read 84 = .ok (.invokevirtual 290, 3) := by decide +kernel
theorem dX7_read_87 : decode cX7_read 87 = .ok (.ifCond .eq 7, 3) := by decide +kernel
theorem dX7_read_90 : decode cX7_read 90 = .ok (.iconst 1, 1) := by decide +kernel
theorem dX7_read_91 : decode cX7_read 91 = .ok (.goto 4, 3) := by decide +kernel
theorem dX7_read_94 : decode cX7_read 94 = .ok (.iconst 0, 1) := by decide +kernel
theorem dX7_read_95 : decode cX7_read 95 = .ok (.iadd, 1) := by decide +kernel
theorem dX7_read_96 : decode cX7_read 96 = .ok (.istore 4, 2) := by decide +kernel
theorem dX7_read_98 : decode cX7_read 98 = .ok (.aload_n 0, 1) := by decide +kernel
theorem dX7_read_99 : decode cX7_read 99 = .ok (.iconst 0, 1) := by decide +kernel
theorem dX7_read_100 : decode cX7_read 100 = .ok (.aload_n 0, 1) := by decide +kernel
theorem dX7_read_101 : decode cX7_read 101 = .ok (.getfield 16, 3) := by decide +kernel
theorem dX7_read_104 : decode cX7_read 104 = .ok (.invokevirtual 126, 3) := by decide +kernel
theorem dX7_read_107 : decode cX7_read 107 = .ok (.iinc 6 1, 3) := by decide +kernel
theorem dX7_read_110 : decode cX7_read 110 = .ok (.goto (-54), 3) := by decide +kernel
theorem dX7_read_113 : decode cX7_read 113 = .ok (.iinc 5 1, 3) := by decide +kernel
theorem dX7_read_116 : decode cX7_read 116 = .ok (.goto (-70), 3) := by decide +kernel
theorem dX7_read_119 : decode cX7_read 119 = .ok (.iload 4, 2) := by decide +kernel
theorem dX7_read_121 : decode cX7_read 121 = .ok (.ireturn, 1) := by decide +kernel
theorem dX7_moveAll_0 : decode cX7_moveAll 0 = .ok (.iconst 0, 1) := by decide +kernel
theorem dX7_moveAll_1 : decode cX7_moveAll 1 = .ok (.istore_n 3, 1) := by decide +kernel
theorem dX7_moveAll_2 : decode cX7_moveAll 2 = .ok (.iload_n 3, 1) := by decide +kernel
theorem dX7_moveAll_3 : decode cX7_moveAll 3 = .ok (.bipush 65, 2) := by decide +kernel
theorem dX7_moveAll_5 : decode cX7_moveAll 5 = .ok (.if_icmp .ge 34, 3) := by decide +kernel
theorem dX7_moveAll_8 : decode cX7_moveAll 8 = .ok (.iload_n 1, 1) := by decide +kernel
theorem dX7_moveAll_9 : decode cX7_moveAll 9 = .ok (.ifCond .eq 15, 3) := by decide +kernel
theorem dX7_moveAll_12 : decode cX7_moveAll 12 = .ok (.aload_n 2, 1) := by decide +kernel
theorem dX7_moveAll_13 : decode cX7_moveAll 13 = .ok (.iload_n 3, 1) := by decide +kernel
theorem dX7_moveAll_14 : decode cX7_moveAll 14 = .ok (.aload_n 0, 1) := by decide +kernel
theorem dX7_moveAll_15 : decode cX7_moveAll 15 = .ok (.getfield 7, 3) := by decide +kernel
theorem dX7_moveAll_18 : decode cX7_moveAll 18 = .ok (.iload_n 3, 1) := by decide +kernel
theorem dX7_moveAll_19 : decode cX7_moveAll 19 = .ok (.iaload, 1) := by decide +kernel
theorem dX7_moveAll_20 : decode cX7_moveAll 20 = .ok (.iastore, 1) := by decide +kernel
theorem dX7_moveAll_21 : decode cX7_moveAll 21 = .ok (.goto 12, 3) := by decide +kernel
theorem dX7_moveAll_24 : decode cX7_moveAll 24 = .ok (.aload_n 0, 1) := by decide +kernel
theorem dX7_moveAll_25 : decode cX7_moveAll 25 = .ok (.getfield 7, 3) := by decide +kernel
theorem dX7_moveAll_28 : decode cX7_moveAll 28 = .ok (.iload_n 3, 1) := by decide +kernel
theorem dX7_moveAll_29 : decode cX7_moveAll 29 = .ok (.aload_n 2, 1) := by decide +kernel
theorem dX7_moveAll_30 : decode cX7_moveAll 30 = .ok (.iload_n 3, 1) := by decide +kernel
theorem dX7_moveAll_31 : decode cX7_moveAll 31 = .ok (.iaload, 1) := by decide +kernel
theorem dX7_moveAll_32 : decode cX7_moveAll 32 = .ok (.iastore, 1) := by decide +kernel
theorem dX7_moveAll_33 : decode cX7_moveAll 33 = .ok (.iinc 3 1, 3) := by decide +kernel
theorem dX7_moveAll_36 : decode cX7_moveAll 36 = .ok (.goto (-34), 3) := by decide +kernel
theorem dX7_moveAll_39 : decode cX7_moveAll 39 = .ok (.return_, 1) := by decide +kernel
theorem dX7_image_0 : decode cX7_image 0 = .ok (.aload_n 0, 1) := by decide +kernel
theorem dX7_image_1 : decode cX7_image 1 = .ok (.iconst 1, 1) := by decide +kernel
theorem dX7_image_2 : decode cX7_image 2 = .ok (.aload_n 0, 1) := by decide +kernel
theorem dX7_image_3 : decode cX7_image 3 = .ok (.getfield 38, 3) := by decide +kernel
theorem dX7_image_6 : decode cX7_image 6 = .ok (.invokevirtual 126, 3) := by decide +kernel
theorem dX7_image_9 : decode cX7_image 9 = .ok (.aload_n 0, 1) := by decide +kernel
theorem dX7_image_10 : decode cX7_image 10 = .ok (.iconst 1, 1) := by decide +kernel
theorem dX7_image_11 : decode cX7_image 11 = .ok (.putfield 293, 3) := by decide +kernel
theorem dX7_image_14 : decode cX7_image 14 = .ok (.iconst 1, 1) := by decide +kernel
theorem dX7_image_15 : decode cX7_image 15 = .ok (.ireturn, 1) := by decide +kernel
theorem dX7_undo_0 : decode cX7_undo 0 = .ok (.aload_n 0, 1) := by decide +kernel
theorem dX7_undo_1 : decode cX7_undo 1 = .ok (.getfield 293, 3) := by decide +kernel
theorem dX7_undo_4 : decode cX7_undo 4 = .ok (.ifCond .ne 10, 3) := by decide +kernel
theorem dX7_undo_7 : decode cX7_undo 7 = .ok (.aload_n 0, 1) := by decide +kernel
theorem dX7_undo_8 : decode cX7_undo 8 = .ok (.ldc 149, 2) := by decide +kernel
theorem dX7_undo_10 : decode cX7_undo 10 = .ok (.invokevirtual 53, 3) := by decide +kernel
theorem dX7_undo_13 : decode cX7_undo 13 = .ok (.ireturn, 1) := by decide +kernel
theorem dX7_undo_14 : decode cX7_undo 14 = .ok (.aload_n 0, 1) := by decide +kernel
theorem dX7_undo_15 : decode cX7_undo 15 = .ok (.iconst 0, 1) := by decide +kernel
theorem dX7_undo_16 : decode cX7_undo 16 = .ok (.aload_n 0, 1) := by decide +kernel
theorem dX7_undo_17 : decode cX7_undo 17 = .ok (.getfield 38, 3) := by decide +kernel
theorem dX7_undo_20 : decode cX7_undo 20 = .ok (.invokevirtual 126, 3) := by decide +kernel
theorem dX7_undo_23 : decode cX7_undo 23 = .ok (.aload_n 0, 1) := by decide +kernel
theorem dX7_undo_24 : decode cX7_undo 24 = .ok (.getfield 7, 3) := by decide +kernel
theorem dX7_undo_27 : decode cX7_undo 27 = .ok (.bipush 8, 2) := by decide +kernel
theorem dX7_undo_29 : decode cX7_undo 29 = .ok (.iaload, 1) := by decide +kernel
theorem dX7_undo_30 : decode cX7_undo 30 = .ok (.ireturn, 1) := by decide +kernel
theorem dX7_tear_0 : decode cX7_tear 0 = .ok (.aload_n 0, 1) := by decide +kernel
theorem dX7_tear_1 : decode cX7_tear 1 = .ok (.getfield 293, 3) := by decide +kernel
theorem dX7_tear_4 : decode cX7_tear 4 = .ok (.ifCond .eq 7, 3) := by decide +kernel
theorem dX7_tear_7 : decode cX7_tear 7 = .ok (.iconst 1, 1) := by decide +kernel
theorem dX7_tear_8 : decode cX7_tear 8 = .ok (.goto 4, 3) := by decide +kernel
theorem dX7_tear_11 : decode cX7_tear 11 = .ok (.iconst 0, 1) := by decide +kernel
theorem dX7_tear_12 : decode cX7_tear 12 = .ok (.istore_n 1, 1) := by decide +kernel
theorem dX7_tear_13 : decode cX7_tear 13 = .ok (.aload_n 0, 1) := by decide +kernel
theorem dX7_tear_14 : decode cX7_tear 14 = .ok (.iconst 0, 1) := by decide +kernel
theorem dX7_tear_15 : decode cX7_tear 15 = .ok (.putfield 293, 3) := by decide +kernel
theorem dX7_tear_18 : decode cX7_tear 18 = .ok (.iload_n 1, 1) := by decide +kernel
theorem dX7_tear_19 : decode cX7_tear 19 = .ok (.ireturn, 1) := by decide +kernel
theorem dX7_paidAll_0 : decode cX7_paidAll 0 = .ok (.iconst 0, 1) := by decide +kernel
theorem dX7_paidAll_1 : decode cX7_paidAll 1 = .ok (.istore_n 1, 1) := by decide +kernel
theorem dX7_paidAll_2 : decode cX7_paidAll 2 = .ok (.iconst 0, 1) := by decide +kernel
theorem dX7_paidAll_3 : decode cX7_paidAll 3 = .ok (.istore_n 2, 1) := by decide +kernel
theorem dX7_paidAll_4 : decode cX7_paidAll 4 = .ok (.iload_n 2, 1) := by decide +kernel
theorem dX7_paidAll_5 : decode cX7_paidAll 5 = .ok (.aload_n 0, 1) := by decide +kernel
theorem dX7_paidAll_6 : decode cX7_paidAll 6 = .ok (.getfield 7, 3) := by decide +kernel
theorem dX7_paidAll_9 : decode cX7_paidAll 9 = .ok (.bipush 8, 2) := by decide +kernel
theorem dX7_paidAll_11 : decode cX7_paidAll 11 = .ok (.iaload, 1) := by decide +kernel
theorem dX7_paidAll_12 : decode cX7_paidAll 12 = .ok (.if_icmp .ge 17, 3) := by decide +kernel
theorem dX7_paidAll_15 : decode cX7_paidAll 15 = .ok (.iload_n 1, 1) := by decide +kernel
theorem dX7_paidAll_16 : decode cX7_paidAll 16 = .ok (.aload_n 0, 1) := by decide +kernel
theorem dX7_paidAll_17 : decode cX7_paidAll 17 = .ok (.iload_n 2, 1) := by decide +kernel
theorem dX7_paidAll_18 : decode cX7_paidAll 18 = .ok (.invokevirtual 81, 3) := by decide +kernel
theorem dX7_paidAll_21 : decode cX7_paidAll 21 = .ok (.iadd, 1) := by decide +kernel
theorem dX7_paidAll_22 : decode cX7_paidAll 22 = .ok (.istore_n 1, 1) := by decide +kernel
theorem dX7_paidAll_23 : decode cX7_paidAll 23 = .ok (.iinc 2 1, 3) := by decide +kernel
theorem dX7_paidAll_26 : decode cX7_paidAll 26 = .ok (.goto (-22), 3) := by decide +kernel
theorem dX7_paidAll_29 : decode cX7_paidAll 29 = .ok (.iload_n 1, 1) := by decide +kernel
theorem dX7_paidAll_30 : decode cX7_paidAll 30 = .ok (.ireturn, 1) := by decide +kernel
theorem dX7_count_0 : decode cX7_count 0 = .ok (.iload_n 1, 1) := by decide +kernel
theorem dX7_count_1 : decode cX7_count 1 = .ok (.tableswitch 55 0 3 #[31, 39, 44, 50], 31) := by decide +kernel
theorem dX7_count_32 : decode cX7_count 32 = .ok (.aload_n 0, 1) := by decide +kernel
theorem dX7_count_33 : decode cX7_count 33 = .ok (.getfield 7, 3) := by decide +kernel
theorem dX7_count_36 : decode cX7_count 36 = .ok (.bipush 8, 2) := by decide +kernel
theorem dX7_count_38 : decode cX7_count 38 = .ok (.iaload, 1) := by decide +kernel
theorem dX7_count_39 : decode cX7_count 39 = .ok (.ireturn, 1) := by decide +kernel
theorem dX7_count_40 : decode cX7_count 40 = .ok (.aload_n 0, 1) := by decide +kernel
theorem dX7_count_41 : decode cX7_count 41 = .ok (.getfield 172, 3) := by decide +kernel
theorem dX7_count_44 : decode cX7_count 44 = .ok (.ireturn, 1) := by decide +kernel
theorem dX7_count_45 : decode cX7_count 45 = .ok (.aload_n 0, 1) := by decide +kernel
theorem dX7_count_46 : decode cX7_count 46 = .ok (.iconst 2, 1) := by decide +kernel
theorem dX7_count_47 : decode cX7_count 47 = .ok (.invokevirtual 119, 3) := by decide +kernel
theorem dX7_count_50 : decode cX7_count 50 = .ok (.ireturn, 1) := by decide +kernel
theorem dX7_count_51 : decode cX7_count 51 = .ok (.aload_n 0, 1) := by decide +kernel
theorem dX7_count_52 : decode cX7_count 52 = .ok (.invokevirtual 296, 3) := by decide +kernel
theorem dX7_count_55 : decode cX7_count 55 = .ok (.ireturn, 1) := by decide +kernel
theorem dX7_count_56 : decode cX7_count 56 = .ok (.aload_n 0, 1) := by decide +kernel
theorem dX7_count_57 : decode cX7_count 57 = .ok (.ldc 44, 2) := by decide +kernel
theorem dX7_count_59 : decode cX7_count 59 = .ok (.invokevirtual 53, 3) := by decide +kernel
theorem dX7_count_62 : decode cX7_count 62 = .ok (.ireturn, 1) := by decide +kernel
theorem dX7_status_0 : decode cX7_status 0 = .ok (.iload_n 1, 1) := by decide +kernel
theorem dX7_status_1 : decode cX7_status 1 = .ok (.iconst (-1), 1) := by decide +kernel
theorem dX7_status_2 : decode cX7_status 2 = .ok (.bipush 6, 2) := by decide +kernel
theorem dX7_status_4 : decode cX7_status 4 = .ok (.invokestatic 45, 3) := by decide +kernel
theorem dX7_status_7 : decode cX7_status 7 = .ok (.ifCond .ne 10, 3) := by decide +kernel
theorem dX7_status_10 : decode cX7_status 10 = .ok (.aload_n 0, 1) := by decide +kernel
theorem dX7_status_11 : decode cX7_status 11 = .ok (.ldc 44, 2) := by decide +kernel
theorem dX7_status_13 : decode cX7_status 13 = .ok (.invokevirtual 53, 3) := by decide +kernel
theorem dX7_status_16 : decode cX7_status 16 = .ok (.ireturn, 1) := by decide +kernel
theorem dX7_status_17 : decode cX7_status 17 = .ok (.iconst 0, 1) := by decide +kernel
theorem dX7_status_18 : decode cX7_status 18 = .ok (.istore_n 2, 1) := by decide +kernel
theorem dX7_status_19 : decode cX7_status 19 = .ok (.iconst 0, 1) := by decide +kernel
theorem dX7_status_20 : decode cX7_status 20 = .ok (.istore_n 3, 1) := by decide +kernel
theorem dX7_status_21 : decode cX7_status 21 = .ok (.iload_n 3, 1) := by decide +kernel
theorem dX7_status_22 : decode cX7_status 22 = .ok (.bipush 7, 2) := by decide +kernel
theorem dX7_status_24 : decode cX7_status 24 = .ok (.if_icmp .ge 18, 3) := by decide +kernel
theorem dX7_status_27 : decode cX7_status 27 = .ok (.iload_n 2, 1) := by decide +kernel
theorem dX7_status_28 : decode cX7_status 28 = .ok (.aload_n 0, 1) := by decide +kernel
theorem dX7_status_29 : decode cX7_status 29 = .ok (.getfield 13, 3) := by decide +kernel
theorem dX7_status_32 : decode cX7_status 32 = .ok (.iload_n 3, 1) := by decide +kernel
theorem dX7_status_33 : decode cX7_status 33 = .ok (.iaload, 1) := by decide +kernel
theorem dX7_status_34 : decode cX7_status 34 = .ok (.iadd, 1) := by decide +kernel
theorem dX7_status_35 : decode cX7_status 35 = .ok (.istore_n 2, 1) := by decide +kernel
theorem dX7_status_36 : decode cX7_status 36 = .ok (.iinc 3 1, 3) := by decide +kernel
theorem dX7_status_39 : decode cX7_status 39 = .ok (.goto (-18), 3) := by decide +kernel
theorem dX7_status_42 : decode cX7_status 42 = .ok (.iload_n 1, 1) := by decide +kernel
theorem dX7_status_43 : decode cX7_status 43 = .ok (.ifCond .ge 7, 3) := by decide +kernel
theorem dX7_status_46 : decode cX7_status 46 = .ok (.iload_n 2, 1) := by decide +kernel
theorem dX7_status_47 : decode cX7_status 47 = .ok (.goto 17, 3) := by decide +kernel
theorem dX7_status_50 : decode cX7_status 50 = .ok (.aload_n 0, 1) := by decide +kernel
theorem dX7_status_51 : decode cX7_status 51 = .ok (.getfield 13, 3) := by decide +kernel
theorem dX7_status_54 : decode cX7_status 54 = .ok (.iload_n 1, 1) := by decide +kernel
theorem dX7_status_55 : decode cX7_status 55 = .ok (.ifCond .ge 7, 3) := by decide +kernel
theorem dX7_status_58 : decode cX7_status 58 = .ok (.iconst 0, 1) := by decide +kernel
theorem dX7_status_59 : decode cX7_status 59 = .ok (.goto 4, 3) := by decide +kernel
theorem dX7_status_62 : decode cX7_status 62 = .ok (.iload_n 1, 1) := by decide +kernel
theorem dX7_status_63 : decode cX7_status 63 = .ok (.iaload, 1) := by decide +kernel
theorem dX7_status_64 : decode cX7_status 64 = .ok (.ireturn, 1) := by decide +kernel
end
section
/-! THE WORLD: 62 cells by number; what they hold is three functions (ints, longs, the rods' rows of references). -/
abbrev Sg : Type := (Nat → Nat → Int32) × (Nat → Nat → Int64) × (Nat → Nat → Nat)
abbrev GT : Type := va_G × (Nat → Nat) × (Nat → ClassId)
def wI (σ : Sg) (c k : Nat) (v : Int32) : Sg := (fun c' k' => if c' = c ∧ k' = k then v else σ.1 c' k', σ.2.1, σ.2.2)
def wL (σ : Sg) (c k : Nat) (v : Int64) : Sg := (σ.1, fun c' k' => if c' = c ∧ k' = k then v else σ.2.1 c' k', σ.2.2)
def wP (σ : Sg) (c k : Nat) (v : Nat) : Sg := (σ.1, σ.2.1, fun c' k' => if c' = c ∧ k' = k then v else σ.2.2 c' k')
def cv (G : GT) : Value → Value
  | .ref a => .ref (G.2.1 a)
  | v => v
theorem cv_cat (G : GT) (v : Value) : (cv G v).category = v.category := by cases v <;> rfl
/-- the kind of a cell: a class's number; 8 ints, 9 longs, 10 rods, 11 sheets -/
def kd (c : Nat) : Nat :=
  if c < 26 then (if c < 12 then (if c < 4 then (if c = 0 then 6 else 1) else if c < 9 then (if c = 4 then 2 else if c = 5 then 5 else if c = 6 then 11 else 8) else 0) else if c < 15 then 10 else if c < 18 then 8 else if c < 22 then 4 else 9)
  else if c < 50 then 3 else if c = 50 then 7 else if c = 58 then 9 else if c = 59 then 9 else 8
def ln (c : Nat) : Nat :=
  if c < 26 then (if c = 7 then 7 else if c = 8 then 120 else if c < 18 then 16 else 40)
  else if c = 52 then 7 else if c = 55 then 120 else if c = 56 then 4 else if c = 57 then 4 else if c = 58 then 160 else if c = 59 then 40 else 65
def nF : Nat → Nat
  | 0 => 5 | 1 => 7 | 2 => 5 | 3 => 7 | 4 => 3 | 5 => 2 | 6 => 7 | _ => 24
/-- the references that never change: of a cell c of class ci, field k -/
def srK (ci c k : Nat) : Option Nat :=
  match ci with
  | 1 => (match k with | 0 => some (c + 8) | 1 => some (c + 11) | 6 => some (c + 14) | _ => none)
  | 2 => (match k with | 0 => some 5 | _ => none)
  | 4 => (match k with | 0 => some (c + 4) | _ => none)
  | 5 => (match k with | 0 => some 8 | _ => none)
  | 6 => (match k with | 0 => some 1 | 1 => some 2 | 2 => some 3 | 4 => some 4 | 5 => some 6 | 6 => some 7 | _ => none)
  | 7 => (match k with | 0 => some 51 | 1 => some 52 | 2 => some 53 | 7 => some 54 | 9 => some 55 | 17 => some 56 | 18 => some 57 | 19 => some 58 | 20 => some 59 | 21 => some 60 | 22 => some 61 | _ => none)
  | _ => none
def fv (G : GT) (σ : Sg) (c ci k : Nat) : Value :=
  match srK ci c k with
  | some t => .ref (G.2.1 t)
  | none => if ci = 7 ∧ k = 14 then .long (σ.2.1 c k) else .int (σ.1 c k)
def fsK (G : GT) (σ : Sg) (c ci : Nat) : List Value := (List.range (nF ci)).map (fv G σ c ci)
def cellK (G : GT) (σ : Sg) (c : Nat) (k : Nat) : va_E :=
  if k < 8 then .inr (k, fsK G σ c k)
  else if k = 8 then .inl (G.2.2 0, ln c, .inl (σ.1 c))
  else if k = 9 then .inl (G.2.2 1, ln c, .inr (.inl (σ.2.1 c)))
  else if k = 10 then .inl (G.2.2 2, 8, .inr (.inr (.inr (.inr (fun j => some (G.2.1 (σ.2.2 c j)))))))
  else .inl (G.2.2 3, 4, .inr (.inr (.inr (.inr (fun j => some (G.2.1 (18 + j)))))))
def cellOf (G : GT) (σ : Sg) (c : Nat) : va_E := cellK G σ c (kd c)
def wsW (G : GT) (σ : Sg) : va_W := (List.range 62).map (fun c => (G.2.1 c, cellOf G σ c))
def Wd (G : GT) (σ : Sg) (H : Heap) : Prop := va_P G.1 vwCl (wsW G σ) H
def AG (G : GT) : Nat → Prop := fun q => ∃ c, c < 62 ∧ q = G.2.1 c
def InjG (G : GT) : Prop := ∀ c d, c < 62 → d < 62 → G.2.1 c = G.2.1 d → c = d
theorem wsW_at {G : GT} {σ : Sg} {c : Nat} (h : c < 62) : (wsW G σ)[c]? = some (G.2.1 c, cellOf G σ c) := by
  simp [wsW, h]
theorem wsW_in {G : GT} {σ : Sg} {k : Nat} {q : Nat × va_E} (h : (wsW G σ)[k]? = some q) : k < 62 ∧ q = (G.2.1 k, cellOf G σ k) := by
  have hk : k < 62 := by
    rcases Nat.lt_or_ge k 62 with z | z
    · exact z
    · rw [List.getElem?_eq_none (by simp [wsW]; omega)] at h
      cases h
  rw [wsW_at hk] at h
  exact ⟨hk, (Option.some.inj h).symm⟩
theorem wsW_D {G : GT} {σ : Sg} (hi : InjG G) : va_D (AG G) (wsW G σ) := by
  refine ⟨fun i j p q hp hq e => ?_, fun k q hq => ?_⟩
  · obtain ⟨h1, rfl⟩ := wsW_in hp
    obtain ⟨h2, rfl⟩ := wsW_in hq
    exact hi i j h1 h2 e
  · obtain ⟨h1, rfl⟩ := wsW_in hq
    exact ⟨k, h1, rfl⟩
theorem wsW_set {G : GT} {σ σ' : Sg} {c : Nat} {e : va_E} (hc : c < 62) (h1 : cellOf G σ' c = e) (h2 : ∀ d, d ≠ c → cellOf G σ' d = cellOf G σ d) : (wsW G σ).set c (G.2.1 c, e) = wsW G σ' := by
  apply List.ext_getElem?
  intro i
  rw [List.getElem?_set]
  by_cases hi : c = i
  · subst hi
    rw [if_pos rfl, if_pos (by simp [wsW]; exact hc), wsW_at hc, h1]
  · rw [if_neg hi]
    rcases Nat.lt_or_ge i 62 with z | z
    · rw [wsW_at z, wsW_at z, h2 i (fun e => hi e.symm)]
    · rw [List.getElem?_eq_none (by simp [wsW]; omega), List.getElem?_eq_none (by simp [wsW]; omega)]
theorem wI_s (σ : Sg) (c k : Nat) (v : Int32) : (wI σ c k v).1 c k = v := by simp [wI]
theorem wI_c {σ : Sg} {c k c' k' : Nat} {v : Int32} (h : c' ≠ c) : (wI σ c k v).1 c' k' = σ.1 c' k' := by simp [wI, h]
theorem wI_k {σ : Sg} {c k c' k' : Nat} {v : Int32} (h : k' ≠ k) : (wI σ c k v).1 c' k' = σ.1 c' k' := by simp [wI, h]
theorem wL_s (σ : Sg) (c k : Nat) (v : Int64) : (wL σ c k v).2.1 c k = v := by simp [wL]
theorem wL_c {σ : Sg} {c k c' k' : Nat} {v : Int64} (h : c' ≠ c) : (wL σ c k v).2.1 c' k' = σ.2.1 c' k' := by simp [wL, h]
theorem wL_k {σ : Sg} {c k c' k' : Nat} {v : Int64} (h : k' ≠ k) : (wL σ c k v).2.1 c' k' = σ.2.1 c' k' := by simp [wL, h]
theorem fsK_at {G : GT} {σ : Sg} {c ci k : Nat} (h : k < nF ci) : (fsK G σ c ci)[k]? = some (fv G σ c ci k) := by simp [fsK, h]
theorem fsK_len {G : GT} {σ : Sg} {c ci : Nat} : (fsK G σ c ci).length = nF ci := by simp [fsK]
/-- a cell depends on what is held under its own number -/
theorem fv_cong {G : GT} {σ σ' : Sg} {c ci k : Nat} (h1 : σ'.1 c k = σ.1 c k) (h2 : σ'.2.1 c k = σ.2.1 c k) : fv G σ' c ci k = fv G σ c ci k := by
  unfold fv
  rw [h1, h2]
theorem cellOf_cong {G : GT} {σ σ' : Sg} {d : Nat} (h1 : ∀ k, σ'.1 d k = σ.1 d k) (h2 : ∀ k, σ'.2.1 d k = σ.2.1 d k) (h3 : ∀ k, σ'.2.2 d k = σ.2.2 d k) : cellOf G σ' d = cellOf G σ d := by
  have e1 : σ'.1 d = σ.1 d := funext h1
  have e2 : σ'.2.1 d = σ.2.1 d := funext h2
  have e3 : σ'.2.2 d = σ.2.2 d := funext h3
  have e4 : ∀ ci, fsK G σ' d ci = fsK G σ d ci := fun ci => by
    unfold fsK
    exact List.map_congr_left (fun k _ => fv_cong (h1 k) (h2 k))
  unfold cellOf cellK
  rw [e4, e1, e2, e3]
theorem cell_obj {G : GT} {σ : Sg} {c ci : Nat} (hk : kd c = ci) (h8 : ci < 8) : cellOf G σ c = .inr (ci, fsK G σ c ci) := by
  subst hk
  simp [cellOf, cellK, h8]
theorem cell_I {G : GT} {σ : Sg} {c : Nat} (hk : kd c = 8) : cellOf G σ c = .inl (G.2.2 0, ln c, .inl (σ.1 c)) := by simp [cellOf, cellK, hk]
theorem cell_L {G : GT} {σ : Sg} {c : Nat} (hk : kd c = 9) : cellOf G σ c = .inl (G.2.2 1, ln c, .inr (.inl (σ.2.1 c))) := by simp [cellOf, cellK, hk]
theorem cell_P {G : GT} {σ : Sg} {c : Nat} (hk : kd c = 10) : cellOf G σ c = .inl (G.2.2 2, 8, .inr (.inr (.inr (.inr (fun j => some (G.2.1 (σ.2.2 c j))))))) := by simp [cellOf, cellK, hk]
theorem cell_Q {G : GT} {σ : Sg} {c : Nat} (hk : kd c = 11) : cellOf G σ c = .inl (G.2.2 3, 4, .inr (.inr (.inr (.inr (fun j => some (G.2.1 (18 + j))))))) := by simp [cellOf, cellK, hk]
theorem fsK_setI {G : GT} {σ : Sg} {c ci k : Nat} {v : Int32} (hs : srK ci c k = none) (hl : ¬ (ci = 7 ∧ k = 14)) : (fsK G σ c ci).set k (.int v) = fsK G (wI σ c k v) c ci := by
  apply List.ext_getElem?
  intro i
  rw [List.getElem?_set, fsK_len]
  rcases Nat.lt_or_ge i (nF ci) with z | z
  · by_cases hi : k = i
    · subst hi
      rw [if_pos rfl, if_pos z, fsK_at z]
      unfold fv
      rw [hs]
      simp only []
      rw [if_neg hl, wI_s]
    · rw [if_neg hi, fsK_at z, fsK_at z, fv_cong (wI_k (fun e => hi e.symm)) rfl]
  · rw [List.getElem?_eq_none (by rw [fsK_len]; exact z), List.getElem?_eq_none (by rw [fsK_len]; exact z)]
    split
    · rw [if_neg (by omega)]
    · rfl
theorem fsK_setL {G : GT} {σ : Sg} {c k ci : Nat} {v : Int64} (hs : srK ci c k = none) (hl : ci = 7 ∧ k = 14) : (fsK G σ c ci).set k (.long v) = fsK G (wL σ c k v) c ci := by
  apply List.ext_getElem?
  intro i
  rw [List.getElem?_set, fsK_len]
  rcases Nat.lt_or_ge i (nF ci) with z | z
  · by_cases hi : k = i
    · subst hi
      rw [if_pos rfl, if_pos z, fsK_at z]
      unfold fv
      rw [hs]
      simp only []
      rw [if_pos hl, wL_s]
    · rw [if_neg hi, fsK_at z, fsK_at z, fv_cong (σ' := wL σ c k v) (σ := σ) rfl (wL_k (fun e => hi e.symm))]
  · rw [List.getElem?_eq_none (by rw [fsK_len]; exact z), List.getElem?_eq_none (by rw [fsK_len]; exact z)]
    split
    · rw [if_neg (by omega)]
    · rfl
/-! what never changes beside the world: statics, constants, nest mates -/
def lstF (j : Nat) : Int32 := ([0, 0, -1, 0, 20] : List Int32).getD j 0
def mstF (j : Nat) : Int32 := ([15, 99, 1, 50, 99] : List Int32).getD j 0
def sIx : List Nat := [50, 65, 73, 79, 92, 99, 103, 107, 109, 114, 116, 125, 130, 132, 134, 136, 138]
def sTx : List String := ["cloud", "grows", "breaks", "at", "high", "from", "to", "charge", "left", "right", "still", "rod", "copper", "kite", "oak", "cathedral", "poacher"]
def sLen : List Nat := [5, 5, 6, 2, 4, 4, 2, 6, 4, 5, 5, 3, 6, 4, 3, 9, 7]
def sByt : List (List Int32) := [[99, 108, 111, 117, 100], [103, 114, 111, 119, 115], [98, 114, 101, 97, 107, 115], [97, 116], [104, 105, 103, 104], [102, 114, 111, 109], [116, 111], [99, 104, 97, 114, 103, 101], [108, 101, 102, 116], [114, 105, 103, 104, 116], [115, 116, 105, 108, 108], [114, 111, 100], [99, 111, 112, 112, 101, 114], [107, 105, 116, 101], [111, 97, 107], [99, 97, 116, 104, 101, 100, 114, 97, 108], [112, 111, 97, 99, 104, 101, 114]]
def nstL : List (String × Nat × MethodName × String) := [(RX0, 27, yX6_isWithin, "BoltsByOrder"), (RX1, 74, yX6_isWithin, "BoltsByOrder"), (RX1, 92, yX6_held, "BoltsByOrder"), (RX0, 45, yX6_isPlace, "BoltsByOrder"), (RX2, 42, yX6_isKind, "BoltsByOrder"), (RX2, 153, yX6_isWithin, "BoltsByOrder")]
def ST (G : GT) (U : State) : Prop :=
  (va_Z RX0 "LEAST" "[I" (.ref (G.2.1 98)) (AG G) U U.heap ∧ va_T .int (G.2.1 98) 5 (fun j => .int (lstF j)) (AG G) U U.heap) ∧
  (va_Z RX0 "MOST" "[I" (.ref (G.2.1 99)) (AG G) U U.heap ∧ va_T .int (G.2.1 99) 5 (fun j => .int (mstF j)) (AG G) U U.heap) ∧
  (∀ q ∈ nstL, va_Nw (.methodLinkNest q.1 q.2.1 q.2.2.1 q.2.2.2) U) ∧
  vk_S 17 sLen sByt (fun i => G.2.1 (100 + i)) (fun i => G.2.1 (200 + i)) (AG G) U U.heap ∧
  (∀ i, i < 17 → vk_R RX2 (sIx.getD i 0) (sTx.getD i "") (G.2.1 (100 + i)) U) ∧
  va_Z RJ0 "COMPACT_STRINGS" "Z" (.int 1) (AG G) U U.heap ∧
  (va_Z RJ3 "SIOOBE_FORMATTER" "Ljava/util/function/BiFunction;" .null (AG G) U U.heap ∨ va_Z RJ3 "SIOOBE_FORMATTER" "Ljava/util/function/BiFunction;" (.ref (G.2.1 97)) (AG G) U U.heap)
def tysG (G : GT) : List (ClassId × FieldType) := [(G.2.2 0, .int), (G.2.2 1, .long), (G.2.2 2, .object RX3), (G.2.2 3, .object RX4)]
def KK (G : GT) (U : State) : Prop := InjG G ∧ va_K G.1 vwCl (tysG G) U ∧ ST G U
theorem ST.to {G : GT} {s U : State} (h : ST G s) (hW : s.WarmedH U.vm) (hq : ∀ a : Nat, a < s.heap.size → ¬ AG G a → U.heap[a]? = s.heap[a]?) : ST G U := by
  obtain ⟨⟨a1, a2⟩, ⟨b1, b2⟩, c1, d1, e1, f1, g1⟩ := h
  have hv := hW.alike
  exact ⟨⟨va_Z.moved hv (a1.kept hq), va_T.moved hv (a2.kept hq)⟩, ⟨va_Z.moved hv (b1.kept hq), va_T.moved hv (b2.kept hq)⟩, fun q hq => (c1 q hq).warmM hW, vk_S.moved hv (d1.kept hq), fun i hi => (e1 i hi).warm hW, va_Z.moved hv (f1.kept hq), g1.imp (fun z => va_Z.moved hv (z.kept hq)) (fun z => va_Z.moved hv (z.kept hq))⟩
theorem KK.to {G : GT} {s U : State} (h : KK G s) (hW : s.WarmedH U.vm) (hq : ∀ a : Nat, a < s.heap.size → ¬ AG G a → U.heap[a]? = s.heap[a]?) : KK G U := ⟨h.1, va_K.moved hW.alike h.2.1, h.2.2.to hW hq⟩
theorem KK.blind {G : GT} {U : State} {g : JFrame} {mk : MethodId} {a : Array Value} (h : KK G U) : KK G (U.calling g mk a) := by
  obtain ⟨h1, h2, ⟨a1, a2⟩, ⟨b1, b2⟩, c1, d1, e1, f1, g1⟩ := h
  have hv : U.vm.Alike (U.calling g mk a).vm := Vm.Alike.refl U.vm
  exact ⟨h1, va_K.moved hv h2, ⟨va_Z.moved hv a1, va_T.moved hv a2⟩, ⟨va_Z.moved hv b1, va_T.moved hv b2⟩, fun q hq => va_Nw.same rfl rfl (c1 q hq), vk_S.moved hv d1, fun i hi => vk_R.same rfl (e1 i hi), va_Z.moved hv f1, g1.imp (fun z => va_Z.moved hv z) (fun z => va_Z.moved hv z)⟩
def rmOf (M : MT) : Room := { frames := M.2.2.2.2.2.1, cells := 0, slots := 0, locals := M.2.2.2.2.2.2 }
def wsOf (M : MT) : List Cond := .code M.2.1 M.2.2.1 M.2.2.2.1 M.2.2.2.2.1 :: gt
def Cx (G : GT) (M : MT) (p : Program) (s : State) (m : MethodId) (args : Array Value) (meth : Method) (c : Code) : Prop :=
  p.tables.exec = Jvm.exec ∧ c.code = M.2.2.1 ∧ meth.sig.returnType = M.2.2.2.2.1 ∧ c.maxLocals = M.2.2.2.1 ∧ s.vm.findClass M.1 = some m.cls ∧ (∀ w ∈ wsOf M, w.before args s = true) ∧ meth.locks = false ∧ KK G s
def LR (G : GT) (ls : Array Slot) (n : Nat) (L : List (Option Value)) : Prop := ls.size = n ∧ lv_wf ls ∧ ∀ (i : Nat) (v : Value), L[i]? = some (some v) → ls[i]? = some (.val (cv G v))
def Qc (G : GT) (P : Option Value → Sg → Prop) : Array Value → State → Outcome → State → Prop := fun _ st o t => (∃ (v : Option Value) (σ' : Sg), o = .returned (v.map (cv G)) ∧ P v σ' ∧ Wd G σ' t.heap) ∧ va_F (AG G) st t
/-- the machine, standing in method M at pc, with locals L, stack st and the world σ, comes to M's end with P -/
def WP (G : GT) (M : MT) (pc : Nat) (L : List (Option Value)) (st : List Value) (σ : Sg) (P : Option Value → Sg → Prop) : Prop :=
  ∀ (l : Launch) (p : Program) (e : Env) (s : State) (m : MethodId) (args : Array Value) (below : List Frame) (meth : Method) (c : Code) (H : Heap) (locs : List Loc) (ls : Array Slot),
    Cx G M p s m args meth c → Wd G σ H → va_S (AG G) s.heap H locs → LR G ls M.2.2.2.1 L → W p l e (rmOf M) s m args below meth c H locs 0 0 (MQ below (Qc G P) args s 0 0 (AG G)) (F0 m pc ls (st.map (cv G)))
def PcE (G : GT) (as : List Value) (σ : Sg) : Array Value → State → Prop := va_Pc (as.map (cv G)) (fun U => Wd G σ U.heap ∧ KK G U)
/-- method M, called with as in the world σ, returns, with P -/
def Ev (G : GT) (M : MT) (as : List Value) (σ : Sg) (P : Option Value → Sg → Prop) : Prop := ∀ l : Launch, Met l M.2.1 (wsOf M) (rmOf M) (PcE G as σ) (Qc G P) 0 0 (AG G)
def ent : List Value → List (Option Value)
  | [] => []
  | v :: vs => if v.category = 2 then some v :: none :: ent vs else some v :: ent vs
end
section
section RULES
variable {G : GT} {M : MT} {pc : Nat} {L : List (Option Value)} {st : List Value} {σ : Sg} {P : Option Value → Sg → Prop}
theorem LR.at {ls : Array Slot} {n : Nat} (h : LR G ls n L) {i : Nat} {v : Value} (hv : L[i]? = some (some v)) : ls[i]? = some (.val (cv G v)) := h.2.2 i v hv
def asc (G : GT) (L : List (Option Value)) : List (Nat × Value) := (List.range L.length).filterMap (fun i => match L[i]? with | some (some v) => some (i, cv G v) | _ => none)
theorem asc_mem {i : Nat} {w : Value} (h : (i, w) ∈ asc G L) : ∃ v, L[i]? = some (some v) ∧ w = cv G v := by
  obtain ⟨j, -, hj⟩ := List.mem_filterMap.mp h
  split at hj
  · rename_i v hv
    cases hj
    exact ⟨v, hv, rfl⟩
  · cases hj
theorem mem_asc {i : Nat} {v : Value} (h : L[i]? = some (some v)) : (i, cv G v) ∈ asc G L := by
  refine List.mem_filterMap.mpr ⟨i, List.mem_range.mpr (List.getElem?_eq_some_iff.mp h).1, ?_⟩
  rw [h]
theorem LR.has {ls : Array Slot} {n : Nat} (h : LR G ls n L) : lv_has ls n (asc G L) := ⟨h.1, h.2.1, fun q hq => by
  obtain ⟨v, h1, h2⟩ := asc_mem (i := q.1) (w := q.2) hq
  rw [h2]
  exact h.2.2 _ _ h1⟩
/-- no long stands just ahead of place i -/
def okS (L : List (Option Value)) : Nat → Bool
  | 0 => true
  | i + 1 => match L[i]? with | some (some v) => v.category == 1 | _ => true
theorem LR.set1 {ls : Array Slot} {n i : Nat} {v : Value} (hok : okS L i = true) (h : lv_has ls n ((i, cv G v) :: (asc G L).filter (fun q => !(q.1 == i) && !(q.1 + 1 == i && q.2.category == 2)))) : LR G ls n (L.set i (some v)) := by
  refine ⟨h.1, h.2.1, fun j w hj => ?_⟩
  rw [List.getElem?_set] at hj
  by_cases hi : i = j
  · subst hi
    rw [if_pos rfl] at hj
    split at hj
    · cases hj
      exact h.2.2 (i, cv G v) List.mem_cons_self
    · cases hj
  · rw [if_neg hi] at hj
    refine h.2.2 (j, cv G w) (List.mem_cons_of_mem _ (List.mem_filter.mpr ⟨mem_asc hj, ?_⟩))
    have n1 : ¬ j = i := fun e => hi e.symm
    rw [cv_cat]
    by_cases h2 : j + 1 = i
    · subst h2
      simp only [okS, hj, beq_iff_eq] at hok
      simp [hok]
    · simp [n1, h2]
theorem LR.set2 {ls : Array Slot} {n i : Nat} {v : Value} (hok : okS L i = true) (h : lv_has ls n ((i, cv G v) :: (asc G L).filter (fun q => !(q.1 == i) && (!(q.1 == i + 1) && !(q.1 + 1 == i && q.2.category == 2))))) : LR G ls n ((L.set i (some v)).set (i + 1) none) := by
  refine ⟨h.1, h.2.1, fun j w hj => ?_⟩
  rw [List.getElem?_set] at hj
  by_cases hj1 : i + 1 = j
  · rw [if_pos hj1] at hj
    split at hj <;> cases hj
  rw [if_neg hj1, List.getElem?_set] at hj
  by_cases hi : i = j
  · subst hi
    rw [if_pos rfl] at hj
    split at hj
    · cases hj
      exact h.2.2 (i, cv G v) List.mem_cons_self
    · cases hj
  · rw [if_neg hi] at hj
    refine h.2.2 (j, cv G w) (List.mem_cons_of_mem _ (List.mem_filter.mpr ⟨mem_asc hj, ?_⟩))
    have n1 : ¬ j = i := fun e => hi e.symm
    have n3 : ¬ j = i + 1 := fun e => hj1 e.symm
    rw [cv_cat]
    by_cases h2 : j + 1 = i
    · subst h2
      simp only [okS, hj, beq_iff_eq] at hok
      simp [hok]
      omega
    · simp [n1, h2, n3]
-- constants
theorem w_iconst {n : Int} {v : Int32} (d : decode M.2.2.1 pc = .ok (.iconst n, 1)) (hv : Int32.ofInt n = v) (k : WP G M (pc + 1) L (.int v :: st) σ P) : WP G M pc L st σ P :=
  fun l p e s m args below meth c H locs ls C hW hS hl => lv_iconst C.1 C.2.1 d hv (k l p e s m args below meth c H locs ls C hW hS hl)
theorem w_bipush {n : Int} {v : Int32} (d : decode M.2.2.1 pc = .ok (.bipush n, 2)) (hv : (Int8.ofInt n).toInt32 = v) (k : WP G M (pc + 2) L (.int v :: st) σ P) : WP G M pc L st σ P :=
  fun l p e s m args below meth c H locs ls C hW hS hl => lv_bipush C.1 C.2.1 d hv (k l p e s m args below meth c H locs ls C hW hS hl)
theorem w_sipush {n : Int} {v : Int32} (d : decode M.2.2.1 pc = .ok (.sipush n, 3)) (hv : (Int16.ofInt n).toInt32 = v) (k : WP G M (pc + 3) L (.int v :: st) σ P) : WP G M pc L st σ P :=
  fun l p e s m args below meth c H locs ls C hW hS hl => lv_sipush C.1 C.2.1 d hv (k l p e s m args below meth c H locs ls C hW hS hl)
theorem w_lconst {n : Fin 2} {v : Int64} (d : decode M.2.2.1 pc = .ok (.lconst n, 1)) (hv : Int64.ofNat (n : Nat) = v) (k : WP G M (pc + 1) L (.long v :: st) σ P) : WP G M pc L st σ P :=
  fun l p e s m args below meth c H locs ls C hW hS hl => lv_lconst C.1 C.2.1 d hv (k l p e s m args below meth c H locs ls C hW hS hl)
theorem w_ldc {idx : Nat} {v : Int32} (d : decode M.2.2.1 pc = .ok (.ldc idx, 2)) (h : Cond.constant M.1 idx v ∈ gt) (k : WP G M (pc + 2) L (.int v :: st) σ P) : WP G M pc L st σ P :=
  fun l p e s m args below meth c H locs ls C hW hS hl => lv_ldc C.1 C.2.1 C.2.2.2.2.1 (C.2.2.2.2.2.1 _ (List.mem_cons_of_mem _ h)) d (k l p e s m args below meth c H locs ls C hW hS hl)
theorem w_ldcw {idx : Nat} {v : Int32} (d : decode M.2.2.1 pc = .ok (.ldc_w idx, 3)) (h : Cond.constant M.1 idx v ∈ gt) (k : WP G M (pc + 3) L (.int v :: st) σ P) : WP G M pc L st σ P :=
  fun l p e s m args below meth c H locs ls C hW hS hl => lv_ldcw C.1 C.2.1 C.2.2.2.2.1 (C.2.2.2.2.2.1 _ (List.mem_cons_of_mem _ h)) d (k l p e s m args below meth c H locs ls C hW hS hl)
theorem w_ldc2 {idx : Nat} {v : Int64} (d : decode M.2.2.1 pc = .ok (.ldc2_w idx, 3)) (h : Cond.constantLong M.1 idx v ∈ gt) (k : WP G M (pc + 3) L (.long v :: st) σ P) : WP G M pc L st σ P :=
  fun l p e s m args below meth c H locs ls C hW hS hl => lv_ldc2 C.1 C.2.1 C.2.2.2.2.1 (C.2.2.2.2.2.1 _ (List.mem_cons_of_mem _ h)) d (k l p e s m args below meth c H locs ls C hW hS hl)
-- loads
theorem w_iload_n {n : Fin 4} {x : Int32} (d : decode M.2.2.1 pc = .ok (.iload_n n, 1)) (h : L[(n : Nat)]? = some (some (.int x))) (k : WP G M (pc + 1) L (.int x :: st) σ P) : WP G M pc L st σ P :=
  fun l p e s m args below meth c H locs ls C hW hS hl => lv_iload_n C.1 C.2.1 d rfl (hl.at h) (k l p e s m args below meth c H locs ls C hW hS hl)
theorem w_iload {n : Nat} {x : Int32} (d : decode M.2.2.1 pc = .ok (.iload n, 2)) (h : L[n]? = some (some (.int x))) (k : WP G M (pc + 2) L (.int x :: st) σ P) : WP G M pc L st σ P :=
  fun l p e s m args below meth c H locs ls C hW hS hl => lv_iload C.1 C.2.1 d (hl.at h) (k l p e s m args below meth c H locs ls C hW hS hl)
theorem w_lload_n {n : Fin 4} {x : Int64} (d : decode M.2.2.1 pc = .ok (.lload_n n, 1)) (h : L[(n : Nat)]? = some (some (.long x))) (k : WP G M (pc + 1) L (.long x :: st) σ P) : WP G M pc L st σ P :=
  fun l p e s m args below meth c H locs ls C hW hS hl => lv_lload_n C.1 C.2.1 d rfl (hl.at h) (k l p e s m args below meth c H locs ls C hW hS hl)
theorem w_lload {n : Nat} {x : Int64} (d : decode M.2.2.1 pc = .ok (.lload n, 2)) (h : L[n]? = some (some (.long x))) (k : WP G M (pc + 2) L (.long x :: st) σ P) : WP G M pc L st σ P :=
  fun l p e s m args below meth c H locs ls C hW hS hl => lv_lload C.1 C.2.1 d (hl.at h) (k l p e s m args below meth c H locs ls C hW hS hl)
theorem w_aload_n {n : Fin 4} {x : Nat} (d : decode M.2.2.1 pc = .ok (.aload_n n, 1)) (h : L[(n : Nat)]? = some (some (.ref x))) (k : WP G M (pc + 1) L (.ref x :: st) σ P) : WP G M pc L st σ P :=
  fun l p e s m args below meth c H locs ls C hW hS hl => lv_aload_n C.1 C.2.1 d rfl (hl.at h) (k l p e s m args below meth c H locs ls C hW hS hl)
theorem w_aload {n : Nat} {x : Nat} (d : decode M.2.2.1 pc = .ok (.aload n, 2)) (h : L[n]? = some (some (.ref x))) (k : WP G M (pc + 2) L (.ref x :: st) σ P) : WP G M pc L st σ P :=
  fun l p e s m args below meth c H locs ls C hW hS hl => lv_aload C.1 C.2.1 d (hl.at h) (k l p e s m args below meth c H locs ls C hW hS hl)
-- stores: L' is the new row of locals
theorem w_istore_n {n : Fin 4} {x : Int32} {L' : List (Option Value)} (d : decode M.2.2.1 pc = .ok (.istore_n n, 1)) (hn : (n : Nat) < M.2.2.2.1) (ho : okS L n = true) (hL : L.set n (some (.int x)) = L') (k : WP G M (pc + 1) L' st σ P) : WP G M pc L (.int x :: st) σ P :=
  fun l p e s m args below meth c H locs ls C hW hS hl => lv_istore_n C.1 C.2.1 d rfl hl.has hn rfl (fun ls' h' => k l p e s m args below meth c H locs ls' C hW hS (hL ▸ LR.set1 (v := .int x) ho h'))
theorem w_istore {n : Nat} {x : Int32} {L' : List (Option Value)} (d : decode M.2.2.1 pc = .ok (.istore n, 2)) (hn : n < M.2.2.2.1) (ho : okS L n = true) (hL : L.set n (some (.int x)) = L') (k : WP G M (pc + 2) L' st σ P) : WP G M pc L (.int x :: st) σ P :=
  fun l p e s m args below meth c H locs ls C hW hS hl => lv_istore C.1 C.2.1 d hl.has hn rfl (fun ls' h' => k l p e s m args below meth c H locs ls' C hW hS (hL ▸ LR.set1 (v := .int x) ho h'))
theorem w_astore_n {n : Fin 4} {x : Nat} {L' : List (Option Value)} (d : decode M.2.2.1 pc = .ok (.astore_n n, 1)) (hn : (n : Nat) < M.2.2.2.1) (ho : okS L n = true) (hL : L.set n (some (.ref x)) = L') (k : WP G M (pc + 1) L' st σ P) : WP G M pc L (.ref x :: st) σ P :=
  fun l p e s m args below meth c H locs ls C hW hS hl => lv_astore_n C.1 C.2.1 d rfl hl.has hn rfl (fun ls' h' => k l p e s m args below meth c H locs ls' C hW hS (hL ▸ LR.set1 (v := .ref x) ho h'))
theorem w_astore {n : Nat} {x : Nat} {L' : List (Option Value)} (d : decode M.2.2.1 pc = .ok (.astore n, 2)) (hn : n < M.2.2.2.1) (ho : okS L n = true) (hL : L.set n (some (.ref x)) = L') (k : WP G M (pc + 2) L' st σ P) : WP G M pc L (.ref x :: st) σ P :=
  fun l p e s m args below meth c H locs ls C hW hS hl => lv_astore C.1 C.2.1 d hl.has hn rfl (fun ls' h' => k l p e s m args below meth c H locs ls' C hW hS (hL ▸ LR.set1 (v := .ref x) ho h'))
theorem w_lstore {n : Nat} {x : Int64} {L' : List (Option Value)} (d : decode M.2.2.1 pc = .ok (.lstore n, 2)) (hn : n + 1 < M.2.2.2.1) (ho : okS L n = true) (hL : (L.set n (some (.long x))).set (n + 1) none = L') (k : WP G M (pc + 2) L' st σ P) : WP G M pc L (.long x :: st) σ P :=
  fun l p e s m args below meth c H locs ls C hW hS hl => lv_lstore C.1 C.2.1 d hl.has hn rfl (fun ls' h' => k l p e s m args below meth c H locs ls' C hW hS (hL ▸ LR.set2 (v := .long x) ho h'))
theorem w_iinc {i : Nat} {n : Int} {x v : Int32} {L' : List (Option Value)} (d : decode M.2.2.1 pc = .ok (.iinc i n, 3)) (h : L[i]? = some (some (.int x))) (hv : x + Int32.ofInt n = v) (hn : i < M.2.2.2.1) (ho : okS L i = true) (hL : L.set i (some (.int v)) = L') (k : WP G M (pc + 3) L' st σ P) : WP G M pc L st σ P := by
  intro l p e s m args below meth c H locs ls C hW hS hl
  obtain ⟨j, hj⟩ := List.getElem?_of_mem (mem_asc (G := G) h)
  exact lv_iinc C.1 C.2.1 d hl.has hj hv hn rfl (fun ls' h' => k l p e s m args below meth c H locs ls' C hW hS (hL ▸ LR.set1 (v := .int v) ho h'))
theorem w_topi {x : Int32} (k : ∀ y : Int32, y = x → WP G M pc L (.int y :: st) σ P) : WP G M pc L (.int x :: st) σ P := k x rfl
theorem w_topl {x : Int64} (k : ∀ y : Int64, y = x → WP G M pc L (.long y :: st) σ P) : WP G M pc L (.long x :: st) σ P := k x rfl
theorem w_eqi {x y : Int32} (h : x = y) (k : WP G M pc L (.int y :: st) σ P) : WP G M pc L (.int x :: st) σ P := h ▸ k
theorem w_iadd {x y : Int32} (d : decode M.2.2.1 pc = .ok (.iadd, 1)) (k : WP G M (pc + 1) L (.int (x + y) :: st) σ P) : WP G M pc L (.int y :: .int x :: st) σ P :=
  fun l p e s m args below meth c H locs ls C hW hS hl => lv_iadd C.1 C.2.1 d (k l p e s m args below meth c H locs ls C hW hS hl)
theorem w_isub {x y : Int32} (d : decode M.2.2.1 pc = .ok (.isub, 1)) (k : WP G M (pc + 1) L (.int (x - y) :: st) σ P) : WP G M pc L (.int y :: .int x :: st) σ P :=
  fun l p e s m args below meth c H locs ls C hW hS hl => lv_isub C.1 C.2.1 d (k l p e s m args below meth c H locs ls C hW hS hl)
theorem w_imul {x y : Int32} (d : decode M.2.2.1 pc = .ok (.imul, 1)) (k : WP G M (pc + 1) L (.int (x * y) :: st) σ P) : WP G M pc L (.int y :: .int x :: st) σ P :=
  fun l p e s m args below meth c H locs ls C hW hS hl => lv_imul C.1 C.2.1 d (k l p e s m args below meth c H locs ls C hW hS hl)
theorem w_iand {x y : Int32} (d : decode M.2.2.1 pc = .ok (.iand, 1)) (k : WP G M (pc + 1) L (.int (x &&& y) :: st) σ P) : WP G M pc L (.int y :: .int x :: st) σ P :=
  fun l p e s m args below meth c H locs ls C hW hS hl => lv_iand C.1 C.2.1 d (k l p e s m args below meth c H locs ls C hW hS hl)
theorem w_ior {x y : Int32} (d : decode M.2.2.1 pc = .ok (.ior, 1)) (k : WP G M (pc + 1) L (.int (x ||| y) :: st) σ P) : WP G M pc L (.int y :: .int x :: st) σ P :=
  fun l p e s m args below meth c H locs ls C hW hS hl => lv_ior C.1 C.2.1 d (k l p e s m args below meth c H locs ls C hW hS hl)
theorem w_ishl {x y : Int32} (d : decode M.2.2.1 pc = .ok (.ishl, 1)) (k : WP G M (pc + 1) L (.int (x <<< (y &&& 31)) :: st) σ P) : WP G M pc L (.int y :: .int x :: st) σ P :=
  fun l p e s m args below meth c H locs ls C hW hS hl => lv_ishl C.1 C.2.1 d (k l p e s m args below meth c H locs ls C hW hS hl)
theorem w_ishr {x y : Int32} (d : decode M.2.2.1 pc = .ok (.ishr, 1)) (k : WP G M (pc + 1) L (.int (x >>> (y &&& 31)) :: st) σ P) : WP G M pc L (.int y :: .int x :: st) σ P :=
  fun l p e s m args below meth c H locs ls C hW hS hl => lv_ishr C.1 C.2.1 d (k l p e s m args below meth c H locs ls C hW hS hl)
theorem w_idiv {x y : Int32} (d : decode M.2.2.1 pc = .ok (.idiv, 1)) (h : ¬ y = 0) (k : WP G M (pc + 1) L (.int (x / y) :: st) σ P) : WP G M pc L (.int y :: .int x :: st) σ P :=
  fun l p e s m args below meth c H locs ls C hW hS hl => lv_idiv C.1 C.2.1 d h (k l p e s m args below meth c H locs ls C hW hS hl)
theorem w_irem {x y : Int32} (d : decode M.2.2.1 pc = .ok (.irem, 1)) (h : ¬ y = 0) (k : WP G M (pc + 1) L (.int (x - x / y * y) :: st) σ P) : WP G M pc L (.int y :: .int x :: st) σ P :=
  fun l p e s m args below meth c H locs ls C hW hS hl => lv_irem C.1 C.2.1 d h (k l p e s m args below meth c H locs ls C hW hS hl)
theorem w_ladd {x y : Int64} (d : decode M.2.2.1 pc = .ok (.ladd, 1)) (k : WP G M (pc + 1) L (.long (x + y) :: st) σ P) : WP G M pc L (.long y :: .long x :: st) σ P :=
  fun l p e s m args below meth c H locs ls C hW hS hl => lv_ladd C.1 C.2.1 d (k l p e s m args below meth c H locs ls C hW hS hl)
theorem w_lsub {x y : Int64} (d : decode M.2.2.1 pc = .ok (.lsub, 1)) (k : WP G M (pc + 1) L (.long (x - y) :: st) σ P) : WP G M pc L (.long y :: .long x :: st) σ P :=
  fun l p e s m args below meth c H locs ls C hW hS hl => lv_lsub C.1 C.2.1 d (k l p e s m args below meth c H locs ls C hW hS hl)
theorem w_lmul {x y : Int64} (d : decode M.2.2.1 pc = .ok (.lmul, 1)) (k : WP G M (pc + 1) L (.long (x * y) :: st) σ P) : WP G M pc L (.long y :: .long x :: st) σ P :=
  fun l p e s m args below meth c H locs ls C hW hS hl => lv_lmul C.1 C.2.1 d (k l p e s m args below meth c H locs ls C hW hS hl)
theorem w_land {x y : Int64} (d : decode M.2.2.1 pc = .ok (.land, 1)) (k : WP G M (pc + 1) L (.long (x &&& y) :: st) σ P) : WP G M pc L (.long y :: .long x :: st) σ P :=
  fun l p e s m args below meth c H locs ls C hW hS hl => lv_land C.1 C.2.1 d (k l p e s m args below meth c H locs ls C hW hS hl)
theorem w_lor {x y : Int64} (d : decode M.2.2.1 pc = .ok (.lor, 1)) (k : WP G M (pc + 1) L (.long (x ||| y) :: st) σ P) : WP G M pc L (.long y :: .long x :: st) σ P :=
  fun l p e s m args below meth c H locs ls C hW hS hl => lv_lor C.1 C.2.1 d (k l p e s m args below meth c H locs ls C hW hS hl)
theorem w_iushr {x y : Int32} (d : decode M.2.2.1 pc = .ok (.iushr, 1)) (k : WP G M (pc + 1) L (.int ((x.toUInt32 >>> (y.toUInt32 &&& Int32.toUInt32 31)).toInt32) :: st) σ P) : WP G M pc L (.int y :: .int x :: st) σ P :=
  fun l p e s m args below meth c H locs ls C hW hS hl => lv_iushr C.1 C.2.1 d rfl (k l p e s m args below meth c H locs ls C hW hS hl)
theorem w_lshl {x : Int64} {y : Int32} (d : decode M.2.2.1 pc = .ok (.lshl, 1)) (k : WP G M (pc + 1) L (.long (x <<< (y.toInt64 &&& 63)) :: st) σ P) : WP G M pc L (.int y :: .long x :: st) σ P :=
  fun l p e s m args below meth c H locs ls C hW hS hl => lv_lshl C.1 C.2.1 d rfl (k l p e s m args below meth c H locs ls C hW hS hl)
theorem w_lshr {x : Int64} {y : Int32} (d : decode M.2.2.1 pc = .ok (.lshr, 1)) (k : WP G M (pc + 1) L (.long (x >>> (y.toInt64 &&& 63)) :: st) σ P) : WP G M pc L (.int y :: .long x :: st) σ P :=
  fun l p e s m args below meth c H locs ls C hW hS hl => lv_lshr C.1 C.2.1 d rfl (k l p e s m args below meth c H locs ls C hW hS hl)
theorem w_lcmp {x y : Int64} (d : decode M.2.2.1 pc = .ok (.lcmp, 1)) (k : WP G M (pc + 1) L (.int (lg_cmp x y) :: st) σ P) : WP G M pc L (.long y :: .long x :: st) σ P :=
  fun l p e s m args below meth c H locs ls C hW hS hl => W.lcmp C.1 C.2.1 d (k l p e s m args below meth c H locs ls C hW hS hl)
theorem w_ineg {x : Int32} (d : decode M.2.2.1 pc = .ok (.ineg, 1)) (k : WP G M (pc + 1) L (.int (-x) :: st) σ P) : WP G M pc L (.int x :: st) σ P :=
  fun l p e s m args below meth c H locs ls C hW hS hl => lv_ineg C.1 C.2.1 d (k l p e s m args below meth c H locs ls C hW hS hl)
theorem w_i2l {x : Int32} (d : decode M.2.2.1 pc = .ok (.i2l, 1)) (k : WP G M (pc + 1) L (.long (x.toInt64) :: st) σ P) : WP G M pc L (.int x :: st) σ P :=
  fun l p e s m args below meth c H locs ls C hW hS hl => lv_i2l C.1 C.2.1 d rfl (k l p e s m args below meth c H locs ls C hW hS hl)
theorem w_l2i {x : Int64} (d : decode M.2.2.1 pc = .ok (.l2i, 1)) (k : WP G M (pc + 1) L (.int (x.toInt32) :: st) σ P) : WP G M pc L (.long x :: st) σ P :=
  fun l p e s m args below meth c H locs ls C hW hS hl => lv_l2i C.1 C.2.1 d rfl (k l p e s m args below meth c H locs ls C hW hS hl)
theorem w_i2b {x : Int32} (d : decode M.2.2.1 pc = .ok (.i2b, 1)) (k : WP G M (pc + 1) L (.int (x.toInt8.toInt32) :: st) σ P) : WP G M pc L (.int x :: st) σ P :=
  fun l p e s m args below meth c H locs ls C hW hS hl => lv_i2b C.1 C.2.1 d rfl (k l p e s m args below meth c H locs ls C hW hS hl)
theorem w_i2s {x : Int32} (d : decode M.2.2.1 pc = .ok (.i2s, 1)) (k : WP G M (pc + 1) L (.int (x.toInt16.toInt32) :: st) σ P) : WP G M pc L (.int x :: st) σ P :=
  fun l p e s m args below meth c H locs ls C hW hS hl => lv_i2s C.1 C.2.1 d rfl (k l p e s m args below meth c H locs ls C hW hS hl)
theorem w_i2c {x : Int32} (d : decode M.2.2.1 pc = .ok (.i2c, 1)) (k : WP G M (pc + 1) L (.int ((x.toUInt32 % 65536).toInt32) :: st) σ P) : WP G M pc L (.int x :: st) σ P :=
  fun l p e s m args below meth c H locs ls C hW hS hl => lv_i2c C.1 C.2.1 d rfl (k l p e s m args below meth c H locs ls C hW hS hl)
theorem w_dup {a : Value} (d : decode M.2.2.1 pc = .ok (.dup, 1)) (ha : a.category = 1) (k : WP G M (pc + 1) L (a :: a :: st) σ P) : WP G M pc L (a :: st) σ P :=
  fun l p e s m args below meth c H locs ls C hW hS hl => lv_dup C.1 C.2.1 d ((cv_cat G a).trans ha) (k l p e s m args below meth c H locs ls C hW hS hl)
theorem w_pop {a : Value} (d : decode M.2.2.1 pc = .ok (.pop, 1)) (ha : a.category = 1) (k : WP G M (pc + 1) L st σ P) : WP G M pc L (a :: st) σ P :=
  fun l p e s m args below meth c H locs ls C hW hS hl => lv_pop C.1 C.2.1 d ((cv_cat G a).trans ha) (k l p e s m args below meth c H locs ls C hW hS hl)
theorem w_dup2 {a b : Value} (d : decode M.2.2.1 pc = .ok (.dup2, 1)) (ha : a.category = 1) (hb : b.category = 1) (k : WP G M (pc + 1) L (a :: b :: a :: b :: st) σ P) : WP G M pc L (a :: b :: st) σ P :=
  fun l p e s m args below meth c H locs ls C hW hS hl => lv_dup2_11 C.1 C.2.1 d ((cv_cat G a).trans ha) ((cv_cat G b).trans hb) (k l p e s m args below meth c H locs ls C hW hS hl)
theorem w_goto {off : Int} {t : Nat} (d : decode M.2.2.1 pc = .ok (.goto off, 3)) (ht : (pc : Int) + off = (t : Int)) (k : WP G M t L st σ P) : WP G M pc L st σ P :=
  fun l p e s m args below meth c H locs ls C hW hS hl => lv_goto C.1 C.2.1 d ht (k l p e s m args below meth c H locs ls C hW hS hl)
theorem w_if_eq {x : Int32} {off : Int} {t : Nat} (d : decode M.2.2.1 pc = .ok (.ifCond .eq off, 3)) (ht : (pc : Int) + off = (t : Int)) (kt : x = 0 → WP G M t L st σ P) (kf : ¬ (x = 0) → WP G M (pc + 3) L st σ P) : WP G M pc L (.int x :: st) σ P :=
  fun l p e s m args below meth c H locs ls C hW hS hl => lv_if_eq C.1 C.2.1 d ht (fun q => kt q l p e s m args below meth c H locs ls C hW hS hl) (fun q => kf q l p e s m args below meth c H locs ls C hW hS hl)
theorem w_icmp_eq {x y : Int32} {off : Int} {t : Nat} (d : decode M.2.2.1 pc = .ok (.if_icmp .eq off, 3)) (ht : (pc : Int) + off = (t : Int)) (kt : x = y → WP G M t L st σ P) (kf : ¬ (x = y) → WP G M (pc + 3) L st σ P) : WP G M pc L (.int y :: .int x :: st) σ P :=
  fun l p e s m args below meth c H locs ls C hW hS hl => lv_icmp_eq C.1 C.2.1 d ht (fun q => kt q l p e s m args below meth c H locs ls C hW hS hl) (fun q => kf q l p e s m args below meth c H locs ls C hW hS hl)
theorem w_if_ne {x : Int32} {off : Int} {t : Nat} (d : decode M.2.2.1 pc = .ok (.ifCond .ne off, 3)) (ht : (pc : Int) + off = (t : Int)) (kt : ¬ x = 0 → WP G M t L st σ P) (kf : x = 0 → WP G M (pc + 3) L st σ P) : WP G M pc L (.int x :: st) σ P :=
  fun l p e s m args below meth c H locs ls C hW hS hl => lv_if_ne C.1 C.2.1 d ht (fun q => kt q l p e s m args below meth c H locs ls C hW hS hl) (fun q => kf q l p e s m args below meth c H locs ls C hW hS hl)
theorem w_icmp_ne {x y : Int32} {off : Int} {t : Nat} (d : decode M.2.2.1 pc = .ok (.if_icmp .ne off, 3)) (ht : (pc : Int) + off = (t : Int)) (kt : ¬ x = y → WP G M t L st σ P) (kf : x = y → WP G M (pc + 3) L st σ P) : WP G M pc L (.int y :: .int x :: st) σ P :=
  fun l p e s m args below meth c H locs ls C hW hS hl => lv_icmp_ne C.1 C.2.1 d ht (fun q => kt q l p e s m args below meth c H locs ls C hW hS hl) (fun q => kf q l p e s m args below meth c H locs ls C hW hS hl)
theorem w_if_lt {x : Int32} {off : Int} {t : Nat} (d : decode M.2.2.1 pc = .ok (.ifCond .lt off, 3)) (ht : (pc : Int) + off = (t : Int)) (kt : x < 0 → WP G M t L st σ P) (kf : ¬ (x < 0) → WP G M (pc + 3) L st σ P) : WP G M pc L (.int x :: st) σ P :=
  fun l p e s m args below meth c H locs ls C hW hS hl => lv_if_lt C.1 C.2.1 d ht (fun q => kt q l p e s m args below meth c H locs ls C hW hS hl) (fun q => kf q l p e s m args below meth c H locs ls C hW hS hl)
theorem w_icmp_lt {x y : Int32} {off : Int} {t : Nat} (d : decode M.2.2.1 pc = .ok (.if_icmp .lt off, 3)) (ht : (pc : Int) + off = (t : Int)) (kt : x < y → WP G M t L st σ P) (kf : ¬ (x < y) → WP G M (pc + 3) L st σ P) : WP G M pc L (.int y :: .int x :: st) σ P :=
  fun l p e s m args below meth c H locs ls C hW hS hl => lv_icmp_lt C.1 C.2.1 d ht (fun q => kt q l p e s m args below meth c H locs ls C hW hS hl) (fun q => kf q l p e s m args below meth c H locs ls C hW hS hl)
theorem w_if_ge {x : Int32} {off : Int} {t : Nat} (d : decode M.2.2.1 pc = .ok (.ifCond .ge off, 3)) (ht : (pc : Int) + off = (t : Int)) (kt : 0 ≤ x → WP G M t L st σ P) (kf : ¬ (0 ≤ x) → WP G M (pc + 3) L st σ P) : WP G M pc L (.int x :: st) σ P :=
  fun l p e s m args below meth c H locs ls C hW hS hl => lv_if_ge C.1 C.2.1 d ht (fun q => kt q l p e s m args below meth c H locs ls C hW hS hl) (fun q => kf q l p e s m args below meth c H locs ls C hW hS hl)
theorem w_icmp_ge {x y : Int32} {off : Int} {t : Nat} (d : decode M.2.2.1 pc = .ok (.if_icmp .ge off, 3)) (ht : (pc : Int) + off = (t : Int)) (kt : y ≤ x → WP G M t L st σ P) (kf : ¬ (y ≤ x) → WP G M (pc + 3) L st σ P) : WP G M pc L (.int y :: .int x :: st) σ P :=
  fun l p e s m args below meth c H locs ls C hW hS hl => lv_icmp_ge C.1 C.2.1 d ht (fun q => kt q l p e s m args below meth c H locs ls C hW hS hl) (fun q => kf q l p e s m args below meth c H locs ls C hW hS hl)
theorem w_if_gt {x : Int32} {off : Int} {t : Nat} (d : decode M.2.2.1 pc = .ok (.ifCond .gt off, 3)) (ht : (pc : Int) + off = (t : Int)) (kt : 0 < x → WP G M t L st σ P) (kf : ¬ (0 < x) → WP G M (pc + 3) L st σ P) : WP G M pc L (.int x :: st) σ P :=
  fun l p e s m args below meth c H locs ls C hW hS hl => lv_if_gt C.1 C.2.1 d ht (fun q => kt q l p e s m args below meth c H locs ls C hW hS hl) (fun q => kf q l p e s m args below meth c H locs ls C hW hS hl)
theorem w_icmp_gt {x y : Int32} {off : Int} {t : Nat} (d : decode M.2.2.1 pc = .ok (.if_icmp .gt off, 3)) (ht : (pc : Int) + off = (t : Int)) (kt : y < x → WP G M t L st σ P) (kf : ¬ (y < x) → WP G M (pc + 3) L st σ P) : WP G M pc L (.int y :: .int x :: st) σ P :=
  fun l p e s m args below meth c H locs ls C hW hS hl => lv_icmp_gt C.1 C.2.1 d ht (fun q => kt q l p e s m args below meth c H locs ls C hW hS hl) (fun q => kf q l p e s m args below meth c H locs ls C hW hS hl)
theorem w_if_le {x : Int32} {off : Int} {t : Nat} (d : decode M.2.2.1 pc = .ok (.ifCond .le off, 3)) (ht : (pc : Int) + off = (t : Int)) (kt : x ≤ 0 → WP G M t L st σ P) (kf : ¬ (x ≤ 0) → WP G M (pc + 3) L st σ P) : WP G M pc L (.int x :: st) σ P :=
  fun l p e s m args below meth c H locs ls C hW hS hl => lv_if_le C.1 C.2.1 d ht (fun q => kt q l p e s m args below meth c H locs ls C hW hS hl) (fun q => kf q l p e s m args below meth c H locs ls C hW hS hl)
theorem w_icmp_le {x y : Int32} {off : Int} {t : Nat} (d : decode M.2.2.1 pc = .ok (.if_icmp .le off, 3)) (ht : (pc : Int) + off = (t : Int)) (kt : x ≤ y → WP G M t L st σ P) (kf : ¬ (x ≤ y) → WP G M (pc + 3) L st σ P) : WP G M pc L (.int y :: .int x :: st) σ P :=
  fun l p e s m args below meth c H locs ls C hW hS hl => lv_icmp_le C.1 C.2.1 d ht (fun q => kt q l p e s m args below meth c H locs ls C hW hS hl) (fun q => kf q l p e s m args below meth c H locs ls C hW hS hl)
theorem w_tableIn {dflt lo hi : Int} {offs : Array Int} {len : Nat} {x : Int32} {off : Int} {t : Nat} (d : decode M.2.2.1 pc = .ok (.tableswitch dflt lo hi offs, len)) (h1 : ¬ x.toInt < lo) (h2 : ¬ hi < x.toInt) (ho : offs[(x.toInt - lo).toNat]? = some off) (ht : (pc : Int) + off = (t : Int)) (k : WP G M t L st σ P) : WP G M pc L (.int x :: st) σ P :=
  fun l p e s m args below meth c H locs ls C hW hS hl => lv_tableIn C.1 C.2.1 d h1 h2 ho ht (k l p e s m args below meth c H locs ls C hW hS hl)
theorem w_tableOut {dflt lo hi : Int} {offs : Array Int} {len : Nat} {x : Int32} {t : Nat} (d : decode M.2.2.1 pc = .ok (.tableswitch dflt lo hi offs, len)) (h : x.toInt < lo ∨ hi < x.toInt) (ht : (pc : Int) + dflt = (t : Int)) (k : WP G M t L st σ P) : WP G M pc L (.int x :: st) σ P :=
  fun l p e s m args below meth c H locs ls C hW hS hl => lv_tableOut C.1 C.2.1 d h ht (k l p e s m args below meth c H locs ls C hW hS hl)
-- returns
theorem w_iret {x : Int32} (d : decode M.2.2.1 pc = .ok (.ireturn, 1)) (hr : M.2.2.2.2.1 = some .int) (k : P (some (.int x)) σ) : WP G M pc L [.int x] σ P :=
  fun l p e s m args below meth c H locs ls C hW hS hl => W.iret C.1 C.2.1 (C.2.2.1.trans hr) (fun t ht _ => ⟨⟨some (.int x), σ, rfl, k, ht ▸ hW⟩, hS.F ht⟩) hS.2.2 d C.2.2.2.2.2.2.1
theorem w_zret {x : Int32} {ty : FieldType} (d : decode M.2.2.1 pc = .ok (.ireturn, 1)) (hr : M.2.2.2.2.1 = some ty) (hn : narrow ty (.int x) = .int x) (k : P (some (.int x)) σ) : WP G M pc L [.int x] σ P :=
  fun l p e s m args below meth c H locs ls C hW hS hl => W.zret C.1 C.2.1 (C.2.2.1.trans hr) hn (fun t ht _ => ⟨⟨some (.int x), σ, rfl, k, ht ▸ hW⟩, hS.F ht⟩) hS.2.2 d C.2.2.2.2.2.2.1
theorem w_lret {x : Int64} (d : decode M.2.2.1 pc = .ok (.lreturn, 1)) (hr : M.2.2.2.2.1 = some .long) (k : P (some (.long x)) σ) : WP G M pc L [.long x] σ P :=
  fun l p e s m args below meth c H locs ls C hW hS hl => W.lret C.1 C.2.1 (C.2.2.1.trans hr) (fun t ht _ => ⟨⟨some (.long x), σ, rfl, k, ht ▸ hW⟩, hS.F ht⟩) hS.2.2 d C.2.2.2.2.2.2.1
theorem w_vret (d : decode M.2.2.1 pc = .ok (.return_, 1)) (hr : M.2.2.2.2.1 = none) (k : P none σ) : WP G M pc L [] σ P :=
  fun l p e s m args below meth c H locs ls C hW hS hl => W.vret C.1 C.2.1 (C.2.2.1.trans hr) (fun t ht _ => ⟨⟨none, σ, rfl, k, ht ▸ hW⟩, hS.F ht⟩) hS.2.2 d C.2.2.2.2.2.2.1
theorem w_aret {x : Nat} {C0 : String} (d : decode M.2.2.1 pc = .ok (.areturn, 1)) (hr : M.2.2.2.2.1 = some (.object C0)) (k : P (some (.ref x)) σ) : WP G M pc L [.ref x] σ P :=
  fun l p e s m args below meth c H locs ls C hW hS hl => W.aret C.1 C.2.1 (C.2.2.1.trans hr) (Or.inl ⟨_, rfl⟩) (Or.inr ⟨_, rfl⟩) (fun t ht _ => ⟨⟨some (.ref x), σ, rfl, k, ht ▸ hW⟩, hS.F ht⟩) hS.2.2 d C.2.2.2.2.2.2.1
end RULES
end
section
/-! fields, arrays, calls -/
def clC (ci : Nat) : vw_C := vwCl.getD ci (RX0, TX0, 5)
/-- what a class's number stands for in the tables -/
def clOK (ci : Nat) : Prop := vwCl[ci]? = some (clC ci) ∧ (clC ci).2.2 = nF ci ∧ (∀ w ∈ u_ws (clC ci).1 (clC ci).2.1 (clC ci).2.2, w ∈ gt) ∧ (∃ ty : Nat → FieldType, ∀ k, k < (clC ci).2.2 → parseFieldDescriptor ((clC ci).2.1 k).2.2.1 = some (ty k)) ∧ (∀ a, a < (clC ci).2.2 → ∀ b, b < (clC ci).2.2 → a ≠ b → ((clC ci).2.1 a).2.1 ≠ ((clC ci).2.1 b).2.1)
/-- a field's link: from class own, pool number idx, to field k of class ci -/
def FL (own : String) (idx ci k : Nat) : Prop := Cond.fieldLink own idx ((clC ci).2.1 k).1 ((clC ci).2.1 k).2.1 ((clC ci).2.1 k).2.2.1 ∈ gt
theorem lys_mem {ws : List Cond} (h : ws.all (fun w => decide (w ∈ lw_tbl) && goodWord w) = true) : ∀ w ∈ ws, w ∈ gt := fun w hw => by
  have h1 := List.all_eq_true.mp h w hw
  simp only [Bool.and_eq_true, decide_eq_true_eq] at h1
  exact List.mem_filter.mpr ⟨h1.1, h1.2⟩
theorem cl_0 : clOK 0 := ⟨rfl, rfl, lys_mem (by decide +kernel), ⟨tyX0, tyX0_ok⟩, nmX0⟩
theorem cl_1 : clOK 1 := ⟨rfl, rfl, lys_mem (by decide +kernel), ⟨tyX1, tyX1_ok⟩, nmX1⟩
theorem cl_2 : clOK 2 := ⟨rfl, rfl, lys_mem (by decide +kernel), ⟨tyX2, tyX2_ok⟩, nmX2⟩
theorem cl_3 : clOK 3 := ⟨rfl, rfl, lys_mem (by decide +kernel), ⟨tyX3, tyX3_ok⟩, nmX3⟩
theorem cl_4 : clOK 4 := ⟨rfl, rfl, lys_mem (by decide +kernel), ⟨tyX4, tyX4_ok⟩, nmX4⟩
theorem cl_5 : clOK 5 := ⟨rfl, rfl, lys_mem (by decide +kernel), ⟨tyX5, tyX5_ok⟩, nmX5⟩
theorem cl_6 : clOK 6 := ⟨rfl, rfl, lys_mem (by decide +kernel), ⟨tyX6, tyX6_ok⟩, nmX6⟩
theorem cl_7 : clOK 7 := ⟨rfl, rfl, lys_mem (by decide +kernel), ⟨tyX7, tyX7_ok⟩, nmX7⟩
theorem cl_all {ci : Nat} (h : ci < 8) : clOK ci := by
  match ci, h with
  | 0, _ => exact cl_0
  | 1, _ => exact cl_1
  | 2, _ => exact cl_2
  | 3, _ => exact cl_3
  | 4, _ => exact cl_4
  | 5, _ => exact cl_5
  | 6, _ => exact cl_6
  | 7, _ => exact cl_7
  | n + 8, h => omega
theorem ln_lt (c : Nat) : ln c < 2 ^ 31 := by
  unfold ln
  (repeat' split) <;> decide
section HEAP
variable {G : GT} {M : MT} {pc : Nat} {L : List (Option Value)} {st : List Value} {σ : Sg} {P : Option Value → Sg → Prop}
theorem hts_gt {p : Program} {s : State} {m : MethodId} {args : Array Value} {meth : Method} {c : Code} (C : Cx G M p s m args meth c) : ∀ w ∈ gt, w.before args s = true := fun w h => C.2.2.2.2.2.1 w (List.mem_cons_of_mem _ h)
theorem kd_lt {c ci : Nat} (h : kd c = ci) (h8 : ci ≠ 8) : c < 62 := by
  rcases Nat.lt_or_ge c 62 with z | z
  · exact z
  · exfalso
    apply h8
    rw [← h]
    unfold kd
    rw [if_neg (by omega), if_neg (by omega), if_neg (by omega), if_neg (by omega), if_neg (by omega)]
/-- getfield, any field -/
theorem w_get {idx ci k c : Nat} (d : decode M.2.2.1 pc = .ok (.getfield idx, 3)) (f : FL M.1 idx ci k) (hc : kd c = ci) (h8 : ci < 8) (hk : k < nF ci) {v : Value} (hv : fv G σ c ci k = cv G v)
    (n : WP G M (pc + 3) L (v :: st) σ P) : WP G M pc L (.ref c :: st) σ P := by
  intro l p e s m args below meth cd H locs ls C hW hS hl
  obtain ⟨q1, q2, q3, ⟨ty, q4⟩, q5⟩ := cl_all h8
  have hh := n l p e s m args below meth cd H locs ls C hW hS hl
  have hlt : c < 62 := kd_lt hc (by omega)
  refine va_get (D := G.1) (C := (clC ci).1) (T := (clC ci).2.1) (N := (clC ci).2.2) (ci := ci) (ws := wsW G σ) (fs := fsK G σ c ci) (v := cv G v) C.1 C.2.1 (hts_gt C) q3 C.2.2.2.2.1 C.2.2.2.2.2.2.2.2.1 hW c ?_ q1 k (by rw [q2]; exact hk) (hts_gt C _ f) (fun _ h => h) ?_ d hh
  · rw [wsW_at hlt, cell_obj hc h8]
  · rw [fsK_at hk, hv]
theorem w_getI {idx ci k c : Nat} (d : decode M.2.2.1 pc = .ok (.getfield idx, 3)) (f : FL M.1 idx ci k) (hc : kd c = ci) (hs : (decide (ci < 8) && decide (k < nF ci) && decide (srK ci c k = none) && !(decide (ci = 7) && decide (k = 14))) = true)
    (n : WP G M (pc + 3) L (.int (σ.1 c k) :: st) σ P) : WP G M pc L (.ref c :: st) σ P := by
  simp only [Bool.and_eq_true, decide_eq_true_eq, Bool.not_eq_true', Bool.and_eq_false_iff, decide_eq_false_iff_not] at hs
  refine w_get d f hc hs.1.1.1 hs.1.1.2 (v := .int (σ.1 c k)) ?_ n
  unfold fv
  rw [hs.1.2]
  show (if ci = 7 ∧ k = 14 then _ else _) = _
  rw [if_neg (by rintro ⟨a, b⟩; rcases hs.2 with z | z; exact z a; exact z b)]
  rfl
theorem w_getR {idx ci k c t : Nat} (d : decode M.2.2.1 pc = .ok (.getfield idx, 3)) (f : FL M.1 idx ci k) (hc : kd c = ci) (h8 : ci < 8) (hk : k < nF ci) (hs : srK ci c k = some t)
    (n : WP G M (pc + 3) L (.ref t :: st) σ P) : WP G M pc L (.ref c :: st) σ P := by
  refine w_get d f hc h8 hk (v := .ref t) ?_ n
  unfold fv
  rw [hs]
  rfl
theorem w_getL {idx c : Nat} (d : decode M.2.2.1 pc = .ok (.getfield idx, 3)) (f : FL M.1 idx 7 14) (hc : kd c = 7)
    (n : WP G M (pc + 3) L (.long (σ.2.1 c 14) :: st) σ P) : WP G M pc L (.ref c :: st) σ P := by
  refine w_get d f hc (by omega) (by decide) (v := .long (σ.2.1 c 14)) ?_ n
  unfold fv
  rfl
theorem wI_ne {σ : Sg} {c k : Nat} {v : Int32} : ∀ d, d ≠ c → cellOf G (wI σ c k v) d = cellOf G σ d := fun d hd => cellOf_cong (fun _ => wI_c hd) (fun _ => rfl) (fun _ => rfl)
theorem wL_ne {σ : Sg} {c k : Nat} {v : Int64} : ∀ d, d ≠ c → cellOf G (wL σ c k v) d = cellOf G σ d := fun d hd => cellOf_cong (fun _ => rfl) (fun _ => wL_c hd) (fun _ => rfl)
theorem w_put0 {idx ci k c : Nat} {v : Value} {σ' : Sg} (d : decode M.2.2.1 pc = .ok (.putfield idx, 3)) (f : FL M.1 idx ci k) (hc : kd c = ci) (h8 : ci < 8) (hk : k < nF ci) (hfin : ((clC ci).2.1 k).2.2.2 = false) {ty : FieldType} (hty : parseFieldDescriptor ((clC ci).2.1 k).2.2.1 = some ty)
    (hn : narrow ty (cv G v) = cv G v) (hfit : fits ty (cv G v) = true) (hset : (fsK G σ c ci).set k (cv G v) = fsK G σ' c ci) (hne : ∀ d, d ≠ c → cellOf G σ' d = cellOf G σ d)
    (n : WP G M (pc + 3) L st σ' P) : WP G M pc L (v :: .ref c :: st) σ P := by
  intro l p e s m args below meth cd H locs ls C hW hS hl
  obtain ⟨q1, q2, q3, ⟨ty0, q4⟩, q5⟩ := cl_all h8
  have hlt : c < 62 := kd_lt hc (by omega)
  refine va_put (D := G.1) (C := (clC ci).1) (T := (clC ci).2.1) (N := (clC ci).2.2) (ci := ci) (ws := wsW G σ) (fs := fsK G σ c ci) (v := cv G v) (A := AG G) C.1 C.2.1 (hts_gt C) q3 ty0 q4 q5 C.2.2.2.2.1 C.2.2.2.2.2.2.2.2.1 hW (wsW_D C.2.2.2.2.2.2.2.1) hS c ?_ q1 k (by rw [q2]; exact hk) (hts_gt C _ f) (fun _ h => h) hfin hty hn hfit (by rw [fsK_len]; exact hk) d (fun H1 locs1 hP hD hS1 => ?_)
  · rw [wsW_at hlt, cell_obj hc h8]
  · rw [wsW_set (σ' := σ') hlt (by rw [cell_obj hc h8, hset]) hne] at hP
    exact n l p e s m args below meth cd H1 locs1 ls C hP hS1 hl
theorem w_putI {idx ci k c : Nat} {x : Int32} (d : decode M.2.2.1 pc = .ok (.putfield idx, 3)) (f : FL M.1 idx ci k) (hc : kd c = ci) (hs : (decide (ci < 8) && decide (k < nF ci) && decide (srK ci c k = none) && !(decide (ci = 7) && decide (k = 14)) && !((clC ci).2.1 k).2.2.2) = true) (hty : parseFieldDescriptor ((clC ci).2.1 k).2.2.1 = some .int)
    (n : WP G M (pc + 3) L st (wI σ c k x) P) : WP G M pc L (.int x :: .ref c :: st) σ P := by
  simp only [Bool.and_eq_true, decide_eq_true_eq, Bool.not_eq_true', Bool.and_eq_false_iff, decide_eq_false_iff_not] at hs
  exact w_put0 d f hc hs.1.1.1.1 hs.1.1.1.2 hs.2 hty rfl rfl (fsK_setI hs.1.1.2 (by rintro ⟨a, b⟩; rcases hs.1.2 with z | z; exact z a; exact z b)) wI_ne n
theorem w_putZ {idx ci k c : Nat} {x : Int32} (d : decode M.2.2.1 pc = .ok (.putfield idx, 3)) (f : FL M.1 idx ci k) (hc : kd c = ci) (hs : (decide (ci < 8) && decide (k < nF ci) && decide (srK ci c k = none) && !(decide (ci = 7) && decide (k = 14)) && !((clC ci).2.1 k).2.2.2) = true) (hty : parseFieldDescriptor ((clC ci).2.1 k).2.2.1 = some .boolean) (hx : x = 0 ∨ x = 1)
    (n : WP G M (pc + 3) L st (wI σ c k x) P) : WP G M pc L (.int x :: .ref c :: st) σ P := by
  simp only [Bool.and_eq_true, decide_eq_true_eq, Bool.not_eq_true', Bool.and_eq_false_iff, decide_eq_false_iff_not] at hs
  exact w_put0 d f hc hs.1.1.1.1 hs.1.1.1.2 hs.2 hty (by rcases hx with rfl | rfl <;> rfl) (by rcases hx with rfl | rfl <;> rfl) (fsK_setI hs.1.1.2 (by rintro ⟨a, b⟩; rcases hs.1.2 with z | z; exact z a; exact z b)) wI_ne n
theorem w_putL {idx c : Nat} {x : Int64} (d : decode M.2.2.1 pc = .ok (.putfield idx, 3)) (f : FL M.1 idx 7 14) (hc : kd c = 7)
    (n : WP G M (pc + 3) L st (wL σ c 14 x) P) : WP G M pc L (.long x :: .ref c :: st) σ P :=
  w_put0 d f hc (by decide) (by decide) (by decide) (ty := .long) (by decide +kernel) rfl rfl (fsK_setL rfl ⟨rfl, rfl⟩) wL_ne n
theorem nI_cl {i : Int32} {j : Nat} (hi : i = nI j) (hj : j < 2 ^ 31) : i.toNatClampNeg = j := by rw [hi]; exact nI_clamp hj
theorem w_iald {c j : Nat} {i : Int32} (d : decode M.2.2.1 pc = .ok (.iaload, 1)) (hc : kd c = 8) (h62 : c < 62) (hi : i = nI j) (hj : j < ln c) (n : WP G M (pc + 1) L (.int (σ.1 c j) :: st) σ P) : WP G M pc L (.int i :: .ref c :: st) σ P := by
  intro l p e s m args below meth cd H locs ls C hW hS hl
  have hln := ln_lt c
  have hh := n l p e s m args below meth cd H locs ls C hW hS hl
  refine va_iald (D := G.1) (ws := wsW G σ) (cA := G.2.2 0) (n := ln c) (f := σ.1 c) C.1 C.2.1 C.2.2.2.2.2.2.2.2.1 hW c 0 ?_ rfl (by rw [hi]; exact vp_in_nI hj hln) d ?_
  · rw [wsW_at h62, cell_I hc]
  · rw [nI_cl hi (by omega)]
    exact hh
theorem w_lald {c j : Nat} {i : Int32} (d : decode M.2.2.1 pc = .ok (.laload, 1)) (hc : kd c = 9) (hi : i = nI j) (hj : j < ln c) (n : WP G M (pc + 1) L (.long (σ.2.1 c j) :: st) σ P) : WP G M pc L (.int i :: .ref c :: st) σ P := by
  intro l p e s m args below meth cd H locs ls C hW hS hl
  have h62 := kd_lt hc (by omega)
  have hln := ln_lt c
  have hh := n l p e s m args below meth cd H locs ls C hW hS hl
  refine va_lald (D := G.1) (ws := wsW G σ) (cA := G.2.2 1) (n := ln c) (f := σ.2.1 c) C.1 C.2.1 C.2.2.2.2.2.2.2.2.1 hW c 1 ?_ rfl (by rw [hi]; exact vp_in_nI hj hln) d ?_
  · rw [wsW_at h62, cell_L hc]
  · rw [nI_cl hi (by omega)]
    exact hh
theorem w_aald {c j : Nat} {i : Int32} (d : decode M.2.2.1 pc = .ok (.aaload, 1)) (hc : kd c = 10) (hi : i = nI j) (hj : j < 8) (n : WP G M (pc + 1) L (.ref (σ.2.2 c j) :: st) σ P) : WP G M pc L (.int i :: .ref c :: st) σ P := by
  intro l p e s m args below meth cd H locs ls C hW hS hl
  have h62 := kd_lt hc (by omega)
  have hh := n l p e s m args below meth cd H locs ls C hW hS hl
  refine va_aldq (D := G.1) (ws := wsW G σ) (cA := G.2.2 2) (n := 8) (C := RX3) (f := fun j => some (G.2.1 (σ.2.2 c j))) C.1 C.2.1 C.2.2.2.2.2.2.2.2.1 hW c 2 ?_ rfl (by rw [hi]; exact vp_in_nI hj (by decide)) d ?_
  · rw [wsW_at h62, cell_P hc]
  · rw [nI_cl hi (by omega)]
    exact hh
theorem w_sald {j : Nat} {i : Int32} (d : decode M.2.2.1 pc = .ok (.aaload, 1)) (hi : i = nI j) (hj : j < 4) (n : WP G M (pc + 1) L (.ref (18 + j) :: st) σ P) : WP G M pc L (.int i :: .ref 6 :: st) σ P := by
  intro l p e s m args below meth cd H locs ls C hW hS hl
  have hh := n l p e s m args below meth cd H locs ls C hW hS hl
  refine va_aldq (D := G.1) (ws := wsW G σ) (cA := G.2.2 3) (n := 4) (C := RX4) (f := fun j => some (G.2.1 (18 + j))) C.1 C.2.1 C.2.2.2.2.2.2.2.2.1 hW 6 3 ?_ rfl (by rw [hi]; exact vp_in_nI hj (by decide)) d ?_
  · rw [wsW_at (by decide), cell_Q rfl]
  · rw [nI_cl hi (by omega)]
    exact hh
theorem w_iast {c j : Nat} {i x : Int32} (d : decode M.2.2.1 pc = .ok (.iastore, 1)) (hc : kd c = 8) (h62 : c < 62) (hi : i = nI j) (hj : j < ln c) (n : WP G M (pc + 1) L st (wI σ c j x) P) : WP G M pc L (.int x :: .int i :: .ref c :: st) σ P := by
  intro l p e s m args below meth cd H locs ls C hW hS hl
  have hln := ln_lt c
  refine va_iast (D := G.1) (A := AG G) (ws := wsW G σ) (cA := G.2.2 0) (n := ln c) (f := σ.1 c) C.1 C.2.1 C.2.2.2.2.2.2.2.2.1 hW (wsW_D C.2.2.2.2.2.2.2.1) hS c 0 ?_ rfl (by rw [hi]; exact vp_in_nI hj hln) d (fun H1 locs1 hP hD hS1 => ?_)
  · rw [wsW_at h62, cell_I hc]
  · rw [nI_cl hi (by omega)] at hP
    rw [wsW_set (σ' := wI σ c j x) h62 ?_ wI_ne] at hP
    · exact n l p e s m args below meth cd H1 locs1 ls C hP hS1 hl
    · rw [cell_I hc]
      have e1 : (wI σ c j x).1 c = upd (σ.1 c) j x := by
        funext z
        show (if c = c ∧ z = j then x else σ.1 c z) = _
        unfold upd
        simp
      rw [e1]
theorem w_last {c j : Nat} {i : Int32} {x : Int64} (d : decode M.2.2.1 pc = .ok (.lastore, 1)) (hc : kd c = 9) (hi : i = nI j) (hj : j < ln c) (n : WP G M (pc + 1) L st (wL σ c j x) P) : WP G M pc L (.long x :: .int i :: .ref c :: st) σ P := by
  intro l p e s m args below meth cd H locs ls C hW hS hl
  have h62 := kd_lt hc (by omega)
  have hln := ln_lt c
  refine va_last (D := G.1) (A := AG G) (ws := wsW G σ) (cA := G.2.2 1) (n := ln c) (f := σ.2.1 c) C.1 C.2.1 C.2.2.2.2.2.2.2.2.1 hW (wsW_D C.2.2.2.2.2.2.2.1) hS c 1 ?_ rfl (by rw [hi]; exact vp_in_nI hj hln) d (fun H1 locs1 hP hD hS1 => ?_)
  · rw [wsW_at h62, cell_L hc]
  · rw [nI_cl hi (by omega)] at hP
    rw [wsW_set (σ' := wL σ c j x) h62 ?_ wL_ne] at hP
    · exact n l p e s m args below meth cd H1 locs1 ls C hP hS1 hl
    · rw [cell_L hc]
      have e1 : (wL σ c j x).2.1 c = vp_updL (σ.2.1 c) j x := by
        funext z
        show (if c = c ∧ z = j then x else σ.2.1 c z) = _
        unfold vp_updL
        simp
      rw [e1]
theorem wP_ne {σ : Sg} {c k v : Nat} : ∀ d, d ≠ c → cellOf G (wP σ c k v) d = cellOf G σ d := fun d hd => cellOf_cong (fun _ => rfl) (fun _ => rfl) (fun _ => by simp [wP, hd])
theorem w_aast {c j v : Nat} {i : Int32} (d : decode M.2.2.1 pc = .ok (.aastore, 1)) (hc : kd c = 10) (hv : kd v = 3) (hi : i = nI j) (hj : j < 8) (n : WP G M (pc + 1) L st (wP σ c j v) P) : WP G M pc L (.ref v :: .int i :: .ref c :: st) σ P := by
  intro l p e s m args below meth cd H locs ls C hW hS hl
  have h62 := kd_lt hc (by omega)
  have h62v := kd_lt hv (by omega)
  refine va_astq (D := G.1) (A := AG G) (ws := wsW G σ) (cA := G.2.2 2) (n := 8) (f := fun j => some (G.2.1 (σ.2.2 c j))) (r := clC 3) (v := G.2.1 v) (vs := fsK G σ v 3) C.1 C.2.1 C.2.2.2.2.2.2.2.2.1 hW (wsW_D C.2.2.2.2.2.2.2.1) hS c 2 v 3 ?_ rfl ?_ rfl (by rw [hi]; exact vp_in_nI hj (by decide)) d (fun H1 locs1 hP hD hS1 => ?_)
  · rw [wsW_at h62, cell_P hc]
  · rw [wsW_at h62v, cell_obj hv (by decide)]
  · rw [nI_cl hi (by omega)] at hP
    rw [wsW_set (σ' := wP σ c j v) h62 ?_ wP_ne] at hP
    · exact n l p e s m args below meth cd H1 locs1 ls C hP hS1 hl
    · rw [cell_P hc]
      have e1 : (fun z => some (G.2.1 ((wP σ c j v).2.2 c z))) = va_up (fun z => some (G.2.1 (σ.2.2 c z))) j (some (G.2.1 v)) := by
        funext z
        show some (G.2.1 (if c = c ∧ z = j then v else σ.2.2 c z)) = _
        unfold va_up
        by_cases hz : z = j
        · simp [hz]
        · simp [hz]
      rw [e1]
end HEAP
end
section
/-! calls -/
def cdW (M : MT) : Cond := .code M.2.1 M.2.2.1 M.2.2.2.1 M.2.2.2.2.1
def nmOK (M : MT) (n : Nat) : Prop := M.2.1.cls = M.1 ∧ M.2.1.cls ≠ "java/lang/invoke/MethodHandle" ∧ M.2.1.cls ≠ "java/lang/invoke/VarHandle" ∧ (parseMethodDescriptor M.2.1.desc).map (fun d => d.parameters.length) = some n
def MV (M : MT) (n : Nat) : Prop := Cond.instanceMethod M.2.1 ∈ gt ∧ Cond.selects M.1 M.2.1 M.2.1 ∈ gt ∧ Cond.initialized M.1 ∈ gt ∧ cdW M ∈ gt ∧ nmOK M n
def MS (M : MT) (n : Nat) : Prop := Cond.static M.2.1 ∈ gt ∧ Cond.initialized M.2.1.cls ∈ gt ∧ cdW M ∈ gt ∧ nmOK M n
/-- a callee's room fits a caller's -/
def fitR (M M' : MT) : Bool := decide (M'.2.2.2.2.2.1 + 1 ≤ M.2.2.2.2.2.1) && decide (8 + (M'.2.2.2.1 + 11) + M'.2.2.2.2.2.2 ≤ M.2.2.2.2.2.2)
theorem fitR_of {M M' : MT} (h : fitR M M' = true) : (rmOf M').frames + 1 ≤ (rmOf M).frames ∧ 8 + (M'.2.2.2.1 + 11) + (rmOf M').locals ≤ (rmOf M).locals := by
  simp only [fitR, Bool.and_eq_true, decide_eq_true_eq] at h
  exact h
theorem in_gt {M : MT} {w : Cond} (h : w ∈ gt) : w ∈ wsOf M := List.mem_cons_of_mem _ h
theorem gi_cons {M : MT} : ∀ w ∈ gt, w ∈ wsOf M ∧ ((w.onTables && w.keeps) = true ∨ ∃ ty, w = .arrayClass ty) := fun _ h => ⟨in_gt h, gt_good h⟩
theorem gi_ws {M M' : MT} (hc : cdW M' ∈ gt) : GoodIn (wsOf M) (wsOf M') := fun w h => by
  rcases List.mem_cons.mp h with rfl | h
  · exact gi_cons _ hc
  · exact gi_cons _ h
section CALLS
variable {G : GT} {M : MT} {pc : Nat} {L : List (Option Value)} {st : List Value} {σ : Sg} {P : Option Value → Sg → Prop}
theorem pcE_blind {as : List Value} : FrameBlind (PcE G as σ) := fun a U g mk h => ⟨h.1, h.2.1, h.2.2.blind⟩
theorem pcE_at {as : List Value} {p : Program} {s : State} {m : MethodId} {args : Array Value} {meth : Method} {c : Code} {H : Heap} {locs : List Loc} (C : Cx G M p s m args meth c) (hW : Wd G σ H) (hS : va_S (AG G) s.heap H locs) : ∀ U : State, U.heap = H → s.WarmedH U.vm → PcE G as σ (as.map (cv G)).toArray U := fun U hU hw => ⟨rfl, by rw [hU]; exact hW, C.2.2.2.2.2.2.2.to hw (fun a h1 h2 => by rw [hU]; exact hS.2.1 a h1 h2)⟩
/-- behind a call -/
theorem run_go {M' : MT} {as rest : List Value} {P' : Option Value → Sg → Prop} {l : Launch} {p : Program} {e : Env} {s : State} {m : MethodId} {args : Array Value} {below : List Frame} {meth : Method} {c : Code} {H : Heap} {locs : List Loc} {ls : Array Slot} {a : Array Value}
    (C : Cx G M p s m args meth c) (hS : va_S (AG G) s.heap H locs) (hl : LR G ls M.2.2.2.1 L)
    (hr : va_Run p l e (rmOf M) s m args below meth c H locs 0 0 0 0 (F0 m pc ls (st.map (cv G))) (rest.map (cv G)) (Qc G P' a) (AG G))
    (k : ∀ v σ', P' v σ' → WP G M (pc + 3) L (v.toList ++ rest) σ' P) : W p l e (rmOf M) s m args below meth c H locs 0 0 (MQ below (Qc G P) args s 0 0 (AG G)) (F0 m pc ls (st.map (cv G))) := by
  intro T hT X
  obtain ⟨v, st₀, t, T', L2, h0, X', hL2, e1, e2, ⟨⟨v', σ', hv, hp, hw⟩, hz, hk⟩, go⟩ := hr T hT X
  cases hv
  rw [h0] at hz hk
  have hS2 : va_S (AG G) s.heap t.heap (locs ++ L2) := ⟨Nat.le_trans hS.1 hz, fun q h1 h2 => by rw [hk q (Nat.lt_of_lt_of_le h1 hS.1) h2]; exact hS.2.1 q h1 h2, fun q hq => by
    rcases List.mem_append.mp hq with h | h
    · exact hS.2.2 q h
    · exact hL2 q h⟩
  obtain ⟨t2, a1, b1⟩ := k v' σ' hp l p e s m args below meth c t.heap (locs ++ L2) ls C hw hS2 hl T' e1 X'
  have es : (v'.toList ++ rest).map (cv G) = (v'.map (cv G)).toList ++ rest.map (cv G) := by cases v' <;> simp
  rw [es] at a1
  exact ⟨t2, go t2 a1, b1⟩
theorem rec_obj {c ci : Nat} {C0 : String} (hc : kd c = ci) (h8 : ci < 8) (hC : (clC ci).1 = C0) : ∀ {p : Program} {s : State} {m : MethodId} {args : Array Value} {meth : Method} {cd : Code} {H : Heap} {locs : List Loc}, Cx G M p s m args meth cd → Wd G σ H → va_S (AG G) s.heap H locs → ∃ cell : Cell, H[G.2.1 c]? = some cell ∧ cell.vm.isStatics = false ∧ s.vm.findClass C0 = some cell.cls := by
  intro p s m args meth cd H locs C hW hS
  subst hC
  exact va_recv (q0 := c) (ci := ci) (fs := fsK G σ c ci) C.2.2.2.2.2.2.2.2.1 hW (cl_all h8).1 (by rw [wsW_at (kd_lt hc (by omega)), cell_obj hc h8])
theorem w_callV0 {M' : MT} {idx n c : Nat} {as rest : List Value} {P' : Option Value → Sg → Prop} (d : decode M.2.2.1 pc = .ok (.invokevirtual idx, 3)) (ml : Cond.methodLink M.1 idx M'.2.1 ∈ gt) (mv : MV M' n) (hR : fitR M M' = true)
    (hrc : ∀ {p : Program} {s : State} {m : MethodId} {args : Array Value} {meth : Method} {cd : Code} {H : Heap} {locs : List Loc}, Cx G M p s m args meth cd → Wd G σ H → va_S (AG G) s.heap H locs → ∃ cell : Cell, H[G.2.1 c]? = some cell ∧ cell.vm.isStatics = false ∧ s.vm.findClass M'.1 = some cell.cls)
    (ev : Ev G M' (.ref c :: as) σ P') (hn : as.length = n) (hst : st = as.reverse ++ .ref c :: rest) (hw : (rest.map fun v => v.category).sum ≤ 8)
    (k : ∀ v σ', P' v σ' → WP G M (pc + 3) L (v.toList ++ rest) σ' P) : WP G M pc L st σ P := by
  intro l p e s m args below meth cd H locs ls C hW hS hl
  have hg : GoodIn (wsOf M) (wsV M.1 idx M'.1 M'.2.1 (wsOf M')) := by
    intro w h
    rcases List.mem_append.mp h with h | h
    · simp only [List.mem_cons, List.not_mem_nil, or_false] at h
      rcases h with rfl | rfl | rfl | rfl
      · exact gi_cons _ ml
      · exact gi_cons _ mv.1
      · exact gi_cons _ mv.2.1
      · exact gi_cons _ mv.2.2.1
    · exact gi_ws mv.2.2.2.1 w h
  have hr := va_runV (S := ⟨C.1, C.2.1, C.2.2.2.1, C.2.2.2.2.1, C.2.2.2.2.2.1⟩) (below := below) (e := e) (locs := locs) (meth := meth) (ev l) (cwV (C := M'.1) n C.2.2.2.2.2.1 hg (hw := rfl) rfl rfl mv.2.2.2.2 (fitR_of hR)) (hp := ⟨pcE_blind, hrc C hW hS, pcE_at C hW hS⟩) (g := F0 m pc ls (st.map (cv G))) (rest := rest.map (cv G)) rfl (by simp [hn]) hl.1 (by rw [hst]; simp [cv]) (lv_room (by simpa [List.map_map, Function.comp_def, cv_cat] using hw)) d ⟨Nat.zero_le _, Nat.zero_le _⟩
  exact run_go (M' := M') (as := as) (rest := rest) C hS hl hr k
theorem w_callS0 {M' : MT} {idx n : Nat} {as rest : List Value} {P' : Option Value → Sg → Prop} (d : decode M.2.2.1 pc = .ok (.invokestatic idx, 3)) (ml : Cond.methodLink M.1 idx M'.2.1 ∈ gt) (mv : MS M' n) (hR : fitR M M' = true)
    (ev : Ev G M' as σ P') (hn : as.length = n) (hst : st = as.reverse ++ rest) (hw : (rest.map fun v => v.category).sum ≤ 8)
    (k : ∀ v σ', P' v σ' → WP G M (pc + 3) L (v.toList ++ rest) σ' P) : WP G M pc L st σ P := by
  intro l p e s m args below meth cd H locs ls C hW hS hl
  have hg : GoodIn (wsOf M) (va_wsS M.1 idx M'.2.1 (wsOf M')) := by
    intro w h
    rcases List.mem_append.mp h with h | h
    · simp only [List.mem_cons, List.not_mem_nil, or_false] at h
      rcases h with rfl | rfl | rfl
      · exact gi_cons _ ml
      · exact gi_cons _ mv.1
      · exact gi_cons _ mv.2.1
    · exact gi_ws mv.2.2.1 w h
  have hr := va_runS (S := ⟨C.1, C.2.1, C.2.2.2.1, C.2.2.2.2.1, C.2.2.2.2.2.1⟩) (below := below) (e := e) (locs := locs) (meth := meth) (ev l) (va_cwS n C.2.2.2.2.2.1 hg (hw := rfl) rfl rfl mv.2.2.2.2 (fitR_of hR)) (hp := ⟨pcE_blind, pcE_at C hW hS⟩) (g := F0 m pc ls (st.map (cv G))) (rest := rest.map (cv G)) rfl (by simp [hn]) hl.1 (by rw [hst]; simp) (lv_room (by simpa [List.map_map, Function.comp_def, cv_cat] using hw)) d ⟨Nat.zero_le _, Nat.zero_le _⟩
  exact run_go (M' := M') (as := as) (rest := rest) C hS hl hr k
theorem w_callN0 {M' : MT} {idx n : Nat} {host : String} {as rest : List Value} {P' : Option Value → Sg → Prop} (d : decode M.2.2.1 pc = .ok (.invokestatic idx, 3)) (ml : (M.1, idx, M'.2.1, host) ∈ nstL) (mv : MS M' n) (hR : fitR M M' = true)
    (ev : Ev G M' as σ P') (hn : as.length = n) (hst : st = as.reverse ++ rest) (hw : (rest.map fun v => v.category).sum ≤ 8)
    (k : ∀ v σ', P' v σ' → WP G M (pc + 3) L (v.toList ++ rest) σ' P) : WP G M pc L st σ P := by
  intro l p e s m args below meth cd H locs ls C hW hS hl
  have hN := C.2.2.2.2.2.2.2.2.2.2.2.1 _ ml
  have hr := va_runSN (S := ⟨C.1, C.2.1, C.2.2.2.1, C.2.2.2.2.1, C.2.2.2.2.2.1⟩) (below := below) (e := e) (locs := locs) (meth := meth) (ev l) ⟨va_cnB n C.2.2.2.2.2.1 (gi_ws mv.2.2.1) (hw := rfl) rfl rfl hN (C.2.2.2.2.2.1 _ (in_gt mv.2.1)) mv.2.2.2.2 (fitR_of hR), C.2.2.2.2.2.1 _ (in_gt mv.1), trivial⟩ (hp := ⟨pcE_blind, pcE_at C hW hS⟩) (g := F0 m pc ls (st.map (cv G))) (rest := rest.map (cv G)) rfl (by simp [hn]) hl.1 (by rw [hst]; simp) (lv_room (by simpa [List.map_map, Function.comp_def, cv_cat] using hw)) d ⟨Nat.zero_le _, Nat.zero_le _⟩
  exact run_go (M' := M') (as := as) (rest := rest) C hS hl hr k
/-- a method's contract out of the walk of its body -/
theorem Ev.of {as : List Value} (hy : plainName M.2.1.cls = true) (hl : (lg_sl (as.map (cv G))).length ≤ M.2.2.2.1) (hn : M.2.1.cls = M.1) (hL : ∀ i v, L[i]? = some (some v) → (i, cv G v) ∈ lv_args 0 (as.map (cv G))) (k : WP G M 0 L [] σ P) : Ev G M as σ P := by
  intro l
  refine Met.ofW (cc := M.2.2.1) (maxL := M.2.2.2.1) (ret := M.2.2.2.2.1) hy rfl ?_
  intro p e s m args below meth c s₁ B hml hv
  obtain ⟨rfl, hW, hK⟩ := hv
  rw [lg_entry_eq]
  have h := lv_entry (as.map (cv G)) (n := M.2.2.2.1) hl
  have hts := atoms_spec (ws := wsOf M) B.pre
  have hown : s.vm.findClass M.1 = some m.cls := by
    have := findClass_of_methodNamed B.named
    rw [hn] at this
    exact this
  exact k l p e s m _ below meth c s.heap [] _ ⟨B.exec, B.bytes, B.returns, hml, hown, hts, B.notSynchronized, hK⟩ hW va_S.rf ⟨h.1, h.2.1, fun i v hi => h.2.2 _ (hL i v hi)⟩
theorem Ev.mono {as : List Value} {P' : Option Value → Sg → Prop} (h : Ev G M as σ P) (hq : ∀ v σ', P v σ' → P' v σ') : Ev G M as σ P' := by
  intro l p e ha hc hk s m args below hf happ hP hK
  obtain ⟨k, o, h1, h2, h3, ⟨⟨⟨v, σ', a1, a2, a3⟩, a4⟩, a5⟩⟩ := h l p e ha hc hk s m args below hf happ hP hK
  exact ⟨k, o, h1, h2, h3, ⟨⟨v, σ', a1, hq _ _ a2, a3⟩, a4⟩, a5⟩
end CALLS
end
section
def RL : String := "BoltsByOrderLaw"
theorem fl_X0_9 : FL RX0 9 0 0 := gt_at 96 (by decide +kernel) (by decide +kernel)
theorem fl_X6_97 : FL RX6 97 0 0 := gt_at 97 (by decide +kernel) (by decide +kernel)
theorem fl_X1_64 : FL RX1 64 0 0 := gt_at 98 (by decide +kernel) (by decide +kernel)
theorem fl_X0_15 : FL RX0 15 0 1 := gt_at 99 (by decide +kernel) (by decide +kernel)
theorem fl_X6_105 : FL RX6 105 0 1 := gt_at 100 (by decide +kernel) (by decide +kernel)
theorem fl_X1_78 : FL RX1 78 0 1 := gt_at 101 (by decide +kernel) (by decide +kernel)
theorem fl_X0_18 : FL RX0 18 0 2 := gt_at 102 (by decide +kernel) (by decide +kernel)
theorem fl_X2_111 : FL RX2 111 0 2 := gt_at 103 (by decide +kernel) (by decide +kernel)
theorem fl_X1_105 : FL RX1 105 0 2 := gt_at 104 (by decide +kernel) (by decide +kernel)
theorem fl_X0_21 : FL RX0 21 0 3 := gt_at 105 (by decide +kernel) (by decide +kernel)
theorem fl_X0_24 : FL RX0 24 0 4 := gt_at 106 (by decide +kernel) (by decide +kernel)
theorem fl_X3_9 : FL RX3 9 3 0 := gt_at 125 (by decide +kernel) (by decide +kernel)
theorem fl_X6_139 : FL RX6 139 3 0 := gt_at 126 (by decide +kernel) (by decide +kernel)
theorem fl_X3_15 : FL RX3 15 3 1 := gt_at 127 (by decide +kernel) (by decide +kernel)
theorem fl_X6_120 : FL RX6 120 3 1 := gt_at 128 (by decide +kernel) (by decide +kernel)
theorem fl_X3_18 : FL RX3 18 3 2 := gt_at 129 (by decide +kernel) (by decide +kernel)
theorem fl_X2_94 : FL RX2 94 3 2 := gt_at 130 (by decide +kernel) (by decide +kernel)
theorem fl_X6_124 : FL RX6 124 3 2 := gt_at 131 (by decide +kernel) (by decide +kernel)
theorem fl_X3_21 : FL RX3 21 3 3 := gt_at 132 (by decide +kernel) (by decide +kernel)
theorem fl_X2_101 : FL RX2 101 3 3 := gt_at 133 (by decide +kernel) (by decide +kernel)
theorem fl_X6_130 : FL RX6 130 3 3 := gt_at 134 (by decide +kernel) (by decide +kernel)
theorem fl_X3_24 : FL RX3 24 3 4 := gt_at 135 (by decide +kernel) (by decide +kernel)
theorem fl_X2_105 : FL RX2 105 3 4 := gt_at 136 (by decide +kernel) (by decide +kernel)
theorem fl_X6_133 : FL RX6 133 3 4 := gt_at 137 (by decide +kernel) (by decide +kernel)
theorem fl_X3_27 : FL RX3 27 3 5 := gt_at 138 (by decide +kernel) (by decide +kernel)
theorem fl_X6_146 : FL RX6 146 3 5 := gt_at 139 (by decide +kernel) (by decide +kernel)
theorem fl_X1_95 : FL RX1 95 3 5 := gt_at 140 (by decide +kernel) (by decide +kernel)
theorem fl_X3_30 : FL RX3 30 3 6 := gt_at 141 (by decide +kernel) (by decide +kernel)
theorem fl_X1_89 : FL RX1 89 3 6 := gt_at 142 (by decide +kernel) (by decide +kernel)
theorem fl_X6_178 : FL RX6 178 3 6 := gt_at 143 (by decide +kernel) (by decide +kernel)
theorem fl_X1_12 : FL RX1 12 1 0 := gt_at 159 (by decide +kernel) (by decide +kernel)
theorem fl_X6_55 : FL RX6 55 1 0 := gt_at 160 (by decide +kernel) (by decide +kernel)
theorem fl_X2_56 : FL RX2 56 1 0 := gt_at 161 (by decide +kernel) (by decide +kernel)
theorem fl_X1_20 : FL RX1 20 1 1 := gt_at 162 (by decide +kernel) (by decide +kernel)
theorem fl_X6_93 : FL RX6 93 1 1 := gt_at 163 (by decide +kernel) (by decide +kernel)
theorem fl_X1_25 : FL RX1 25 1 2 := gt_at 164 (by decide +kernel) (by decide +kernel)
theorem fl_X6_86 : FL RX6 86 1 2 := gt_at 165 (by decide +kernel) (by decide +kernel)
theorem fl_X1_29 : FL RX1 29 1 3 := gt_at 166 (by decide +kernel) (by decide +kernel)
theorem fl_X6_153 : FL RX6 153 1 3 := gt_at 167 (by decide +kernel) (by decide +kernel)
theorem fl_X1_32 : FL RX1 32 1 4 := gt_at 168 (by decide +kernel) (by decide +kernel)
theorem fl_X6_169 : FL RX6 169 1 4 := gt_at 169 (by decide +kernel) (by decide +kernel)
theorem fl_X1_35 : FL RX1 35 1 5 := gt_at 170 (by decide +kernel) (by decide +kernel)
theorem fl_X6_166 : FL RX6 166 1 5 := gt_at 171 (by decide +kernel) (by decide +kernel)
theorem fl_X1_38 : FL RX1 38 1 6 := gt_at 172 (by decide +kernel) (by decide +kernel)
theorem fl_X5_9 : FL RX5 9 5 0 := gt_at 201 (by decide +kernel) (by decide +kernel)
theorem fl_X2_145 : FL RX2 145 5 0 := gt_at 202 (by decide +kernel) (by decide +kernel)
theorem fl_X5_15 : FL RX5 15 5 1 := gt_at 203 (by decide +kernel) (by decide +kernel)
theorem fl_X2_157 : FL RX2 157 5 1 := gt_at 204 (by decide +kernel) (by decide +kernel)
theorem fl_X6_213 : FL RX6 213 5 1 := gt_at 205 (by decide +kernel) (by decide +kernel)
theorem fl_X2_12 : FL RX2 12 2 0 := gt_at 211 (by decide +kernel) (by decide +kernel)
theorem fl_X6_209 : FL RX6 209 2 0 := gt_at 212 (by decide +kernel) (by decide +kernel)
theorem fl_X2_18 : FL RX2 18 2 1 := gt_at 213 (by decide +kernel) (by decide +kernel)
theorem fl_X2_22 : FL RX2 22 2 2 := gt_at 214 (by decide +kernel) (by decide +kernel)
theorem fl_X2_25 : FL RX2 25 2 3 := gt_at 215 (by decide +kernel) (by decide +kernel)
theorem fl_X2_28 : FL RX2 28 2 4 := gt_at 216 (by decide +kernel) (by decide +kernel)
theorem fl_X4_9 : FL RX4 9 4 0 := gt_at 235 (by decide +kernel) (by decide +kernel)
theorem fl_X6_242 : FL RX6 242 4 0 := gt_at 236 (by decide +kernel) (by decide +kernel)
theorem fl_X4_15 : FL RX4 15 4 1 := gt_at 237 (by decide +kernel) (by decide +kernel)
theorem fl_X6_254 : FL RX6 254 4 1 := gt_at 238 (by decide +kernel) (by decide +kernel)
theorem fl_X4_19 : FL RX4 19 4 2 := gt_at 239 (by decide +kernel) (by decide +kernel)
theorem fl_X6_238 : FL RX6 238 4 2 := gt_at 240 (by decide +kernel) (by decide +kernel)
theorem fl_X6_10 : FL RX6 10 6 0 := gt_at 249 (by decide +kernel) (by decide +kernel)
theorem fl_X6_16 : FL RX6 16 6 1 := gt_at 250 (by decide +kernel) (by decide +kernel)
theorem fl_X6_19 : FL RX6 19 6 2 := gt_at 251 (by decide +kernel) (by decide +kernel)
theorem fl_X6_22 : FL RX6 22 6 3 := gt_at 252 (by decide +kernel) (by decide +kernel)
theorem fl_X6_29 : FL RX6 29 6 4 := gt_at 253 (by decide +kernel) (by decide +kernel)
theorem fl_X6_35 : FL RX6 35 6 5 := gt_at 254 (by decide +kernel) (by decide +kernel)
theorem fl_X6_40 : FL RX6 40 6 6 := gt_at 255 (by decide +kernel) (by decide +kernel)
theorem fl_X7_7 : FL RX7 7 7 0 := gt_at 840 (by decide +kernel) (by decide +kernel)
theorem fl_X7_13 : FL RX7 13 7 1 := gt_at 841 (by decide +kernel) (by decide +kernel)
theorem fl_X7_16 : FL RX7 16 7 2 := gt_at 842 (by decide +kernel) (by decide +kernel)
theorem fl_X7_133 : FL RX7 133 7 3 := gt_at 843 (by decide +kernel) (by decide +kernel)
theorem fl_X7_137 : FL RX7 137 7 4 := gt_at 844 (by decide +kernel) (by decide +kernel)
theorem fl_X7_140 : FL RX7 140 7 5 := gt_at 845 (by decide +kernel) (by decide +kernel)
theorem fl_X7_143 : FL RX7 143 7 6 := gt_at 846 (by decide +kernel) (by decide +kernel)
theorem fl_X7_19 : FL RX7 19 7 7 := gt_at 847 (by decide +kernel) (by decide +kernel)
theorem fl_X7_157 : FL RX7 157 7 8 := gt_at 848 (by decide +kernel) (by decide +kernel)
theorem fl_X7_22 : FL RX7 22 7 9 := gt_at 849 (by decide +kernel) (by decide +kernel)
theorem fl_X7_172 : FL RX7 172 7 10 := gt_at 850 (by decide +kernel) (by decide +kernel)
theorem fl_X7_190 : FL RX7 190 7 11 := gt_at 851 (by decide +kernel) (by decide +kernel)
theorem fl_X7_178 : FL RX7 178 7 12 := gt_at 852 (by decide +kernel) (by decide +kernel)
theorem fl_X7_175 : FL RX7 175 7 13 := gt_at 853 (by decide +kernel) (by decide +kernel)
theorem fl_X7_193 : FL RX7 193 7 14 := gt_at 854 (by decide +kernel) (by decide +kernel)
theorem fl_X7_197 : FL RX7 197 7 15 := gt_at 855 (by decide +kernel) (by decide +kernel)
theorem fl_X7_222 : FL RX7 222 7 16 := gt_at 856 (by decide +kernel) (by decide +kernel)
theorem fl_X7_25 : FL RX7 25 7 17 := gt_at 857 (by decide +kernel) (by decide +kernel)
theorem fl_X7_28 : FL RX7 28 7 18 := gt_at 858 (by decide +kernel) (by decide +kernel)
theorem fl_X7_31 : FL RX7 31 7 19 := gt_at 859 (by decide +kernel) (by decide +kernel)
theorem fl_X7_35 : FL RX7 35 7 20 := gt_at 860 (by decide +kernel) (by decide +kernel)
theorem fl_X7_38 : FL RX7 38 7 21 := gt_at 861 (by decide +kernel) (by decide +kernel)
theorem fl_X7_41 : FL RX7 41 7 22 := gt_at 862 (by decide +kernel) (by decide +kernel)
theorem fl_X7_293 : FL RX7 293 7 23 := gt_at 863 (by decide +kernel) (by decide +kernel)
theorem ml_L_13 : Cond.methodLink RL 13 yX6_cloud ∈ gt := gt_at 271 (by decide +kernel) (by decide +kernel)
theorem ml_X6_44 : Cond.methodLink RX6 44 yX0_mayBe ∈ gt := gt_at 275 (by decide +kernel) (by decide +kernel)
theorem ml_X6_51 : Cond.methodLink RX6 51 yX6_tell ∈ gt := gt_at 286 (by decide +kernel) (by decide +kernel)
theorem ml_X6_66 : Cond.methodLink RX6 66 yX6_isWithin ∈ gt := gt_at 290 (by decide +kernel) (by decide +kernel)
theorem ml_X6_59 : Cond.methodLink RX6 59 yX0_part ∈ gt := gt_at 291 (by decide +kernel) (by decide +kernel)
theorem ml_X6_62 : Cond.methodLink RX6 62 yX0_setPart ∈ gt := gt_at 295 (by decide +kernel) (by decide +kernel)
theorem ml_L_18 : Cond.methodLink RL 18 yX6_cloudOf ∈ gt := gt_at 299 (by decide +kernel) (by decide +kernel)
theorem ml_L_23 : Cond.methodLink RL 23 yX6_rod ∈ gt := gt_at 303 (by decide +kernel) (by decide +kernel)
theorem ml_X6_70 : Cond.methodLink RX6 70 yX6_isKind ∈ gt := gt_at 307 (by decide +kernel) (by decide +kernel)
theorem ml_X6_74 : Cond.methodLink RX6 74 yX6_isPlace ∈ gt := gt_at 310 (by decide +kernel) (by decide +kernel)
theorem ml_X6_77 : Cond.methodLink RX6 77 yX1_isFull ∈ gt := gt_at 313 (by decide +kernel) (by decide +kernel)
theorem ml_X6_82 : Cond.methodLink RX6 82 yX1_add ∈ gt := gt_at 318 (by decide +kernel) (by decide +kernel)
theorem ml_X1_49 : Cond.methodLink RX1 49 yX3_becomeNew ∈ gt := gt_at 322 (by decide +kernel) (by decide +kernel)
theorem ml_L_27 : Cond.methodLink RL 27 yX6_of ∈ gt := gt_at 326 (by decide +kernel) (by decide +kernel)
theorem ml_X6_90 : Cond.methodLink RX6 90 yX6_isRod ∈ gt := gt_at 330 (by decide +kernel) (by decide +kernel)
theorem ml_X6_100 : Cond.methodLink RX6 100 yX3_drawsFrom ∈ gt := gt_at 334 (by decide +kernel) (by decide +kernel)
theorem ml_X3_33 : Cond.methodLink RX3 33 yJ9_abs ∈ gt := gt_at 338 (by decide +kernel) (by decide +kernel)
theorem ml_X3_39 : Cond.methodLink RX3 39 yJ9_max ∈ gt := gt_at 341 (by decide +kernel) (by decide +kernel)
theorem ml_X6_108 : Cond.methodLink RX6 108 yX1_clock ∈ gt := gt_at 344 (by decide +kernel) (by decide +kernel)
theorem ml_X6_112 : Cond.methodLink RX6 112 yX3_owesFor ∈ gt := gt_at 348 (by decide +kernel) (by decide +kernel)
theorem ml_X3_43 : Cond.methodLink RX3 43 yX3_isPaidAt ∈ gt := gt_at 352 (by decide +kernel) (by decide +kernel)
theorem ml_X3_47 : Cond.methodLink RX3 47 yX3_paidHours ∈ gt := gt_at 356 (by decide +kernel) (by decide +kernel)
theorem ml_X6_116 : Cond.methodLink RX6 116 yX3_isPaidAt ∈ gt := gt_at 360 (by decide +kernel) (by decide +kernel)
theorem ml_X6_119 : Cond.methodLink RX6 119 yX3_part ∈ gt := gt_at 361 (by decide +kernel) (by decide +kernel)
theorem ml_L_31 : Cond.methodLink RL 31 yX6_set ∈ gt := gt_at 365 (by decide +kernel) (by decide +kernel)
theorem ml_X6_121 : Cond.methodLink RX6 121 yX6_isHeight ∈ gt := gt_at 369 (by decide +kernel) (by decide +kernel)
theorem ml_L_36 : Cond.methodLink RL 36 yX6_pays ∈ gt := gt_at 372 (by decide +kernel) (by decide +kernel)
theorem ml_X6_127 : Cond.methodLink RX6 127 yX6_isClock ∈ gt := gt_at 376 (by decide +kernel) (by decide +kernel)
theorem ml_X6_136 : Cond.methodLink RX6 136 yX3_paidHours ∈ gt := gt_at 379 (by decide +kernel) (by decide +kernel)
theorem ml_L_40 : Cond.methodLink RL 40 yX6_turn ∈ gt := gt_at 380 (by decide +kernel) (by decide +kernel)
theorem ml_L_44 : Cond.methodLink RL 44 yX6_as ∈ gt := gt_at 384 (by decide +kernel) (by decide +kernel)
theorem ml_X6_142 : Cond.methodLink RX6 142 yX3_isOf ∈ gt := gt_at 388 (by decide +kernel) (by decide +kernel)
theorem ml_L_48 : Cond.methodLink RL 48 yX6_down ∈ gt := gt_at 393 (by decide +kernel) (by decide +kernel)
theorem ml_X6_149 : Cond.methodLink RX6 149 yX1_takeDown ∈ gt := gt_at 397 (by decide +kernel) (by decide +kernel)
theorem ml_L_52 : Cond.methodLink RL 52 yX6_settle ∈ gt := gt_at 401 (by decide +kernel) (by decide +kernel)
theorem ml_L_56 : Cond.methodLink RL 56 yX6_hours ∈ gt := gt_at 405 (by decide +kernel) (by decide +kernel)
theorem ml_X6_157 : Cond.methodLink RX6 157 yX1_goHours ∈ gt := gt_at 410 (by decide +kernel) (by decide +kernel)
theorem ml_X1_98 : Cond.methodLink RX1 98 yX1_aim ∈ gt := gt_at 414 (by decide +kernel) (by decide +kernel)
theorem ml_X1_57 : Cond.methodLink RX1 57 yX1_targetFrom ∈ gt := gt_at 418 (by decide +kernel) (by decide +kernel)
theorem ml_X1_53 : Cond.methodLink RX1 53 yX3_drawsFrom ∈ gt := gt_at 422 (by decide +kernel) (by decide +kernel)
theorem ml_X1_101 : Cond.methodLink RX1 101 yX1_goHour ∈ gt := gt_at 423 (by decide +kernel) (by decide +kernel)
theorem ml_X1_60 : Cond.methodLink RX1 60 yX0_isBreaking ∈ gt := gt_at 427 (by decide +kernel) (by decide +kernel)
theorem ml_X1_67 : Cond.methodLink RX1 67 yX1_strike ∈ gt := gt_at 431 (by decide +kernel) (by decide +kernel)
theorem ml_X1_81 : Cond.methodLink RX1 81 yX1_clock ∈ gt := gt_at 436 (by decide +kernel) (by decide +kernel)
theorem ml_X1_85 : Cond.methodLink RX1 85 yX3_owesFor ∈ gt := gt_at 437 (by decide +kernel) (by decide +kernel)
theorem ml_X6_266 : Cond.methodLink RX6 266 yJ9_min ∈ gt := gt_at 442 (by decide +kernel) (by decide +kernel)
theorem ml_X1_71 : Cond.methodLink RX1 71 yX0_passHour ∈ gt := gt_at 445 (by decide +kernel) (by decide +kernel)
theorem ml_X0_38 : Cond.methodLink RX0 38 yX0_isBreaking ∈ gt := gt_at 449 (by decide +kernel) (by decide +kernel)
theorem ml_X0_42 : Cond.methodLink RX0 42 yX0_goOn ∈ gt := gt_at 450 (by decide +kernel) (by decide +kernel)
theorem ml_X0_49 : Cond.methodLink RX0 49 yJ9_min ∈ gt := gt_at 455 (by decide +kernel) (by decide +kernel)
theorem ml_X6_160 : Cond.methodLink RX6 160 yX1_partsOfAll ∈ gt := gt_at 456 (by decide +kernel) (by decide +kernel)
theorem ml_X1_108 : Cond.methodLink RX1 108 yX3_part ∈ gt := gt_at 460 (by decide +kernel) (by decide +kernel)
theorem ml_L_60 : Cond.methodLink RL 60 yX6_days ∈ gt := gt_at 461 (by decide +kernel) (by decide +kernel)
theorem ml_X6_163 : Cond.methodLink RX6 163 yX1_drawDrift ∈ gt := gt_at 465 (by decide +kernel) (by decide +kernel)
theorem ml_L_64 : Cond.methodLink RL 64 yX6_seed ∈ gt := gt_at 470 (by decide +kernel) (by decide +kernel)
theorem ml_L_68 : Cond.methodLink RL 68 yX6_now ∈ gt := gt_at 474 (by decide +kernel) (by decide +kernel)
theorem ml_X6_172 : Cond.methodLink RX6 172 yX1_paidRods ∈ gt := gt_at 478 (by decide +kernel) (by decide +kernel)
theorem ml_X1_114 : Cond.methodLink RX1 114 yX3_isPaidAt ∈ gt := gt_at 482 (by decide +kernel) (by decide +kernel)
theorem ml_L_72 : Cond.methodLink RL 72 yX6_on ∈ gt := gt_at 483 (by decide +kernel) (by decide +kernel)
theorem ml_X6_175 : Cond.methodLink RX6 175 yX6_raiseGhost ∈ gt := gt_at 487 (by decide +kernel) (by decide +kernel)
theorem ml_X6_224 : Cond.methodLink RX6 224 yX1_takeFrom ∈ gt := gt_at 491 (by decide +kernel) (by decide +kernel)
theorem ml_X1_42 : Cond.methodLink RX1 42 yX0_takeFrom ∈ gt := gt_at 495 (by decide +kernel) (by decide +kernel)
theorem ml_X1_46 : Cond.methodLink RX1 46 yX3_takeFrom ∈ gt := gt_at 499 (by decide +kernel) (by decide +kernel)
theorem ml_L_76 : Cond.methodLink RL 76 yX6_next ∈ gt := gt_at 503 (by decide +kernel) (by decide +kernel)
theorem ml_X6_181 : Cond.methodLink RX6 181 yX6_leadGhostToBolt ∈ gt := gt_at 507 (by decide +kernel) (by decide +kernel)
theorem ml_X6_292 : Cond.methodLink RX6 292 yX0_isBreaking ∈ gt := gt_at 511 (by decide +kernel) (by decide +kernel)
theorem ml_X6_295 : Cond.methodLink RX6 295 yX0_goOn ∈ gt := gt_at 512 (by decide +kernel) (by decide +kernel)
theorem ml_X6_185 : Cond.methodLink RX6 185 yX1_targetFrom ∈ gt := gt_at 514 (by decide +kernel) (by decide +kernel)
theorem ml_L_80 : Cond.methodLink RL 80 yX6_struck ∈ gt := gt_at 515 (by decide +kernel) (by decide +kernel)
theorem ml_L_84 : Cond.methodLink RL 84 yX6_reach ∈ gt := gt_at 519 (by decide +kernel) (by decide +kernel)
theorem ml_L_88 : Cond.methodLink RL 88 yX6_steals ∈ gt := gt_at 523 (by decide +kernel) (by decide +kernel)
theorem ml_X6_188 : Cond.methodLink RX6 188 yX6_isGhostStruck ∈ gt := gt_at 527 (by decide +kernel) (by decide +kernel)
theorem ml_L_92 : Cond.methodLink RL 92 yX6_ducks ∈ gt := gt_at 531 (by decide +kernel) (by decide +kernel)
theorem ml_L_96 : Cond.methodLink RL 96 yX6_place ∈ gt := gt_at 535 (by decide +kernel) (by decide +kernel)
theorem ml_L_100 : Cond.methodLink RL 100 yX6_thief ∈ gt := gt_at 539 (by decide +kernel) (by decide +kernel)
theorem ml_L_104 : Cond.methodLink RL 104 yX6_kind ∈ gt := gt_at 543 (by decide +kernel) (by decide +kernel)
theorem ml_L_108 : Cond.methodLink RL 108 yX6_clocks ∈ gt := gt_at 547 (by decide +kernel) (by decide +kernel)
theorem ml_X6_191 : Cond.methodLink RX6 191 yX6_clocksOfBolts ∈ gt := gt_at 551 (by decide +kernel) (by decide +kernel)
theorem ml_X6_276 : Cond.methodLink RX6 276 yX1_aim ∈ gt := gt_at 555 (by decide +kernel) (by decide +kernel)
theorem ml_X6_298 : Cond.methodLink RX6 298 yX1_boltStrikes ∈ gt := gt_at 556 (by decide +kernel) (by decide +kernel)
theorem ml_X6_279 : Cond.methodLink RX6 279 yX1_goHour ∈ gt := gt_at 560 (by decide +kernel) (by decide +kernel)
theorem ml_L_112 : Cond.methodLink RL 112 yX6_covers ∈ gt := gt_at 561 (by decide +kernel) (by decide +kernel)
theorem ml_X6_194 : Cond.methodLink RX6 194 yX6_bestFrom ∈ gt := gt_at 565 (by decide +kernel) (by decide +kernel)
theorem ml_X6_197 : Cond.methodLink RX6 197 yX6_hoursToCover ∈ gt := gt_at 568 (by decide +kernel) (by decide +kernel)
theorem ml_X6_302 : Cond.methodLink RX6 302 yJ6_numberOfLeadingZeros ∈ gt := gt_at 572 (by decide +kernel) (by decide +kernel)
theorem ml_L_116 : Cond.methodLink RL 116 yX6_from ∈ gt := gt_at 576 (by decide +kernel) (by decide +kernel)
theorem ml_L_120 : Cond.methodLink RL 120 yX6_strays ∈ gt := gt_at 580 (by decide +kernel) (by decide +kernel)
theorem ml_L_124 : Cond.methodLink RL 124 yX6_fork ∈ gt := gt_at 584 (by decide +kernel) (by decide +kernel)
theorem ml_X6_200 : Cond.methodLink RX6 200 yX1_drawsOfAll ∈ gt := gt_at 588 (by decide +kernel) (by decide +kernel)
theorem ml_X6_203 : Cond.methodLink RX6 203 yX1_forked ∈ gt := gt_at 592 (by decide +kernel) (by decide +kernel)
theorem ml_X6_206 : Cond.methodLink RX6 206 yX6_commonDivisor ∈ gt := gt_at 596 (by decide +kernel) (by decide +kernel)
theorem ml_L_128 : Cond.methodLink RL 128 yX6_share ∈ gt := gt_at 599 (by decide +kernel) (by decide +kernel)
theorem ml_L_132 : Cond.methodLink RL 132 yX6_feed ∈ gt := gt_at 603 (by decide +kernel) (by decide +kernel)
theorem ml_X6_218 : Cond.methodLink RX6 218 yX5_add ∈ gt := gt_at 607 (by decide +kernel) (by decide +kernel)
theorem ml_L_136 : Cond.methodLink RL 136 yX6_wipe ∈ gt := gt_at 611 (by decide +kernel) (by decide +kernel)
theorem ml_L_141 : Cond.methodLink RL 141 yX6_plain ∈ gt := gt_at 615 (by decide +kernel) (by decide +kernel)
theorem ml_X6_220 : Cond.methodLink RX6 220 yX2_layOut ∈ gt := gt_at 619 (by decide +kernel) (by decide +kernel)
theorem ml_X2_31 : Cond.methodLink RX2 31 yX2_goToToken ∈ gt := gt_at 623 (by decide +kernel) (by decide +kernel)
theorem ml_X2_160 : Cond.methodLink RX2 160 yX2_sortOf ∈ gt := gt_at 627 (by decide +kernel) (by decide +kernel)
theorem ml_X2_164 : Cond.methodLink RX2 164 yX2_numberTold ∈ gt := gt_at 630 (by decide +kernel) (by decide +kernel)
theorem ml_X2_34 : Cond.methodLink RX2 34 yX2_layItem ∈ gt := gt_at 634 (by decide +kernel) (by decide +kernel)
theorem ml_X2_38 : Cond.methodLink RX2 38 yX2_kindTold ∈ gt := gt_at 638 (by decide +kernel) (by decide +kernel)
theorem ml_X2_127 : Cond.methodLink RX2 127 yX2_isWord ∈ gt := gt_at 643 (by decide +kernel) (by decide +kernel)
theorem ml_X2_140 : Cond.methodLink RX2 140 yJ0_length ∈ gt := gt_at 647 (by decide +kernel) (by decide +kernel)
theorem ml_J0_335 : Cond.methodLink RJ0 335 yJ0_coder ∈ gt := gt_at 651 (by decide +kernel) (by decide +kernel)
theorem ml_X2_149 : Cond.methodLink RX2 149 yJ0_charAt ∈ gt := gt_at 657 (by decide +kernel) (by decide +kernel)
theorem ml_J0_492 : Cond.methodLink RJ0 492 yJ0_isLatin1 ∈ gt := gt_at 661 (by decide +kernel) (by decide +kernel)
theorem ml_J0_495 : Cond.methodLink RJ0 495 yJ1_charAt ∈ gt := gt_at 665 (by decide +kernel) (by decide +kernel)
theorem ml_J1_9 : Cond.methodLink RJ1 9 yJ0_checkIndex ∈ gt := gt_at 668 (by decide +kernel) (by decide +kernel)
theorem ml_J0_1059 : Cond.methodLink RJ0 1059 yJ3_checkIndex ∈ gt := gt_at 673 (by decide +kernel) (by decide +kernel)
theorem ml_J0_498 : Cond.methodLink RJ0 498 yJ2_charAt ∈ gt := gt_at 676 (by decide +kernel) (by decide +kernel)
theorem ml_J2_67 : Cond.methodLink RJ2 67 yJ2_checkIndex ∈ gt := gt_at 679 (by decide +kernel) (by decide +kernel)
theorem ml_J2_48 : Cond.methodLink RJ2 48 yJ2_length ∈ gt := gt_at 682 (by decide +kernel) (by decide +kernel)
theorem ml_J2_414 : Cond.methodLink RJ2 414 yJ0_checkIndex ∈ gt := gt_at 685 (by decide +kernel) (by decide +kernel)
theorem ml_J2_71 : Cond.methodLink RJ2 71 yJ2_getChar ∈ gt := gt_at 686 (by decide +kernel) (by decide +kernel)
theorem ml_X2_46 : Cond.methodLink RX2 46 yX2_layRod ∈ gt := gt_at 701 (by decide +kernel) (by decide +kernel)
theorem ml_X2_75 : Cond.methodLink RX2 75 yX1_isFull ∈ gt := gt_at 705 (by decide +kernel) (by decide +kernel)
theorem ml_X2_52 : Cond.methodLink RX2 52 yX2_takeWord ∈ gt := gt_at 707 (by decide +kernel) (by decide +kernel)
theorem ml_X2_81 : Cond.methodLink RX2 81 yX2_isNumber ∈ gt := gt_at 711 (by decide +kernel) (by decide +kernel)
theorem ml_X2_85 : Cond.methodLink RX2 85 yX2_takeNumber ∈ gt := gt_at 716 (by decide +kernel) (by decide +kernel)
theorem ml_X2_88 : Cond.methodLink RX2 88 yX1_add ∈ gt := gt_at 720 (by decide +kernel) (by decide +kernel)
theorem ml_X2_61 : Cond.methodLink RX2 61 yX2_layCloud ∈ gt := gt_at 725 (by decide +kernel) (by decide +kernel)
theorem ml_X2_69 : Cond.methodLink RX2 69 yX2_takeCloudPart ∈ gt := gt_at 729 (by decide +kernel) (by decide +kernel)
theorem ml_X2_118 : Cond.methodLink RX2 118 yX0_mayBe ∈ gt := gt_at 733 (by decide +kernel) (by decide +kernel)
theorem ml_X2_121 : Cond.methodLink RX2 121 yX0_setPart ∈ gt := gt_at 734 (by decide +kernel) (by decide +kernel)
theorem ml_L_145 : Cond.methodLink RL 145 yX6_sheet ∈ gt := gt_at 742 (by decide +kernel) (by decide +kernel)
theorem ml_X6_228 : Cond.methodLink RX6 228 yX6_isSheet ∈ gt := gt_at 746 (by decide +kernel) (by decide +kernel)
theorem ml_X6_231 : Cond.methodLink RX6 231 yX4_mayHave ∈ gt := gt_at 749 (by decide +kernel) (by decide +kernel)
theorem ml_X6_235 : Cond.methodLink RX6 235 yX4_layNew ∈ gt := gt_at 753 (by decide +kernel) (by decide +kernel)
theorem ml_L_151 : Cond.methodLink RL 151 yX6_write ∈ gt := gt_at 757 (by decide +kernel) (by decide +kernel)
theorem ml_X6_239 : Cond.methodLink RX6 239 yX6_findingOfSheet ∈ gt := gt_at 761 (by decide +kernel) (by decide +kernel)
theorem ml_X6_250 : Cond.methodLink RX6 250 yX4_isMissing ∈ gt := gt_at 765 (by decide +kernel) (by decide +kernel)
theorem ml_X6_246 : Cond.methodLink RX6 246 yX4_put ∈ gt := gt_at 770 (by decide +kernel) (by decide +kernel)
theorem ml_L_156 : Cond.methodLink RL 156 yX6_copy ∈ gt := gt_at 774 (by decide +kernel) (by decide +kernel)
theorem ml_X6_257 : Cond.methodLink RX6 257 yX4_has ∈ gt := gt_at 778 (by decide +kernel) (by decide +kernel)
theorem ml_L_161 : Cond.methodLink RL 161 yX6_lays ∈ gt := gt_at 785 (by decide +kernel) (by decide +kernel)
theorem ml_L_165 : Cond.methodLink RL 165 yX6_book ∈ gt := gt_at 790 (by decide +kernel) (by decide +kernel)
theorem ml_X6_273 : Cond.methodLink RX6 273 yX6_findingOfBook ∈ gt := gt_at 794 (by decide +kernel) (by decide +kernel)
theorem ml_L_169 : Cond.methodLink RL 169 yX6_read ∈ gt := gt_at 798 (by decide +kernel) (by decide +kernel)
theorem ml_X6_282 : Cond.methodLink RX6 282 yX0_takeFrom ∈ gt := gt_at 802 (by decide +kernel) (by decide +kernel)
theorem ml_X6_285 : Cond.methodLink RX6 285 yX6_isBooked ∈ gt := gt_at 803 (by decide +kernel) (by decide +kernel)
theorem ml_X6_307 : Cond.methodLink RX6 307 yX6_held ∈ gt := gt_at 807 (by decide +kernel) (by decide +kernel)
theorem ml_X6_310 : Cond.methodLink RX6 310 yX0_passHour ∈ gt := gt_at 808 (by decide +kernel) (by decide +kernel)
theorem ml_L_173 : Cond.methodLink RL 173 yX6_image ∈ gt := gt_at 809 (by decide +kernel) (by decide +kernel)
theorem ml_L_177 : Cond.methodLink RL 177 yX6_undo ∈ gt := gt_at 813 (by decide +kernel) (by decide +kernel)
theorem ml_L_181 : Cond.methodLink RL 181 yX6_tear ∈ gt := gt_at 817 (by decide +kernel) (by decide +kernel)
theorem ml_L_185 : Cond.methodLink RL 185 yX6_count ∈ gt := gt_at 821 (by decide +kernel) (by decide +kernel)
theorem ml_X6_289 : Cond.methodLink RX6 289 yX1_paidHoursOfAll ∈ gt := gt_at 825 (by decide +kernel) (by decide +kernel)
theorem ml_X1_111 : Cond.methodLink RX1 111 yX3_paidHours ∈ gt := gt_at 829 (by decide +kernel) (by decide +kernel)
theorem ml_L_189 : Cond.methodLink RL 189 yX6_status ∈ gt := gt_at 830 (by decide +kernel) (by decide +kernel)
theorem ml_L_17 : Cond.methodLink RL 17 yX7_cloud ∈ gt := gt_at 913 (by decide +kernel) (by decide +kernel)
theorem ml_X7_49 : Cond.methodLink RX7 49 yX7_isPlace ∈ gt := gt_at 917 (by decide +kernel) (by decide +kernel)
theorem ml_X7_45 : Cond.methodLink RX7 45 yX7_in ∈ gt := gt_at 920 (by decide +kernel) (by decide +kernel)
theorem ml_X7_53 : Cond.methodLink RX7 53 yX7_finds ∈ gt := gt_at 924 (by decide +kernel) (by decide +kernel)
theorem ml_L_22 : Cond.methodLink RL 22 yX7_cloudOf ∈ gt := gt_at 928 (by decide +kernel) (by decide +kernel)
theorem ml_L_26 : Cond.methodLink RL 26 yX7_rod ∈ gt := gt_at 932 (by decide +kernel) (by decide +kernel)
theorem ml_X7_61 : Cond.methodLink RX7 61 yX7_isKind ∈ gt := gt_at 936 (by decide +kernel) (by decide +kernel)
theorem ml_X7_65 : Cond.methodLink RX7 65 yX7_addRod ∈ gt := gt_at 940 (by decide +kernel) (by decide +kernel)
theorem ml_X7_57 : Cond.methodLink RX7 57 yX7_puts ∈ gt := gt_at 944 (by decide +kernel) (by decide +kernel)
theorem ml_L_30 : Cond.methodLink RL 30 yX7_of ∈ gt := gt_at 948 (by decide +kernel) (by decide +kernel)
theorem ml_X7_87 : Cond.methodLink RX7 87 yX7_isRod ∈ gt := gt_at 952 (by decide +kernel) (by decide +kernel)
theorem ml_X7_90 : Cond.methodLink RX7 90 yX7_draws ∈ gt := gt_at 956 (by decide +kernel) (by decide +kernel)
theorem ml_X7_69 : Cond.methodLink RX7 69 yX7_its ∈ gt := gt_at 960 (by decide +kernel) (by decide +kernel)
theorem ml_X7_73 : Cond.methodLink RX7 73 yX7_held ∈ gt := gt_at 964 (by decide +kernel) (by decide +kernel)
theorem ml_X7_93 : Cond.methodLink RX7 93 yX7_owes ∈ gt := gt_at 967 (by decide +kernel) (by decide +kernel)
theorem ml_X7_84 : Cond.methodLink RX7 84 yX7_isPaid ∈ gt := gt_at 971 (by decide +kernel) (by decide +kernel)
theorem ml_X7_77 : Cond.methodLink RX7 77 yX7_clock ∈ gt := gt_at 975 (by decide +kernel) (by decide +kernel)
theorem ml_X7_81 : Cond.methodLink RX7 81 yX7_paidMany ∈ gt := gt_at 979 (by decide +kernel) (by decide +kernel)
theorem ml_L_35 : Cond.methodLink RL 35 yX7_set ∈ gt := gt_at 983 (by decide +kernel) (by decide +kernel)
theorem ml_L_39 : Cond.methodLink RL 39 yX7_pays ∈ gt := gt_at 987 (by decide +kernel) (by decide +kernel)
theorem ml_L_43 : Cond.methodLink RL 43 yX7_turn ∈ gt := gt_at 991 (by decide +kernel) (by decide +kernel)
theorem ml_L_47 : Cond.methodLink RL 47 yX7_as ∈ gt := gt_at 995 (by decide +kernel) (by decide +kernel)
theorem ml_L_51 : Cond.methodLink RL 51 yX7_down ∈ gt := gt_at 1000 (by decide +kernel) (by decide +kernel)
theorem ml_X7_97 : Cond.methodLink RX7 97 yX7_comesDown ∈ gt := gt_at 1004 (by decide +kernel) (by decide +kernel)
theorem ml_L_55 : Cond.methodLink RL 55 yX7_settle ∈ gt := gt_at 1008 (by decide +kernel) (by decide +kernel)
theorem ml_L_59 : Cond.methodLink RL 59 yX7_hours ∈ gt := gt_at 1012 (by decide +kernel) (by decide +kernel)
theorem ml_X7_116 : Cond.methodLink RX7 116 yX7_passes ∈ gt := gt_at 1017 (by decide +kernel) (by decide +kernel)
theorem ml_X7_112 : Cond.methodLink RX7 112 yX7_oneHour ∈ gt := gt_at 1021 (by decide +kernel) (by decide +kernel)
theorem ml_X7_105 : Cond.methodLink RX7 105 yX7_doesBreak ∈ gt := gt_at 1025 (by decide +kernel) (by decide +kernel)
theorem ml_X7_109 : Cond.methodLink RX7 109 yX7_bolt ∈ gt := gt_at 1029 (by decide +kernel) (by decide +kernel)
theorem ml_X7_101 : Cond.methodLink RX7 101 yX7_struckAt ∈ gt := gt_at 1033 (by decide +kernel) (by decide +kernel)
theorem ml_X7_119 : Cond.methodLink RX7 119 yX7_sumOf ∈ gt := gt_at 1038 (by decide +kernel) (by decide +kernel)
theorem ml_L_63 : Cond.methodLink RL 63 yX7_days ∈ gt := gt_at 1042 (by decide +kernel) (by decide +kernel)
theorem ml_L_67 : Cond.methodLink RL 67 yX7_seed ∈ gt := gt_at 1047 (by decide +kernel) (by decide +kernel)
theorem ml_L_71 : Cond.methodLink RL 71 yX7_now ∈ gt := gt_at 1051 (by decide +kernel) (by decide +kernel)
theorem ml_X7_123 : Cond.methodLink RX7 123 yX7_paidOnes ∈ gt := gt_at 1055 (by decide +kernel) (by decide +kernel)
theorem ml_L_75 : Cond.methodLink RL 75 yX7_on ∈ gt := gt_at 1059 (by decide +kernel) (by decide +kernel)
theorem ml_X7_130 : Cond.methodLink RX7 130 yX7_onOf ∈ gt := gt_at 1063 (by decide +kernel) (by decide +kernel)
theorem ml_X7_126 : Cond.methodLink RX7 126 yX7_moveAll ∈ gt := gt_at 1067 (by decide +kernel) (by decide +kernel)
theorem ml_L_79 : Cond.methodLink RL 79 yX7_next ∈ gt := gt_at 1071 (by decide +kernel) (by decide +kernel)
theorem ml_X7_146 : Cond.methodLink RX7 146 yX7_findNext ∈ gt := gt_at 1075 (by decide +kernel) (by decide +kernel)
theorem ml_L_83 : Cond.methodLink RL 83 yX7_struck ∈ gt := gt_at 1080 (by decide +kernel) (by decide +kernel)
theorem ml_L_87 : Cond.methodLink RL 87 yX7_reach ∈ gt := gt_at 1084 (by decide +kernel) (by decide +kernel)
theorem ml_L_91 : Cond.methodLink RL 91 yX7_steals ∈ gt := gt_at 1088 (by decide +kernel) (by decide +kernel)
theorem ml_X7_150 : Cond.methodLink RX7 150 yX7_isStruckBy ∈ gt := gt_at 1092 (by decide +kernel) (by decide +kernel)
theorem ml_L_95 : Cond.methodLink RL 95 yX7_ducks ∈ gt := gt_at 1096 (by decide +kernel) (by decide +kernel)
theorem ml_L_99 : Cond.methodLink RL 99 yX7_place ∈ gt := gt_at 1100 (by decide +kernel) (by decide +kernel)
theorem ml_L_103 : Cond.methodLink RL 103 yX7_thief ∈ gt := gt_at 1104 (by decide +kernel) (by decide +kernel)
theorem ml_L_107 : Cond.methodLink RL 107 yX7_kind ∈ gt := gt_at 1108 (by decide +kernel) (by decide +kernel)
theorem ml_L_111 : Cond.methodLink RL 111 yX7_clocks ∈ gt := gt_at 1112 (by decide +kernel) (by decide +kernel)
theorem ml_X7_154 : Cond.methodLink RX7 154 yX7_clocksOf ∈ gt := gt_at 1116 (by decide +kernel) (by decide +kernel)
theorem ml_L_115 : Cond.methodLink RL 115 yX7_covers ∈ gt := gt_at 1120 (by decide +kernel) (by decide +kernel)
theorem ml_X7_163 : Cond.methodLink RX7 163 yX7_fewest ∈ gt := gt_at 1124 (by decide +kernel) (by decide +kernel)
theorem ml_X7_160 : Cond.methodLink RX7 160 yX7_doesCover ∈ gt := gt_at 1128 (by decide +kernel) (by decide +kernel)
theorem ml_L_119 : Cond.methodLink RL 119 yX7_from ∈ gt := gt_at 1131 (by decide +kernel) (by decide +kernel)
theorem ml_L_123 : Cond.methodLink RL 123 yX7_strays ∈ gt := gt_at 1135 (by decide +kernel) (by decide +kernel)
theorem ml_L_127 : Cond.methodLink RL 127 yX7_fork ∈ gt := gt_at 1139 (by decide +kernel) (by decide +kernel)
theorem ml_X7_166 : Cond.methodLink RX7 166 yX7_drawAll ∈ gt := gt_at 1143 (by decide +kernel) (by decide +kernel)
theorem ml_X7_169 : Cond.methodLink RX7 169 yX7_divisor ∈ gt := gt_at 1147 (by decide +kernel) (by decide +kernel)
theorem ml_L_131 : Cond.methodLink RL 131 yX7_share ∈ gt := gt_at 1150 (by decide +kernel) (by decide +kernel)
theorem ml_L_135 : Cond.methodLink RL 135 yX7_feed ∈ gt := gt_at 1154 (by decide +kernel) (by decide +kernel)
theorem ml_L_140 : Cond.methodLink RL 140 yX7_wipe ∈ gt := gt_at 1158 (by decide +kernel) (by decide +kernel)
theorem ml_L_144 : Cond.methodLink RL 144 yX7_plain ∈ gt := gt_at 1162 (by decide +kernel) (by decide +kernel)
theorem ml_X7_226 : Cond.methodLink RX7 226 yX7_advance ∈ gt := gt_at 1166 (by decide +kernel) (by decide +kernel)
theorem ml_X7_181 : Cond.methodLink RX7 181 yX7_byteAt ∈ gt := gt_at 1170 (by decide +kernel) (by decide +kernel)
theorem ml_X7_184 : Cond.methodLink RX7 184 yX7_isLetter ∈ gt := gt_at 1174 (by decide +kernel) (by decide +kernel)
theorem ml_X7_187 : Cond.methodLink RX7 187 yX7_isDigit ∈ gt := gt_at 1177 (by decide +kernel) (by decide +kernel)
theorem ml_X7_270 : Cond.methodLink RX7 270 yX7_wantItem ∈ gt := gt_at 1183 (by decide +kernel) (by decide +kernel)
theorem ml_X7_252 : Cond.methodLink RX7 252 yX7_kindHere ∈ gt := gt_at 1187 (by decide +kernel) (by decide +kernel)
theorem ml_X7_208 : Cond.methodLink RX7 208 yX7_isWord ∈ gt := gt_at 1192 (by decide +kernel) (by decide +kernel)
theorem ml_X7_255 : Cond.methodLink RX7 255 yX7_wantRod ∈ gt := gt_at 1201 (by decide +kernel) (by decide +kernel)
theorem ml_X7_229 : Cond.methodLink RX7 229 yX7_wantNumber ∈ gt := gt_at 1206 (by decide +kernel) (by decide +kernel)
theorem ml_X7_236 : Cond.methodLink RX7 236 yX7_mayWant ∈ gt := gt_at 1211 (by decide +kernel) (by decide +kernel)
theorem ml_X7_260 : Cond.methodLink RX7 260 yX7_wantCloud ∈ gt := gt_at 1218 (by decide +kernel) (by decide +kernel)
theorem ml_X7_265 : Cond.methodLink RX7 265 yX7_wantRule ∈ gt := gt_at 1227 (by decide +kernel) (by decide +kernel)
theorem ml_L_148 : Cond.methodLink RL 148 yX7_sheet ∈ gt := gt_at 1232 (by decide +kernel) (by decide +kernel)
theorem ml_X7_273 : Cond.methodLink RX7 273 yX7_isSheet ∈ gt := gt_at 1236 (by decide +kernel) (by decide +kernel)
theorem ml_L_155 : Cond.methodLink RL 155 yX7_write ∈ gt := gt_at 1240 (by decide +kernel) (by decide +kernel)
theorem ml_X7_278 : Cond.methodLink RX7 278 yX7_narrow ∈ gt := gt_at 1245 (by decide +kernel) (by decide +kernel)
theorem ml_L_160 : Cond.methodLink RL 160 yX7_copy ∈ gt := gt_at 1248 (by decide +kernel) (by decide +kernel)
theorem ml_X7_282 : Cond.methodLink RX7 282 yX7_isPart ∈ gt := gt_at 1252 (by decide +kernel) (by decide +kernel)
theorem ml_L_164 : Cond.methodLink RL 164 yX7_lays ∈ gt := gt_at 1256 (by decide +kernel) (by decide +kernel)
theorem ml_X7_285 : Cond.methodLink RX7 285 yX7_badSheet ∈ gt := gt_at 1260 (by decide +kernel) (by decide +kernel)
theorem ml_L_168 : Cond.methodLink RL 168 yX7_book ∈ gt := gt_at 1265 (by decide +kernel) (by decide +kernel)
theorem ml_L_172 : Cond.methodLink RL 172 yX7_read ∈ gt := gt_at 1269 (by decide +kernel) (by decide +kernel)
theorem ml_X7_290 : Cond.methodLink RX7 290 yX7_isSo ∈ gt := gt_at 1273 (by decide +kernel) (by decide +kernel)
theorem ml_L_176 : Cond.methodLink RL 176 yX7_image ∈ gt := gt_at 1277 (by decide +kernel) (by decide +kernel)
theorem ml_L_180 : Cond.methodLink RL 180 yX7_undo ∈ gt := gt_at 1281 (by decide +kernel) (by decide +kernel)
theorem ml_L_184 : Cond.methodLink RL 184 yX7_tear ∈ gt := gt_at 1285 (by decide +kernel) (by decide +kernel)
theorem ml_L_188 : Cond.methodLink RL 188 yX7_count ∈ gt := gt_at 1289 (by decide +kernel) (by decide +kernel)
theorem ml_X7_296 : Cond.methodLink RX7 296 yX7_paidAll ∈ gt := gt_at 1293 (by decide +kernel) (by decide +kernel)
theorem ml_L_192 : Cond.methodLink RL 192 yX7_status ∈ gt := gt_at 1297 (by decide +kernel) (by decide +kernel)
set_option maxRecDepth 100000 in
theorem cd_X0_mayBe : cdW mX0_mayBe ∈ gt := gt_at 277 rfl rfl
theorem ms_X0_mayBe : MS mX0_mayBe 2 := ⟨gt_at 276 (by decide +kernel) (by decide +kernel), gt_at 63 (by decide +kernel) (by decide +kernel), cd_X0_mayBe, ⟨rfl, by decide +kernel, by decide +kernel, by decide +kernel⟩⟩
set_option maxRecDepth 100000 in
theorem cd_X0_takeFrom : cdW mX0_takeFrom ∈ gt := gt_at 498 rfl rfl
theorem mv_X0_takeFrom : MV mX0_takeFrom 1 := ⟨gt_at 496 (by decide +kernel) (by decide +kernel), gt_at 497 (by decide +kernel) (by decide +kernel), gt_at 63 (by decide +kernel) (by decide +kernel), cd_X0_takeFrom, ⟨rfl, by decide +kernel, by decide +kernel, by decide +kernel⟩⟩
set_option maxRecDepth 100000 in
theorem cd_X0_part : cdW mX0_part ∈ gt := gt_at 294 rfl rfl
theorem mv_X0_part : MV mX0_part 1 := ⟨gt_at 292 (by decide +kernel) (by decide +kernel), gt_at 293 (by decide +kernel) (by decide +kernel), gt_at 63 (by decide +kernel) (by decide +kernel), cd_X0_part, ⟨rfl, by decide +kernel, by decide +kernel, by decide +kernel⟩⟩
set_option maxRecDepth 100000 in
theorem cd_X0_setPart : cdW mX0_setPart ∈ gt := gt_at 298 rfl rfl
theorem mv_X0_setPart : MV mX0_setPart 2 := ⟨gt_at 296 (by decide +kernel) (by decide +kernel), gt_at 297 (by decide +kernel) (by decide +kernel), gt_at 63 (by decide +kernel) (by decide +kernel), cd_X0_setPart, ⟨rfl, by decide +kernel, by decide +kernel, by decide +kernel⟩⟩
set_option maxRecDepth 100000 in
theorem cd_X0_isBreaking : cdW mX0_isBreaking ∈ gt := gt_at 430 rfl rfl
theorem mv_X0_isBreaking : MV mX0_isBreaking 0 := ⟨gt_at 428 (by decide +kernel) (by decide +kernel), gt_at 429 (by decide +kernel) (by decide +kernel), gt_at 63 (by decide +kernel) (by decide +kernel), cd_X0_isBreaking, ⟨rfl, by decide +kernel, by decide +kernel, by decide +kernel⟩⟩
set_option maxRecDepth 100000 in
theorem cd_X0_passHour : cdW mX0_passHour ∈ gt := gt_at 448 rfl rfl
theorem mv_X0_passHour : MV mX0_passHour 0 := ⟨gt_at 446 (by decide +kernel) (by decide +kernel), gt_at 447 (by decide +kernel) (by decide +kernel), gt_at 63 (by decide +kernel) (by decide +kernel), cd_X0_passHour, ⟨rfl, by decide +kernel, by decide +kernel, by decide +kernel⟩⟩
set_option maxRecDepth 100000 in
theorem cd_X0_goOn : cdW mX0_goOn ∈ gt := gt_at 453 rfl rfl
theorem mv_X0_goOn : MV mX0_goOn 0 := ⟨gt_at 451 (by decide +kernel) (by decide +kernel), gt_at 452 (by decide +kernel) (by decide +kernel), gt_at 63 (by decide +kernel) (by decide +kernel), cd_X0_goOn, ⟨rfl, by decide +kernel, by decide +kernel, by decide +kernel⟩⟩
set_option maxRecDepth 100000 in
theorem cd_X1_takeFrom : cdW mX1_takeFrom ∈ gt := gt_at 494 rfl rfl
theorem mv_X1_takeFrom : MV mX1_takeFrom 1 := ⟨gt_at 492 (by decide +kernel) (by decide +kernel), gt_at 493 (by decide +kernel) (by decide +kernel), gt_at 62 (by decide +kernel) (by decide +kernel), cd_X1_takeFrom, ⟨rfl, by decide +kernel, by decide +kernel, by decide +kernel⟩⟩
set_option maxRecDepth 100000 in
theorem cd_X1_isFull : cdW mX1_isFull ∈ gt := gt_at 316 rfl rfl
theorem mv_X1_isFull : MV mX1_isFull 0 := ⟨gt_at 314 (by decide +kernel) (by decide +kernel), gt_at 315 (by decide +kernel) (by decide +kernel), gt_at 62 (by decide +kernel) (by decide +kernel), cd_X1_isFull, ⟨rfl, by decide +kernel, by decide +kernel, by decide +kernel⟩⟩
set_option maxRecDepth 100000 in
theorem cd_X1_add : cdW mX1_add ∈ gt := gt_at 321 rfl rfl
theorem mv_X1_add : MV mX1_add 2 := ⟨gt_at 319 (by decide +kernel) (by decide +kernel), gt_at 320 (by decide +kernel) (by decide +kernel), gt_at 62 (by decide +kernel) (by decide +kernel), cd_X1_add, ⟨rfl, by decide +kernel, by decide +kernel, by decide +kernel⟩⟩
set_option maxRecDepth 100000 in
theorem cd_X1_takeDown : cdW mX1_takeDown ∈ gt := gt_at 400 rfl rfl
theorem mv_X1_takeDown : MV mX1_takeDown 1 := ⟨gt_at 398 (by decide +kernel) (by decide +kernel), gt_at 399 (by decide +kernel) (by decide +kernel), gt_at 62 (by decide +kernel) (by decide +kernel), cd_X1_takeDown, ⟨rfl, by decide +kernel, by decide +kernel, by decide +kernel⟩⟩
set_option maxRecDepth 100000 in
theorem cd_X1_clock : cdW mX1_clock ∈ gt := gt_at 347 rfl rfl
theorem mv_X1_clock : MV mX1_clock 0 := ⟨gt_at 345 (by decide +kernel) (by decide +kernel), gt_at 346 (by decide +kernel) (by decide +kernel), gt_at 62 (by decide +kernel) (by decide +kernel), cd_X1_clock, ⟨rfl, by decide +kernel, by decide +kernel, by decide +kernel⟩⟩
set_option maxRecDepth 100000 in
theorem cd_X1_targetFrom : cdW mX1_targetFrom ∈ gt := gt_at 421 rfl rfl
theorem mv_X1_targetFrom : MV mX1_targetFrom 1 := ⟨gt_at 419 (by decide +kernel) (by decide +kernel), gt_at 420 (by decide +kernel) (by decide +kernel), gt_at 62 (by decide +kernel) (by decide +kernel), cd_X1_targetFrom, ⟨rfl, by decide +kernel, by decide +kernel, by decide +kernel⟩⟩
set_option maxRecDepth 100000 in
theorem cd_X1_aim : cdW mX1_aim ∈ gt := gt_at 417 rfl rfl
theorem mv_X1_aim : MV mX1_aim 0 := ⟨gt_at 415 (by decide +kernel) (by decide +kernel), gt_at 416 (by decide +kernel) (by decide +kernel), gt_at 62 (by decide +kernel) (by decide +kernel), cd_X1_aim, ⟨rfl, by decide +kernel, by decide +kernel, by decide +kernel⟩⟩
set_option maxRecDepth 100000 in
theorem cd_X1_boltStrikes : cdW mX1_boltStrikes ∈ gt := gt_at 559 rfl rfl
theorem mv_X1_boltStrikes : MV mX1_boltStrikes 1 := ⟨gt_at 557 (by decide +kernel) (by decide +kernel), gt_at 558 (by decide +kernel) (by decide +kernel), gt_at 62 (by decide +kernel) (by decide +kernel), cd_X1_boltStrikes, ⟨rfl, by decide +kernel, by decide +kernel, by decide +kernel⟩⟩
set_option maxRecDepth 100000 in
theorem cd_X1_goHour : cdW mX1_goHour ∈ gt := gt_at 426 rfl rfl
theorem mv_X1_goHour : MV mX1_goHour 0 := ⟨gt_at 424 (by decide +kernel) (by decide +kernel), gt_at 425 (by decide +kernel) (by decide +kernel), gt_at 62 (by decide +kernel) (by decide +kernel), cd_X1_goHour, ⟨rfl, by decide +kernel, by decide +kernel, by decide +kernel⟩⟩
set_option maxRecDepth 100000 in
theorem cd_X1_strike : cdW mX1_strike ∈ gt := gt_at 434 rfl rfl
theorem mv_X1_strike : MV mX1_strike 1 := ⟨gt_at 433 (by decide +kernel) (by decide +kernel), gt_at 2 (by decide +kernel) (by decide +kernel), gt_at 62 (by decide +kernel) (by decide +kernel), cd_X1_strike, ⟨rfl, by decide +kernel, by decide +kernel, by decide +kernel⟩⟩
set_option maxRecDepth 100000 in
theorem cd_X1_goHours : cdW mX1_goHours ∈ gt := gt_at 413 rfl rfl
theorem mv_X1_goHours : MV mX1_goHours 1 := ⟨gt_at 411 (by decide +kernel) (by decide +kernel), gt_at 412 (by decide +kernel) (by decide +kernel), gt_at 62 (by decide +kernel) (by decide +kernel), cd_X1_goHours, ⟨rfl, by decide +kernel, by decide +kernel, by decide +kernel⟩⟩
set_option maxRecDepth 100000 in
theorem cd_X1_drawDrift : cdW mX1_drawDrift ∈ gt := gt_at 468 rfl rfl
theorem mv_X1_drawDrift : MV mX1_drawDrift 0 := ⟨gt_at 466 (by decide +kernel) (by decide +kernel), gt_at 467 (by decide +kernel) (by decide +kernel), gt_at 62 (by decide +kernel) (by decide +kernel), cd_X1_drawDrift, ⟨rfl, by decide +kernel, by decide +kernel, by decide +kernel⟩⟩
set_option maxRecDepth 100000 in
theorem cd_X1_partsOfAll : cdW mX1_partsOfAll ∈ gt := gt_at 459 rfl rfl
theorem mv_X1_partsOfAll : MV mX1_partsOfAll 1 := ⟨gt_at 457 (by decide +kernel) (by decide +kernel), gt_at 458 (by decide +kernel) (by decide +kernel), gt_at 62 (by decide +kernel) (by decide +kernel), cd_X1_partsOfAll, ⟨rfl, by decide +kernel, by decide +kernel, by decide +kernel⟩⟩
set_option maxRecDepth 100000 in
theorem cd_X1_paidHoursOfAll : cdW mX1_paidHoursOfAll ∈ gt := gt_at 828 rfl rfl
theorem mv_X1_paidHoursOfAll : MV mX1_paidHoursOfAll 0 := ⟨gt_at 826 (by decide +kernel) (by decide +kernel), gt_at 827 (by decide +kernel) (by decide +kernel), gt_at 62 (by decide +kernel) (by decide +kernel), cd_X1_paidHoursOfAll, ⟨rfl, by decide +kernel, by decide +kernel, by decide +kernel⟩⟩
set_option maxRecDepth 100000 in
theorem cd_X1_drawsOfAll : cdW mX1_drawsOfAll ∈ gt := gt_at 591 rfl rfl
theorem mv_X1_drawsOfAll : MV mX1_drawsOfAll 0 := ⟨gt_at 589 (by decide +kernel) (by decide +kernel), gt_at 590 (by decide +kernel) (by decide +kernel), gt_at 62 (by decide +kernel) (by decide +kernel), cd_X1_drawsOfAll, ⟨rfl, by decide +kernel, by decide +kernel, by decide +kernel⟩⟩
set_option maxRecDepth 100000 in
theorem cd_X1_forked : cdW mX1_forked ∈ gt := gt_at 595 rfl rfl
theorem mv_X1_forked : MV mX1_forked 1 := ⟨gt_at 593 (by decide +kernel) (by decide +kernel), gt_at 594 (by decide +kernel) (by decide +kernel), gt_at 62 (by decide +kernel) (by decide +kernel), cd_X1_forked, ⟨rfl, by decide +kernel, by decide +kernel, by decide +kernel⟩⟩
set_option maxRecDepth 100000 in
theorem cd_X1_paidRods : cdW mX1_paidRods ∈ gt := gt_at 481 rfl rfl
theorem mv_X1_paidRods : MV mX1_paidRods 0 := ⟨gt_at 479 (by decide +kernel) (by decide +kernel), gt_at 480 (by decide +kernel) (by decide +kernel), gt_at 62 (by decide +kernel) (by decide +kernel), cd_X1_paidRods, ⟨rfl, by decide +kernel, by decide +kernel, by decide +kernel⟩⟩
set_option maxRecDepth 100000 in
theorem cd_X2_layOut : cdW mX2_layOut ∈ gt := gt_at 622 rfl rfl
theorem mv_X2_layOut : MV mX2_layOut 1 := ⟨gt_at 620 (by decide +kernel) (by decide +kernel), gt_at 621 (by decide +kernel) (by decide +kernel), gt_at 65 (by decide +kernel) (by decide +kernel), cd_X2_layOut, ⟨rfl, by decide +kernel, by decide +kernel, by decide +kernel⟩⟩
set_option maxRecDepth 100000 in
theorem cd_X2_layItem : cdW mX2_layItem ∈ gt := gt_at 637 rfl rfl
theorem mv_X2_layItem : MV mX2_layItem 1 := ⟨gt_at 636 (by decide +kernel) (by decide +kernel), gt_at 9 (by decide +kernel) (by decide +kernel), gt_at 65 (by decide +kernel) (by decide +kernel), cd_X2_layItem, ⟨rfl, by decide +kernel, by decide +kernel, by decide +kernel⟩⟩
set_option maxRecDepth 100000 in
theorem cd_X2_layRod : cdW mX2_layRod ∈ gt := gt_at 704 rfl rfl
theorem mv_X2_layRod : MV mX2_layRod 2 := ⟨gt_at 703 (by decide +kernel) (by decide +kernel), gt_at 12 (by decide +kernel) (by decide +kernel), gt_at 65 (by decide +kernel) (by decide +kernel), cd_X2_layRod, ⟨rfl, by decide +kernel, by decide +kernel, by decide +kernel⟩⟩
set_option maxRecDepth 100000 in
theorem cd_X2_layCloud : cdW mX2_layCloud ∈ gt := gt_at 728 rfl rfl
theorem mv_X2_layCloud : MV mX2_layCloud 1 := ⟨gt_at 727 (by decide +kernel) (by decide +kernel), gt_at 16 (by decide +kernel) (by decide +kernel), gt_at 65 (by decide +kernel) (by decide +kernel), cd_X2_layCloud, ⟨rfl, by decide +kernel, by decide +kernel, by decide +kernel⟩⟩
set_option maxRecDepth 100000 in
theorem cd_X2_takeCloudPart : cdW mX2_takeCloudPart ∈ gt := gt_at 732 rfl rfl
theorem mv_X2_takeCloudPart : MV mX2_takeCloudPart 2 := ⟨gt_at 731 (by decide +kernel) (by decide +kernel), gt_at 17 (by decide +kernel) (by decide +kernel), gt_at 65 (by decide +kernel) (by decide +kernel), cd_X2_takeCloudPart, ⟨rfl, by decide +kernel, by decide +kernel, by decide +kernel⟩⟩
set_option maxRecDepth 100000 in
theorem cd_X2_kindTold : cdW mX2_kindTold ∈ gt := gt_at 641 rfl rfl
theorem mv_X2_kindTold : MV mX2_kindTold 0 := ⟨gt_at 640 (by decide +kernel) (by decide +kernel), gt_at 10 (by decide +kernel) (by decide +kernel), gt_at 65 (by decide +kernel) (by decide +kernel), cd_X2_kindTold, ⟨rfl, by decide +kernel, by decide +kernel, by decide +kernel⟩⟩
set_option maxRecDepth 100000 in
theorem cd_X2_isWord : cdW mX2_isWord ∈ gt := gt_at 646 rfl rfl
theorem mv_X2_isWord : MV mX2_isWord 1 := ⟨gt_at 645 (by decide +kernel) (by decide +kernel), gt_at 11 (by decide +kernel) (by decide +kernel), gt_at 65 (by decide +kernel) (by decide +kernel), cd_X2_isWord, ⟨rfl, by decide +kernel, by decide +kernel, by decide +kernel⟩⟩
set_option maxRecDepth 100000 in
theorem cd_X2_takeWord : cdW mX2_takeWord ∈ gt := gt_at 710 rfl rfl
theorem mv_X2_takeWord : MV mX2_takeWord 1 := ⟨gt_at 709 (by decide +kernel) (by decide +kernel), gt_at 13 (by decide +kernel) (by decide +kernel), gt_at 65 (by decide +kernel) (by decide +kernel), cd_X2_takeWord, ⟨rfl, by decide +kernel, by decide +kernel, by decide +kernel⟩⟩
set_option maxRecDepth 100000 in
theorem cd_X2_isNumber : cdW mX2_isNumber ∈ gt := gt_at 714 rfl rfl
theorem mv_X2_isNumber : MV mX2_isNumber 2 := ⟨gt_at 713 (by decide +kernel) (by decide +kernel), gt_at 14 (by decide +kernel) (by decide +kernel), gt_at 65 (by decide +kernel) (by decide +kernel), cd_X2_isNumber, ⟨rfl, by decide +kernel, by decide +kernel, by decide +kernel⟩⟩
set_option maxRecDepth 100000 in
theorem cd_X2_takeNumber : cdW mX2_takeNumber ∈ gt := gt_at 719 rfl rfl
theorem mv_X2_takeNumber : MV mX2_takeNumber 0 := ⟨gt_at 718 (by decide +kernel) (by decide +kernel), gt_at 15 (by decide +kernel) (by decide +kernel), gt_at 65 (by decide +kernel) (by decide +kernel), cd_X2_takeNumber, ⟨rfl, by decide +kernel, by decide +kernel, by decide +kernel⟩⟩
set_option maxRecDepth 100000 in
theorem cd_X2_goToToken : cdW mX2_goToToken ∈ gt := gt_at 626 rfl rfl
theorem mv_X2_goToToken : MV mX2_goToToken 0 := ⟨gt_at 625 (by decide +kernel) (by decide +kernel), gt_at 7 (by decide +kernel) (by decide +kernel), gt_at 65 (by decide +kernel) (by decide +kernel), cd_X2_goToToken, ⟨rfl, by decide +kernel, by decide +kernel, by decide +kernel⟩⟩
set_option maxRecDepth 100000 in
theorem cd_X2_sortOf : cdW mX2_sortOf ∈ gt := gt_at 629 rfl rfl
theorem ms_X2_sortOf : MS mX2_sortOf 1 := ⟨gt_at 628 (by decide +kernel) (by decide +kernel), gt_at 65 (by decide +kernel) (by decide +kernel), cd_X2_sortOf, ⟨rfl, by decide +kernel, by decide +kernel, by decide +kernel⟩⟩
set_option maxRecDepth 100000 in
theorem cd_X2_numberTold : cdW mX2_numberTold ∈ gt := gt_at 633 rfl rfl
theorem mv_X2_numberTold : MV mX2_numberTold 0 := ⟨gt_at 632 (by decide +kernel) (by decide +kernel), gt_at 8 (by decide +kernel) (by decide +kernel), gt_at 65 (by decide +kernel) (by decide +kernel), cd_X2_numberTold, ⟨rfl, by decide +kernel, by decide +kernel, by decide +kernel⟩⟩
set_option maxRecDepth 100000 in
theorem cd_X3_becomeNew : cdW mX3_becomeNew ∈ gt := gt_at 325 rfl rfl
theorem mv_X3_becomeNew : MV mX3_becomeNew 2 := ⟨gt_at 323 (by decide +kernel) (by decide +kernel), gt_at 324 (by decide +kernel) (by decide +kernel), gt_at 64 (by decide +kernel) (by decide +kernel), cd_X3_becomeNew, ⟨rfl, by decide +kernel, by decide +kernel, by decide +kernel⟩⟩
set_option maxRecDepth 100000 in
theorem cd_X3_takeFrom : cdW mX3_takeFrom ∈ gt := gt_at 502 rfl rfl
theorem mv_X3_takeFrom : MV mX3_takeFrom 1 := ⟨gt_at 500 (by decide +kernel) (by decide +kernel), gt_at 501 (by decide +kernel) (by decide +kernel), gt_at 64 (by decide +kernel) (by decide +kernel), cd_X3_takeFrom, ⟨rfl, by decide +kernel, by decide +kernel, by decide +kernel⟩⟩
set_option maxRecDepth 100000 in
theorem cd_X3_part : cdW mX3_part ∈ gt := gt_at 364 rfl rfl
theorem mv_X3_part : MV mX3_part 1 := ⟨gt_at 362 (by decide +kernel) (by decide +kernel), gt_at 363 (by decide +kernel) (by decide +kernel), gt_at 64 (by decide +kernel) (by decide +kernel), cd_X3_part, ⟨rfl, by decide +kernel, by decide +kernel, by decide +kernel⟩⟩
set_option maxRecDepth 100000 in
theorem cd_X3_isOf : cdW mX3_isOf ∈ gt := gt_at 391 rfl rfl
theorem mv_X3_isOf : MV mX3_isOf 1 := ⟨gt_at 389 (by decide +kernel) (by decide +kernel), gt_at 390 (by decide +kernel) (by decide +kernel), gt_at 64 (by decide +kernel) (by decide +kernel), cd_X3_isOf, ⟨rfl, by decide +kernel, by decide +kernel, by decide +kernel⟩⟩
set_option maxRecDepth 100000 in
theorem cd_X3_drawsFrom : cdW mX3_drawsFrom ∈ gt := gt_at 337 rfl rfl
theorem mv_X3_drawsFrom : MV mX3_drawsFrom 1 := ⟨gt_at 335 (by decide +kernel) (by decide +kernel), gt_at 336 (by decide +kernel) (by decide +kernel), gt_at 64 (by decide +kernel) (by decide +kernel), cd_X3_drawsFrom, ⟨rfl, by decide +kernel, by decide +kernel, by decide +kernel⟩⟩
set_option maxRecDepth 100000 in
theorem cd_X3_owesFor : cdW mX3_owesFor ∈ gt := gt_at 351 rfl rfl
theorem mv_X3_owesFor : MV mX3_owesFor 2 := ⟨gt_at 349 (by decide +kernel) (by decide +kernel), gt_at 350 (by decide +kernel) (by decide +kernel), gt_at 64 (by decide +kernel) (by decide +kernel), cd_X3_owesFor, ⟨rfl, by decide +kernel, by decide +kernel, by decide +kernel⟩⟩
set_option maxRecDepth 100000 in
theorem cd_X3_paidHours : cdW mX3_paidHours ∈ gt := gt_at 359 rfl rfl
theorem mv_X3_paidHours : MV mX3_paidHours 0 := ⟨gt_at 357 (by decide +kernel) (by decide +kernel), gt_at 358 (by decide +kernel) (by decide +kernel), gt_at 64 (by decide +kernel) (by decide +kernel), cd_X3_paidHours, ⟨rfl, by decide +kernel, by decide +kernel, by decide +kernel⟩⟩
set_option maxRecDepth 100000 in
theorem cd_X3_isPaidAt : cdW mX3_isPaidAt ∈ gt := gt_at 355 rfl rfl
theorem mv_X3_isPaidAt : MV mX3_isPaidAt 1 := ⟨gt_at 353 (by decide +kernel) (by decide +kernel), gt_at 354 (by decide +kernel) (by decide +kernel), gt_at 64 (by decide +kernel) (by decide +kernel), cd_X3_isPaidAt, ⟨rfl, by decide +kernel, by decide +kernel, by decide +kernel⟩⟩
set_option maxRecDepth 100000 in
theorem cd_X4_mayHave : cdW mX4_mayHave ∈ gt := gt_at 751 rfl rfl
theorem ms_X4_mayHave : MS mX4_mayHave 1 := ⟨gt_at 750 (by decide +kernel) (by decide +kernel), gt_at 67 (by decide +kernel) (by decide +kernel), cd_X4_mayHave, ⟨rfl, by decide +kernel, by decide +kernel, by decide +kernel⟩⟩
set_option maxRecDepth 100000 in
theorem cd_X4_layNew : cdW mX4_layNew ∈ gt := gt_at 756 rfl rfl
theorem mv_X4_layNew : MV mX4_layNew 2 := ⟨gt_at 754 (by decide +kernel) (by decide +kernel), gt_at 755 (by decide +kernel) (by decide +kernel), gt_at 67 (by decide +kernel) (by decide +kernel), cd_X4_layNew, ⟨rfl, by decide +kernel, by decide +kernel, by decide +kernel⟩⟩
set_option maxRecDepth 100000 in
theorem cd_X4_isMissing : cdW mX4_isMissing ∈ gt := gt_at 768 rfl rfl
theorem mv_X4_isMissing : MV mX4_isMissing 0 := ⟨gt_at 766 (by decide +kernel) (by decide +kernel), gt_at 767 (by decide +kernel) (by decide +kernel), gt_at 67 (by decide +kernel) (by decide +kernel), cd_X4_isMissing, ⟨rfl, by decide +kernel, by decide +kernel, by decide +kernel⟩⟩
set_option maxRecDepth 100000 in
theorem cd_X4_put : cdW mX4_put ∈ gt := gt_at 773 rfl rfl
theorem mv_X4_put : MV mX4_put 2 := ⟨gt_at 771 (by decide +kernel) (by decide +kernel), gt_at 772 (by decide +kernel) (by decide +kernel), gt_at 67 (by decide +kernel) (by decide +kernel), cd_X4_put, ⟨rfl, by decide +kernel, by decide +kernel, by decide +kernel⟩⟩
set_option maxRecDepth 100000 in
theorem cd_X4_has : cdW mX4_has ∈ gt := gt_at 781 rfl rfl
theorem mv_X4_has : MV mX4_has 2 := ⟨gt_at 779 (by decide +kernel) (by decide +kernel), gt_at 780 (by decide +kernel) (by decide +kernel), gt_at 67 (by decide +kernel) (by decide +kernel), cd_X4_has, ⟨rfl, by decide +kernel, by decide +kernel, by decide +kernel⟩⟩
set_option maxRecDepth 100000 in
theorem cd_X5_add : cdW mX5_add ∈ gt := gt_at 610 rfl rfl
theorem mv_X5_add : MV mX5_add 1 := ⟨gt_at 608 (by decide +kernel) (by decide +kernel), gt_at 609 (by decide +kernel) (by decide +kernel), gt_at 66 (by decide +kernel) (by decide +kernel), cd_X5_add, ⟨rfl, by decide +kernel, by decide +kernel, by decide +kernel⟩⟩
set_option maxRecDepth 100000 in
theorem cd_X6_cloud : cdW mX6_cloud ∈ gt := gt_at 274 rfl rfl
theorem mv_X6_cloud : MV mX6_cloud 2 := ⟨gt_at 272 (by decide +kernel) (by decide +kernel), gt_at 273 (by decide +kernel) (by decide +kernel), gt_at 61 (by decide +kernel) (by decide +kernel), cd_X6_cloud, ⟨rfl, by decide +kernel, by decide +kernel, by decide +kernel⟩⟩
set_option maxRecDepth 100000 in
theorem cd_X6_cloudOf : cdW mX6_cloudOf ∈ gt := gt_at 302 rfl rfl
theorem mv_X6_cloudOf : MV mX6_cloudOf 1 := ⟨gt_at 300 (by decide +kernel) (by decide +kernel), gt_at 301 (by decide +kernel) (by decide +kernel), gt_at 61 (by decide +kernel) (by decide +kernel), cd_X6_cloudOf, ⟨rfl, by decide +kernel, by decide +kernel, by decide +kernel⟩⟩
set_option maxRecDepth 100000 in
theorem cd_X6_rod : cdW mX6_rod ∈ gt := gt_at 306 rfl rfl
theorem mv_X6_rod : MV mX6_rod 2 := ⟨gt_at 304 (by decide +kernel) (by decide +kernel), gt_at 305 (by decide +kernel) (by decide +kernel), gt_at 61 (by decide +kernel) (by decide +kernel), cd_X6_rod, ⟨rfl, by decide +kernel, by decide +kernel, by decide +kernel⟩⟩
set_option maxRecDepth 100000 in
theorem cd_X6_of : cdW mX6_of ∈ gt := gt_at 329 rfl rfl
theorem mv_X6_of : MV mX6_of 2 := ⟨gt_at 327 (by decide +kernel) (by decide +kernel), gt_at 328 (by decide +kernel) (by decide +kernel), gt_at 61 (by decide +kernel) (by decide +kernel), cd_X6_of, ⟨rfl, by decide +kernel, by decide +kernel, by decide +kernel⟩⟩
set_option maxRecDepth 100000 in
theorem cd_X6_set : cdW mX6_set ∈ gt := gt_at 368 rfl rfl
theorem mv_X6_set : MV mX6_set 3 := ⟨gt_at 366 (by decide +kernel) (by decide +kernel), gt_at 367 (by decide +kernel) (by decide +kernel), gt_at 61 (by decide +kernel) (by decide +kernel), cd_X6_set, ⟨rfl, by decide +kernel, by decide +kernel, by decide +kernel⟩⟩
set_option maxRecDepth 100000 in
theorem cd_X6_pays : cdW mX6_pays ∈ gt := gt_at 375 rfl rfl
theorem mv_X6_pays : MV mX6_pays 3 := ⟨gt_at 373 (by decide +kernel) (by decide +kernel), gt_at 374 (by decide +kernel) (by decide +kernel), gt_at 61 (by decide +kernel) (by decide +kernel), cd_X6_pays, ⟨rfl, by decide +kernel, by decide +kernel, by decide +kernel⟩⟩
set_option maxRecDepth 100000 in
theorem cd_X6_turn : cdW mX6_turn ∈ gt := gt_at 383 rfl rfl
theorem mv_X6_turn : MV mX6_turn 2 := ⟨gt_at 381 (by decide +kernel) (by decide +kernel), gt_at 382 (by decide +kernel) (by decide +kernel), gt_at 61 (by decide +kernel) (by decide +kernel), cd_X6_turn, ⟨rfl, by decide +kernel, by decide +kernel, by decide +kernel⟩⟩
set_option maxRecDepth 100000 in
theorem cd_X6_as : cdW mX6_as ∈ gt := gt_at 387 rfl rfl
theorem mv_X6_as : MV mX6_as 2 := ⟨gt_at 385 (by decide +kernel) (by decide +kernel), gt_at 386 (by decide +kernel) (by decide +kernel), gt_at 61 (by decide +kernel) (by decide +kernel), cd_X6_as, ⟨rfl, by decide +kernel, by decide +kernel, by decide +kernel⟩⟩
set_option maxRecDepth 100000 in
theorem cd_X6_down : cdW mX6_down ∈ gt := gt_at 396 rfl rfl
theorem mv_X6_down : MV mX6_down 1 := ⟨gt_at 394 (by decide +kernel) (by decide +kernel), gt_at 395 (by decide +kernel) (by decide +kernel), gt_at 61 (by decide +kernel) (by decide +kernel), cd_X6_down, ⟨rfl, by decide +kernel, by decide +kernel, by decide +kernel⟩⟩
set_option maxRecDepth 100000 in
theorem cd_X6_settle : cdW mX6_settle ∈ gt := gt_at 404 rfl rfl
theorem mv_X6_settle : MV mX6_settle 1 := ⟨gt_at 402 (by decide +kernel) (by decide +kernel), gt_at 403 (by decide +kernel) (by decide +kernel), gt_at 61 (by decide +kernel) (by decide +kernel), cd_X6_settle, ⟨rfl, by decide +kernel, by decide +kernel, by decide +kernel⟩⟩
set_option maxRecDepth 100000 in
theorem cd_X6_hours : cdW mX6_hours ∈ gt := gt_at 408 rfl rfl
theorem mv_X6_hours : MV mX6_hours 1 := ⟨gt_at 406 (by decide +kernel) (by decide +kernel), gt_at 407 (by decide +kernel) (by decide +kernel), gt_at 61 (by decide +kernel) (by decide +kernel), cd_X6_hours, ⟨rfl, by decide +kernel, by decide +kernel, by decide +kernel⟩⟩
set_option maxRecDepth 100000 in
theorem cd_X6_days : cdW mX6_days ∈ gt := gt_at 464 rfl rfl
theorem mv_X6_days : MV mX6_days 1 := ⟨gt_at 462 (by decide +kernel) (by decide +kernel), gt_at 463 (by decide +kernel) (by decide +kernel), gt_at 61 (by decide +kernel) (by decide +kernel), cd_X6_days, ⟨rfl, by decide +kernel, by decide +kernel, by decide +kernel⟩⟩
set_option maxRecDepth 100000 in
theorem cd_X6_seed : cdW mX6_seed ∈ gt := gt_at 473 rfl rfl
theorem mv_X6_seed : MV mX6_seed 1 := ⟨gt_at 471 (by decide +kernel) (by decide +kernel), gt_at 472 (by decide +kernel) (by decide +kernel), gt_at 61 (by decide +kernel) (by decide +kernel), cd_X6_seed, ⟨rfl, by decide +kernel, by decide +kernel, by decide +kernel⟩⟩
set_option maxRecDepth 100000 in
theorem cd_X6_now : cdW mX6_now ∈ gt := gt_at 477 rfl rfl
theorem mv_X6_now : MV mX6_now 1 := ⟨gt_at 475 (by decide +kernel) (by decide +kernel), gt_at 476 (by decide +kernel) (by decide +kernel), gt_at 61 (by decide +kernel) (by decide +kernel), cd_X6_now, ⟨rfl, by decide +kernel, by decide +kernel, by decide +kernel⟩⟩
set_option maxRecDepth 100000 in
theorem cd_X6_on : cdW mX6_on ∈ gt := gt_at 486 rfl rfl
theorem mv_X6_on : MV mX6_on 3 := ⟨gt_at 484 (by decide +kernel) (by decide +kernel), gt_at 485 (by decide +kernel) (by decide +kernel), gt_at 61 (by decide +kernel) (by decide +kernel), cd_X6_on, ⟨rfl, by decide +kernel, by decide +kernel, by decide +kernel⟩⟩
set_option maxRecDepth 100000 in
theorem cd_X6_next : cdW mX6_next ∈ gt := gt_at 506 rfl rfl
theorem mv_X6_next : MV mX6_next 1 := ⟨gt_at 504 (by decide +kernel) (by decide +kernel), gt_at 505 (by decide +kernel) (by decide +kernel), gt_at 61 (by decide +kernel) (by decide +kernel), cd_X6_next, ⟨rfl, by decide +kernel, by decide +kernel, by decide +kernel⟩⟩
set_option maxRecDepth 100000 in
theorem cd_X6_struck : cdW mX6_struck ∈ gt := gt_at 518 rfl rfl
theorem mv_X6_struck : MV mX6_struck 1 := ⟨gt_at 516 (by decide +kernel) (by decide +kernel), gt_at 517 (by decide +kernel) (by decide +kernel), gt_at 61 (by decide +kernel) (by decide +kernel), cd_X6_struck, ⟨rfl, by decide +kernel, by decide +kernel, by decide +kernel⟩⟩
set_option maxRecDepth 100000 in
theorem cd_X6_reach : cdW mX6_reach ∈ gt := gt_at 522 rfl rfl
theorem mv_X6_reach : MV mX6_reach 1 := ⟨gt_at 520 (by decide +kernel) (by decide +kernel), gt_at 521 (by decide +kernel) (by decide +kernel), gt_at 61 (by decide +kernel) (by decide +kernel), cd_X6_reach, ⟨rfl, by decide +kernel, by decide +kernel, by decide +kernel⟩⟩
set_option maxRecDepth 100000 in
theorem cd_X6_steals : cdW mX6_steals ∈ gt := gt_at 526 rfl rfl
theorem mv_X6_steals : MV mX6_steals 1 := ⟨gt_at 524 (by decide +kernel) (by decide +kernel), gt_at 525 (by decide +kernel) (by decide +kernel), gt_at 61 (by decide +kernel) (by decide +kernel), cd_X6_steals, ⟨rfl, by decide +kernel, by decide +kernel, by decide +kernel⟩⟩
set_option maxRecDepth 100000 in
theorem cd_X6_ducks : cdW mX6_ducks ∈ gt := gt_at 534 rfl rfl
theorem mv_X6_ducks : MV mX6_ducks 1 := ⟨gt_at 532 (by decide +kernel) (by decide +kernel), gt_at 533 (by decide +kernel) (by decide +kernel), gt_at 61 (by decide +kernel) (by decide +kernel), cd_X6_ducks, ⟨rfl, by decide +kernel, by decide +kernel, by decide +kernel⟩⟩
set_option maxRecDepth 100000 in
theorem cd_X6_place : cdW mX6_place ∈ gt := gt_at 538 rfl rfl
theorem mv_X6_place : MV mX6_place 2 := ⟨gt_at 536 (by decide +kernel) (by decide +kernel), gt_at 537 (by decide +kernel) (by decide +kernel), gt_at 61 (by decide +kernel) (by decide +kernel), cd_X6_place, ⟨rfl, by decide +kernel, by decide +kernel, by decide +kernel⟩⟩
set_option maxRecDepth 100000 in
theorem cd_X6_thief : cdW mX6_thief ∈ gt := gt_at 542 rfl rfl
theorem mv_X6_thief : MV mX6_thief 2 := ⟨gt_at 540 (by decide +kernel) (by decide +kernel), gt_at 541 (by decide +kernel) (by decide +kernel), gt_at 61 (by decide +kernel) (by decide +kernel), cd_X6_thief, ⟨rfl, by decide +kernel, by decide +kernel, by decide +kernel⟩⟩
set_option maxRecDepth 100000 in
theorem cd_X6_kind : cdW mX6_kind ∈ gt := gt_at 546 rfl rfl
theorem mv_X6_kind : MV mX6_kind 2 := ⟨gt_at 544 (by decide +kernel) (by decide +kernel), gt_at 545 (by decide +kernel) (by decide +kernel), gt_at 61 (by decide +kernel) (by decide +kernel), cd_X6_kind, ⟨rfl, by decide +kernel, by decide +kernel, by decide +kernel⟩⟩
set_option maxRecDepth 100000 in
theorem cd_X6_clocks : cdW mX6_clocks ∈ gt := gt_at 550 rfl rfl
theorem mv_X6_clocks : MV mX6_clocks 2 := ⟨gt_at 548 (by decide +kernel) (by decide +kernel), gt_at 549 (by decide +kernel) (by decide +kernel), gt_at 61 (by decide +kernel) (by decide +kernel), cd_X6_clocks, ⟨rfl, by decide +kernel, by decide +kernel, by decide +kernel⟩⟩
set_option maxRecDepth 100000 in
theorem cd_X6_covers : cdW mX6_covers ∈ gt := gt_at 564 rfl rfl
theorem mv_X6_covers : MV mX6_covers 2 := ⟨gt_at 562 (by decide +kernel) (by decide +kernel), gt_at 563 (by decide +kernel) (by decide +kernel), gt_at 61 (by decide +kernel) (by decide +kernel), cd_X6_covers, ⟨rfl, by decide +kernel, by decide +kernel, by decide +kernel⟩⟩
set_option maxRecDepth 100000 in
theorem cd_X6_from : cdW mX6_from ∈ gt := gt_at 579 rfl rfl
theorem mv_X6_from : MV mX6_from 2 := ⟨gt_at 577 (by decide +kernel) (by decide +kernel), gt_at 578 (by decide +kernel) (by decide +kernel), gt_at 61 (by decide +kernel) (by decide +kernel), cd_X6_from, ⟨rfl, by decide +kernel, by decide +kernel, by decide +kernel⟩⟩
set_option maxRecDepth 100000 in
theorem cd_X6_strays : cdW mX6_strays ∈ gt := gt_at 583 rfl rfl
theorem mv_X6_strays : MV mX6_strays 1 := ⟨gt_at 581 (by decide +kernel) (by decide +kernel), gt_at 582 (by decide +kernel) (by decide +kernel), gt_at 61 (by decide +kernel) (by decide +kernel), cd_X6_strays, ⟨rfl, by decide +kernel, by decide +kernel, by decide +kernel⟩⟩
set_option maxRecDepth 100000 in
theorem cd_X6_fork : cdW mX6_fork ∈ gt := gt_at 587 rfl rfl
theorem mv_X6_fork : MV mX6_fork 2 := ⟨gt_at 585 (by decide +kernel) (by decide +kernel), gt_at 586 (by decide +kernel) (by decide +kernel), gt_at 61 (by decide +kernel) (by decide +kernel), cd_X6_fork, ⟨rfl, by decide +kernel, by decide +kernel, by decide +kernel⟩⟩
set_option maxRecDepth 100000 in
theorem cd_X6_share : cdW mX6_share ∈ gt := gt_at 602 rfl rfl
theorem mv_X6_share : MV mX6_share 1 := ⟨gt_at 600 (by decide +kernel) (by decide +kernel), gt_at 601 (by decide +kernel) (by decide +kernel), gt_at 61 (by decide +kernel) (by decide +kernel), cd_X6_share, ⟨rfl, by decide +kernel, by decide +kernel, by decide +kernel⟩⟩
set_option maxRecDepth 100000 in
theorem cd_X6_feed : cdW mX6_feed ∈ gt := gt_at 606 rfl rfl
theorem mv_X6_feed : MV mX6_feed 2 := ⟨gt_at 604 (by decide +kernel) (by decide +kernel), gt_at 605 (by decide +kernel) (by decide +kernel), gt_at 61 (by decide +kernel) (by decide +kernel), cd_X6_feed, ⟨rfl, by decide +kernel, by decide +kernel, by decide +kernel⟩⟩
set_option maxRecDepth 100000 in
theorem cd_X6_wipe : cdW mX6_wipe ∈ gt := gt_at 614 rfl rfl
theorem mv_X6_wipe : MV mX6_wipe 0 := ⟨gt_at 612 (by decide +kernel) (by decide +kernel), gt_at 613 (by decide +kernel) (by decide +kernel), gt_at 61 (by decide +kernel) (by decide +kernel), cd_X6_wipe, ⟨rfl, by decide +kernel, by decide +kernel, by decide +kernel⟩⟩
set_option maxRecDepth 100000 in
theorem cd_X6_plain : cdW mX6_plain ∈ gt := gt_at 618 rfl rfl
theorem mv_X6_plain : MV mX6_plain 0 := ⟨gt_at 616 (by decide +kernel) (by decide +kernel), gt_at 617 (by decide +kernel) (by decide +kernel), gt_at 61 (by decide +kernel) (by decide +kernel), cd_X6_plain, ⟨rfl, by decide +kernel, by decide +kernel, by decide +kernel⟩⟩
set_option maxRecDepth 100000 in
theorem cd_X6_sheet : cdW mX6_sheet ∈ gt := gt_at 745 rfl rfl
theorem mv_X6_sheet : MV mX6_sheet 3 := ⟨gt_at 743 (by decide +kernel) (by decide +kernel), gt_at 744 (by decide +kernel) (by decide +kernel), gt_at 61 (by decide +kernel) (by decide +kernel), cd_X6_sheet, ⟨rfl, by decide +kernel, by decide +kernel, by decide +kernel⟩⟩
set_option maxRecDepth 100000 in
theorem cd_X6_write : cdW mX6_write ∈ gt := gt_at 760 rfl rfl
theorem mv_X6_write : MV mX6_write 3 := ⟨gt_at 758 (by decide +kernel) (by decide +kernel), gt_at 759 (by decide +kernel) (by decide +kernel), gt_at 61 (by decide +kernel) (by decide +kernel), cd_X6_write, ⟨rfl, by decide +kernel, by decide +kernel, by decide +kernel⟩⟩
set_option maxRecDepth 100000 in
theorem cd_X6_copy : cdW mX6_copy ∈ gt := gt_at 777 rfl rfl
theorem mv_X6_copy : MV mX6_copy 5 := ⟨gt_at 775 (by decide +kernel) (by decide +kernel), gt_at 776 (by decide +kernel) (by decide +kernel), gt_at 61 (by decide +kernel) (by decide +kernel), cd_X6_copy, ⟨rfl, by decide +kernel, by decide +kernel, by decide +kernel⟩⟩
set_option maxRecDepth 100000 in
theorem cd_X6_lays : cdW mX6_lays ∈ gt := gt_at 788 rfl rfl
theorem mv_X6_lays : MV mX6_lays 1 := ⟨gt_at 786 (by decide +kernel) (by decide +kernel), gt_at 787 (by decide +kernel) (by decide +kernel), gt_at 61 (by decide +kernel) (by decide +kernel), cd_X6_lays, ⟨rfl, by decide +kernel, by decide +kernel, by decide +kernel⟩⟩
set_option maxRecDepth 100000 in
theorem cd_X6_book : cdW mX6_book ∈ gt := gt_at 793 rfl rfl
theorem mv_X6_book : MV mX6_book 2 := ⟨gt_at 791 (by decide +kernel) (by decide +kernel), gt_at 792 (by decide +kernel) (by decide +kernel), gt_at 61 (by decide +kernel) (by decide +kernel), cd_X6_book, ⟨rfl, by decide +kernel, by decide +kernel, by decide +kernel⟩⟩
set_option maxRecDepth 100000 in
theorem cd_X6_read : cdW mX6_read ∈ gt := gt_at 801 rfl rfl
theorem mv_X6_read : MV mX6_read 2 := ⟨gt_at 799 (by decide +kernel) (by decide +kernel), gt_at 800 (by decide +kernel) (by decide +kernel), gt_at 61 (by decide +kernel) (by decide +kernel), cd_X6_read, ⟨rfl, by decide +kernel, by decide +kernel, by decide +kernel⟩⟩
set_option maxRecDepth 100000 in
theorem cd_X6_image : cdW mX6_image ∈ gt := gt_at 812 rfl rfl
theorem mv_X6_image : MV mX6_image 0 := ⟨gt_at 810 (by decide +kernel) (by decide +kernel), gt_at 811 (by decide +kernel) (by decide +kernel), gt_at 61 (by decide +kernel) (by decide +kernel), cd_X6_image, ⟨rfl, by decide +kernel, by decide +kernel, by decide +kernel⟩⟩
set_option maxRecDepth 100000 in
theorem cd_X6_undo : cdW mX6_undo ∈ gt := gt_at 816 rfl rfl
theorem mv_X6_undo : MV mX6_undo 0 := ⟨gt_at 814 (by decide +kernel) (by decide +kernel), gt_at 815 (by decide +kernel) (by decide +kernel), gt_at 61 (by decide +kernel) (by decide +kernel), cd_X6_undo, ⟨rfl, by decide +kernel, by decide +kernel, by decide +kernel⟩⟩
set_option maxRecDepth 100000 in
theorem cd_X6_tear : cdW mX6_tear ∈ gt := gt_at 820 rfl rfl
theorem mv_X6_tear : MV mX6_tear 0 := ⟨gt_at 818 (by decide +kernel) (by decide +kernel), gt_at 819 (by decide +kernel) (by decide +kernel), gt_at 61 (by decide +kernel) (by decide +kernel), cd_X6_tear, ⟨rfl, by decide +kernel, by decide +kernel, by decide +kernel⟩⟩
set_option maxRecDepth 100000 in
theorem cd_X6_count : cdW mX6_count ∈ gt := gt_at 824 rfl rfl
theorem mv_X6_count : MV mX6_count 1 := ⟨gt_at 822 (by decide +kernel) (by decide +kernel), gt_at 823 (by decide +kernel) (by decide +kernel), gt_at 61 (by decide +kernel) (by decide +kernel), cd_X6_count, ⟨rfl, by decide +kernel, by decide +kernel, by decide +kernel⟩⟩
set_option maxRecDepth 100000 in
theorem cd_X6_status : cdW mX6_status ∈ gt := gt_at 833 rfl rfl
theorem mv_X6_status : MV mX6_status 1 := ⟨gt_at 831 (by decide +kernel) (by decide +kernel), gt_at 832 (by decide +kernel) (by decide +kernel), gt_at 61 (by decide +kernel) (by decide +kernel), cd_X6_status, ⟨rfl, by decide +kernel, by decide +kernel, by decide +kernel⟩⟩
set_option maxRecDepth 100000 in
theorem cd_X6_tell : cdW mX6_tell ∈ gt := gt_at 289 rfl rfl
theorem mv_X6_tell : MV mX6_tell 1 := ⟨gt_at 288 (by decide +kernel) (by decide +kernel), gt_at 0 (by decide +kernel) (by decide +kernel), gt_at 61 (by decide +kernel) (by decide +kernel), cd_X6_tell, ⟨rfl, by decide +kernel, by decide +kernel, by decide +kernel⟩⟩
set_option maxRecDepth 100000 in
theorem cd_X6_isWithin : cdW mX6_isWithin ∈ gt := gt_at 280 rfl rfl
theorem ms_X6_isWithin : MS mX6_isWithin 3 := ⟨gt_at 279 (by decide +kernel) (by decide +kernel), gt_at 61 (by decide +kernel) (by decide +kernel), cd_X6_isWithin, ⟨rfl, by decide +kernel, by decide +kernel, by decide +kernel⟩⟩
set_option maxRecDepth 100000 in
theorem cd_X6_isRod : cdW mX6_isRod ∈ gt := gt_at 333 rfl rfl
theorem mv_X6_isRod : MV mX6_isRod 1 := ⟨gt_at 332 (by decide +kernel) (by decide +kernel), gt_at 1 (by decide +kernel) (by decide +kernel), gt_at 61 (by decide +kernel) (by decide +kernel), cd_X6_isRod, ⟨rfl, by decide +kernel, by decide +kernel, by decide +kernel⟩⟩
set_option maxRecDepth 100000 in
theorem cd_X6_isKind : cdW mX6_isKind ∈ gt := gt_at 309 rfl rfl
theorem ms_X6_isKind : MS mX6_isKind 1 := ⟨gt_at 308 (by decide +kernel) (by decide +kernel), gt_at 61 (by decide +kernel) (by decide +kernel), cd_X6_isKind, ⟨rfl, by decide +kernel, by decide +kernel, by decide +kernel⟩⟩
set_option maxRecDepth 100000 in
theorem cd_X6_isPlace : cdW mX6_isPlace ∈ gt := gt_at 312 rfl rfl
theorem ms_X6_isPlace : MS mX6_isPlace 1 := ⟨gt_at 311 (by decide +kernel) (by decide +kernel), gt_at 61 (by decide +kernel) (by decide +kernel), cd_X6_isPlace, ⟨rfl, by decide +kernel, by decide +kernel, by decide +kernel⟩⟩
set_option maxRecDepth 100000 in
theorem cd_X6_isHeight : cdW mX6_isHeight ∈ gt := gt_at 371 rfl rfl
theorem ms_X6_isHeight : MS mX6_isHeight 1 := ⟨gt_at 370 (by decide +kernel) (by decide +kernel), gt_at 61 (by decide +kernel) (by decide +kernel), cd_X6_isHeight, ⟨rfl, by decide +kernel, by decide +kernel, by decide +kernel⟩⟩
set_option maxRecDepth 100000 in
theorem cd_X6_isClock : cdW mX6_isClock ∈ gt := gt_at 378 rfl rfl
theorem ms_X6_isClock : MS mX6_isClock 1 := ⟨gt_at 377 (by decide +kernel) (by decide +kernel), gt_at 61 (by decide +kernel) (by decide +kernel), cd_X6_isClock, ⟨rfl, by decide +kernel, by decide +kernel, by decide +kernel⟩⟩
set_option maxRecDepth 100000 in
theorem cd_X6_isSheet : cdW mX6_isSheet ∈ gt := gt_at 748 rfl rfl
theorem ms_X6_isSheet : MS mX6_isSheet 1 := ⟨gt_at 747 (by decide +kernel) (by decide +kernel), gt_at 61 (by decide +kernel) (by decide +kernel), cd_X6_isSheet, ⟨rfl, by decide +kernel, by decide +kernel, by decide +kernel⟩⟩
set_option maxRecDepth 100000 in
theorem cd_X6_findingOfSheet : cdW mX6_findingOfSheet ∈ gt := gt_at 764 rfl rfl
theorem mv_X6_findingOfSheet : MV mX6_findingOfSheet 1 := ⟨gt_at 763 (by decide +kernel) (by decide +kernel), gt_at 18 (by decide +kernel) (by decide +kernel), gt_at 61 (by decide +kernel) (by decide +kernel), cd_X6_findingOfSheet, ⟨rfl, by decide +kernel, by decide +kernel, by decide +kernel⟩⟩
set_option maxRecDepth 100000 in
theorem cd_X6_findingOfBook : cdW mX6_findingOfBook ∈ gt := gt_at 797 rfl rfl
theorem mv_X6_findingOfBook : MV mX6_findingOfBook 2 := ⟨gt_at 796 (by decide +kernel) (by decide +kernel), gt_at 19 (by decide +kernel) (by decide +kernel), gt_at 61 (by decide +kernel) (by decide +kernel), cd_X6_findingOfBook, ⟨rfl, by decide +kernel, by decide +kernel, by decide +kernel⟩⟩
set_option maxRecDepth 100000 in
theorem cd_X6_raiseGhost : cdW mX6_raiseGhost ∈ gt := gt_at 490 rfl rfl
theorem mv_X6_raiseGhost : MV mX6_raiseGhost 0 := ⟨gt_at 489 (by decide +kernel) (by decide +kernel), gt_at 3 (by decide +kernel) (by decide +kernel), gt_at 61 (by decide +kernel) (by decide +kernel), cd_X6_raiseGhost, ⟨rfl, by decide +kernel, by decide +kernel, by decide +kernel⟩⟩
set_option maxRecDepth 100000 in
theorem cd_X6_leadGhostToBolt : cdW mX6_leadGhostToBolt ∈ gt := gt_at 510 rfl rfl
theorem mv_X6_leadGhostToBolt : MV mX6_leadGhostToBolt 0 := ⟨gt_at 509 (by decide +kernel) (by decide +kernel), gt_at 4 (by decide +kernel) (by decide +kernel), gt_at 61 (by decide +kernel) (by decide +kernel), cd_X6_leadGhostToBolt, ⟨rfl, by decide +kernel, by decide +kernel, by decide +kernel⟩⟩
set_option maxRecDepth 100000 in
theorem cd_X6_isGhostStruck : cdW mX6_isGhostStruck ∈ gt := gt_at 530 rfl rfl
theorem mv_X6_isGhostStruck : MV mX6_isGhostStruck 2 := ⟨gt_at 529 (by decide +kernel) (by decide +kernel), gt_at 5 (by decide +kernel) (by decide +kernel), gt_at 61 (by decide +kernel) (by decide +kernel), cd_X6_isGhostStruck, ⟨rfl, by decide +kernel, by decide +kernel, by decide +kernel⟩⟩
set_option maxRecDepth 100000 in
theorem cd_X6_clocksOfBolts : cdW mX6_clocksOfBolts ∈ gt := gt_at 554 rfl rfl
theorem mv_X6_clocksOfBolts : MV mX6_clocksOfBolts 2 := ⟨gt_at 553 (by decide +kernel) (by decide +kernel), gt_at 6 (by decide +kernel) (by decide +kernel), gt_at 61 (by decide +kernel) (by decide +kernel), cd_X6_clocksOfBolts, ⟨rfl, by decide +kernel, by decide +kernel, by decide +kernel⟩⟩
set_option maxRecDepth 100000 in
theorem cd_X6_bestFrom : cdW mX6_bestFrom ∈ gt := gt_at 567 rfl rfl
theorem ms_X6_bestFrom : MS mX6_bestFrom 1 := ⟨gt_at 566 (by decide +kernel) (by decide +kernel), gt_at 61 (by decide +kernel) (by decide +kernel), cd_X6_bestFrom, ⟨rfl, by decide +kernel, by decide +kernel, by decide +kernel⟩⟩
set_option maxRecDepth 100000 in
theorem cd_X6_hoursToCover : cdW mX6_hoursToCover ∈ gt := gt_at 570 rfl rfl
theorem ms_X6_hoursToCover : MS mX6_hoursToCover 2 := ⟨gt_at 569 (by decide +kernel) (by decide +kernel), gt_at 61 (by decide +kernel) (by decide +kernel), cd_X6_hoursToCover, ⟨rfl, by decide +kernel, by decide +kernel, by decide +kernel⟩⟩
set_option maxRecDepth 100000 in
theorem cd_X6_commonDivisor : cdW mX6_commonDivisor ∈ gt := gt_at 598 rfl rfl
theorem ms_X6_commonDivisor : MS mX6_commonDivisor 2 := ⟨gt_at 597 (by decide +kernel) (by decide +kernel), gt_at 61 (by decide +kernel) (by decide +kernel), cd_X6_commonDivisor, ⟨rfl, by decide +kernel, by decide +kernel, by decide +kernel⟩⟩
set_option maxRecDepth 100000 in
theorem cd_X6_isBooked : cdW mX6_isBooked ∈ gt := gt_at 806 rfl rfl
theorem mv_X6_isBooked : MV mX6_isBooked 2 := ⟨gt_at 805 (by decide +kernel) (by decide +kernel), gt_at 20 (by decide +kernel) (by decide +kernel), gt_at 61 (by decide +kernel) (by decide +kernel), cd_X6_isBooked, ⟨rfl, by decide +kernel, by decide +kernel, by decide +kernel⟩⟩
set_option maxRecDepth 100000 in
theorem cd_X6_held : cdW mX6_held ∈ gt := gt_at 440 rfl rfl
theorem ms_X6_held : MS mX6_held 1 := ⟨gt_at 439 (by decide +kernel) (by decide +kernel), gt_at 61 (by decide +kernel) (by decide +kernel), cd_X6_held, ⟨rfl, by decide +kernel, by decide +kernel, by decide +kernel⟩⟩
set_option maxRecDepth 100000 in
theorem cd_X7_in : cdW mX7_in ∈ gt := gt_at 922 rfl rfl
theorem ms_X7_in : MS mX7_in 3 := ⟨gt_at 921 (by decide +kernel) (by decide +kernel), gt_at 68 (by decide +kernel) (by decide +kernel), cd_X7_in, ⟨rfl, by decide +kernel, by decide +kernel, by decide +kernel⟩⟩
set_option maxRecDepth 100000 in
theorem cd_X7_finds : cdW mX7_finds ∈ gt := gt_at 927 rfl rfl
theorem mv_X7_finds : MV mX7_finds 1 := ⟨gt_at 926 (by decide +kernel) (by decide +kernel), gt_at 21 (by decide +kernel) (by decide +kernel), gt_at 68 (by decide +kernel) (by decide +kernel), cd_X7_finds, ⟨rfl, by decide +kernel, by decide +kernel, by decide +kernel⟩⟩
set_option maxRecDepth 100000 in
theorem cd_X7_held : cdW mX7_held ∈ gt := gt_at 966 rfl rfl
theorem ms_X7_held : MS mX7_held 3 := ⟨gt_at 965 (by decide +kernel) (by decide +kernel), gt_at 68 (by decide +kernel) (by decide +kernel), cd_X7_held, ⟨rfl, by decide +kernel, by decide +kernel, by decide +kernel⟩⟩
set_option maxRecDepth 100000 in
theorem cd_X7_its : cdW mX7_its ∈ gt := gt_at 963 rfl rfl
theorem mv_X7_its : MV mX7_its 2 := ⟨gt_at 962 (by decide +kernel) (by decide +kernel), gt_at 26 (by decide +kernel) (by decide +kernel), gt_at 68 (by decide +kernel) (by decide +kernel), cd_X7_its, ⟨rfl, by decide +kernel, by decide +kernel, by decide +kernel⟩⟩
set_option maxRecDepth 100000 in
theorem cd_X7_puts : cdW mX7_puts ∈ gt := gt_at 947 rfl rfl
theorem mv_X7_puts : MV mX7_puts 3 := ⟨gt_at 946 (by decide +kernel) (by decide +kernel), gt_at 23 (by decide +kernel) (by decide +kernel), gt_at 68 (by decide +kernel) (by decide +kernel), cd_X7_puts, ⟨rfl, by decide +kernel, by decide +kernel, by decide +kernel⟩⟩
set_option maxRecDepth 100000 in
theorem cd_X7_isRod : cdW mX7_isRod ∈ gt := gt_at 955 rfl rfl
theorem mv_X7_isRod : MV mX7_isRod 1 := ⟨gt_at 954 (by decide +kernel) (by decide +kernel), gt_at 24 (by decide +kernel) (by decide +kernel), gt_at 68 (by decide +kernel) (by decide +kernel), cd_X7_isRod, ⟨rfl, by decide +kernel, by decide +kernel, by decide +kernel⟩⟩
set_option maxRecDepth 100000 in
theorem cd_X7_isPlace : cdW mX7_isPlace ∈ gt := gt_at 919 rfl rfl
theorem ms_X7_isPlace : MS mX7_isPlace 1 := ⟨gt_at 918 (by decide +kernel) (by decide +kernel), gt_at 68 (by decide +kernel) (by decide +kernel), cd_X7_isPlace, ⟨rfl, by decide +kernel, by decide +kernel, by decide +kernel⟩⟩
set_option maxRecDepth 100000 in
theorem cd_X7_isKind : cdW mX7_isKind ∈ gt := gt_at 938 rfl rfl
theorem ms_X7_isKind : MS mX7_isKind 1 := ⟨gt_at 937 (by decide +kernel) (by decide +kernel), gt_at 68 (by decide +kernel) (by decide +kernel), cd_X7_isKind, ⟨rfl, by decide +kernel, by decide +kernel, by decide +kernel⟩⟩
set_option maxRecDepth 100000 in
theorem cd_X7_cloud : cdW mX7_cloud ∈ gt := gt_at 916 rfl rfl
theorem mv_X7_cloud : MV mX7_cloud 2 := ⟨gt_at 914 (by decide +kernel) (by decide +kernel), gt_at 915 (by decide +kernel) (by decide +kernel), gt_at 68 (by decide +kernel) (by decide +kernel), cd_X7_cloud, ⟨rfl, by decide +kernel, by decide +kernel, by decide +kernel⟩⟩
set_option maxRecDepth 100000 in
theorem cd_X7_cloudOf : cdW mX7_cloudOf ∈ gt := gt_at 931 rfl rfl
theorem mv_X7_cloudOf : MV mX7_cloudOf 1 := ⟨gt_at 929 (by decide +kernel) (by decide +kernel), gt_at 930 (by decide +kernel) (by decide +kernel), gt_at 68 (by decide +kernel) (by decide +kernel), cd_X7_cloudOf, ⟨rfl, by decide +kernel, by decide +kernel, by decide +kernel⟩⟩
set_option maxRecDepth 100000 in
theorem cd_X7_addRod : cdW mX7_addRod ∈ gt := gt_at 943 rfl rfl
theorem mv_X7_addRod : MV mX7_addRod 5 := ⟨gt_at 942 (by decide +kernel) (by decide +kernel), gt_at 22 (by decide +kernel) (by decide +kernel), gt_at 68 (by decide +kernel) (by decide +kernel), cd_X7_addRod, ⟨rfl, by decide +kernel, by decide +kernel, by decide +kernel⟩⟩
set_option maxRecDepth 100000 in
theorem cd_X7_rod : cdW mX7_rod ∈ gt := gt_at 935 rfl rfl
theorem mv_X7_rod : MV mX7_rod 2 := ⟨gt_at 933 (by decide +kernel) (by decide +kernel), gt_at 934 (by decide +kernel) (by decide +kernel), gt_at 68 (by decide +kernel) (by decide +kernel), cd_X7_rod, ⟨rfl, by decide +kernel, by decide +kernel, by decide +kernel⟩⟩
set_option maxRecDepth 100000 in
theorem cd_X7_draws : cdW mX7_draws ∈ gt := gt_at 959 rfl rfl
theorem mv_X7_draws : MV mX7_draws 2 := ⟨gt_at 958 (by decide +kernel) (by decide +kernel), gt_at 25 (by decide +kernel) (by decide +kernel), gt_at 68 (by decide +kernel) (by decide +kernel), cd_X7_draws, ⟨rfl, by decide +kernel, by decide +kernel, by decide +kernel⟩⟩
set_option maxRecDepth 100000 in
theorem cd_X7_clock : cdW mX7_clock ∈ gt := gt_at 978 rfl rfl
theorem mv_X7_clock : MV mX7_clock 0 := ⟨gt_at 977 (by decide +kernel) (by decide +kernel), gt_at 29 (by decide +kernel) (by decide +kernel), gt_at 68 (by decide +kernel) (by decide +kernel), cd_X7_clock, ⟨rfl, by decide +kernel, by decide +kernel, by decide +kernel⟩⟩
set_option maxRecDepth 100000 in
theorem cd_X7_paidMany : cdW mX7_paidMany ∈ gt := gt_at 982 rfl rfl
theorem mv_X7_paidMany : MV mX7_paidMany 1 := ⟨gt_at 981 (by decide +kernel) (by decide +kernel), gt_at 30 (by decide +kernel) (by decide +kernel), gt_at 68 (by decide +kernel) (by decide +kernel), cd_X7_paidMany, ⟨rfl, by decide +kernel, by decide +kernel, by decide +kernel⟩⟩
set_option maxRecDepth 100000 in
theorem cd_X7_isPaid : cdW mX7_isPaid ∈ gt := gt_at 974 rfl rfl
theorem mv_X7_isPaid : MV mX7_isPaid 1 := ⟨gt_at 973 (by decide +kernel) (by decide +kernel), gt_at 28 (by decide +kernel) (by decide +kernel), gt_at 68 (by decide +kernel) (by decide +kernel), cd_X7_isPaid, ⟨rfl, by decide +kernel, by decide +kernel, by decide +kernel⟩⟩
set_option maxRecDepth 100000 in
theorem cd_X7_owes : cdW mX7_owes ∈ gt := gt_at 970 rfl rfl
theorem mv_X7_owes : MV mX7_owes 2 := ⟨gt_at 969 (by decide +kernel) (by decide +kernel), gt_at 27 (by decide +kernel) (by decide +kernel), gt_at 68 (by decide +kernel) (by decide +kernel), cd_X7_owes, ⟨rfl, by decide +kernel, by decide +kernel, by decide +kernel⟩⟩
set_option maxRecDepth 100000 in
theorem cd_X7_of : cdW mX7_of ∈ gt := gt_at 951 rfl rfl
theorem mv_X7_of : MV mX7_of 2 := ⟨gt_at 949 (by decide +kernel) (by decide +kernel), gt_at 950 (by decide +kernel) (by decide +kernel), gt_at 68 (by decide +kernel) (by decide +kernel), cd_X7_of, ⟨rfl, by decide +kernel, by decide +kernel, by decide +kernel⟩⟩
set_option maxRecDepth 100000 in
theorem cd_X7_set : cdW mX7_set ∈ gt := gt_at 986 rfl rfl
theorem mv_X7_set : MV mX7_set 3 := ⟨gt_at 984 (by decide +kernel) (by decide +kernel), gt_at 985 (by decide +kernel) (by decide +kernel), gt_at 68 (by decide +kernel) (by decide +kernel), cd_X7_set, ⟨rfl, by decide +kernel, by decide +kernel, by decide +kernel⟩⟩
set_option maxRecDepth 100000 in
theorem cd_X7_pays : cdW mX7_pays ∈ gt := gt_at 990 rfl rfl
theorem mv_X7_pays : MV mX7_pays 3 := ⟨gt_at 988 (by decide +kernel) (by decide +kernel), gt_at 989 (by decide +kernel) (by decide +kernel), gt_at 68 (by decide +kernel) (by decide +kernel), cd_X7_pays, ⟨rfl, by decide +kernel, by decide +kernel, by decide +kernel⟩⟩
set_option maxRecDepth 100000 in
theorem cd_X7_turn : cdW mX7_turn ∈ gt := gt_at 994 rfl rfl
theorem mv_X7_turn : MV mX7_turn 2 := ⟨gt_at 992 (by decide +kernel) (by decide +kernel), gt_at 993 (by decide +kernel) (by decide +kernel), gt_at 68 (by decide +kernel) (by decide +kernel), cd_X7_turn, ⟨rfl, by decide +kernel, by decide +kernel, by decide +kernel⟩⟩
set_option maxRecDepth 100000 in
theorem cd_X7_as : cdW mX7_as ∈ gt := gt_at 998 rfl rfl
theorem mv_X7_as : MV mX7_as 2 := ⟨gt_at 996 (by decide +kernel) (by decide +kernel), gt_at 997 (by decide +kernel) (by decide +kernel), gt_at 68 (by decide +kernel) (by decide +kernel), cd_X7_as, ⟨rfl, by decide +kernel, by decide +kernel, by decide +kernel⟩⟩
set_option maxRecDepth 100000 in
theorem cd_X7_comesDown : cdW mX7_comesDown ∈ gt := gt_at 1007 rfl rfl
theorem mv_X7_comesDown : MV mX7_comesDown 1 := ⟨gt_at 1006 (by decide +kernel) (by decide +kernel), gt_at 31 (by decide +kernel) (by decide +kernel), gt_at 68 (by decide +kernel) (by decide +kernel), cd_X7_comesDown, ⟨rfl, by decide +kernel, by decide +kernel, by decide +kernel⟩⟩
set_option maxRecDepth 100000 in
theorem cd_X7_down : cdW mX7_down ∈ gt := gt_at 1003 rfl rfl
theorem mv_X7_down : MV mX7_down 1 := ⟨gt_at 1001 (by decide +kernel) (by decide +kernel), gt_at 1002 (by decide +kernel) (by decide +kernel), gt_at 68 (by decide +kernel) (by decide +kernel), cd_X7_down, ⟨rfl, by decide +kernel, by decide +kernel, by decide +kernel⟩⟩
set_option maxRecDepth 100000 in
theorem cd_X7_settle : cdW mX7_settle ∈ gt := gt_at 1011 rfl rfl
theorem mv_X7_settle : MV mX7_settle 1 := ⟨gt_at 1009 (by decide +kernel) (by decide +kernel), gt_at 1010 (by decide +kernel) (by decide +kernel), gt_at 68 (by decide +kernel) (by decide +kernel), cd_X7_settle, ⟨rfl, by decide +kernel, by decide +kernel, by decide +kernel⟩⟩
set_option maxRecDepth 100000 in
theorem cd_X7_struckAt : cdW mX7_struckAt ∈ gt := gt_at 1036 rfl rfl
theorem mv_X7_struckAt : MV mX7_struckAt 1 := ⟨gt_at 1035 (by decide +kernel) (by decide +kernel), gt_at 36 (by decide +kernel) (by decide +kernel), gt_at 68 (by decide +kernel) (by decide +kernel), cd_X7_struckAt, ⟨rfl, by decide +kernel, by decide +kernel, by decide +kernel⟩⟩
set_option maxRecDepth 100000 in
theorem cd_X7_doesBreak : cdW mX7_doesBreak ∈ gt := gt_at 1028 rfl rfl
theorem mv_X7_doesBreak : MV mX7_doesBreak 0 := ⟨gt_at 1027 (by decide +kernel) (by decide +kernel), gt_at 34 (by decide +kernel) (by decide +kernel), gt_at 68 (by decide +kernel) (by decide +kernel), cd_X7_doesBreak, ⟨rfl, by decide +kernel, by decide +kernel, by decide +kernel⟩⟩
set_option maxRecDepth 100000 in
theorem cd_X7_bolt : cdW mX7_bolt ∈ gt := gt_at 1032 rfl rfl
theorem mv_X7_bolt : MV mX7_bolt 0 := ⟨gt_at 1031 (by decide +kernel) (by decide +kernel), gt_at 35 (by decide +kernel) (by decide +kernel), gt_at 68 (by decide +kernel) (by decide +kernel), cd_X7_bolt, ⟨rfl, by decide +kernel, by decide +kernel, by decide +kernel⟩⟩
set_option maxRecDepth 100000 in
theorem cd_X7_oneHour : cdW mX7_oneHour ∈ gt := gt_at 1024 rfl rfl
theorem mv_X7_oneHour : MV mX7_oneHour 0 := ⟨gt_at 1023 (by decide +kernel) (by decide +kernel), gt_at 33 (by decide +kernel) (by decide +kernel), gt_at 68 (by decide +kernel) (by decide +kernel), cd_X7_oneHour, ⟨rfl, by decide +kernel, by decide +kernel, by decide +kernel⟩⟩
set_option maxRecDepth 100000 in
theorem cd_X7_passes : cdW mX7_passes ∈ gt := gt_at 1020 rfl rfl
theorem mv_X7_passes : MV mX7_passes 1 := ⟨gt_at 1019 (by decide +kernel) (by decide +kernel), gt_at 32 (by decide +kernel) (by decide +kernel), gt_at 68 (by decide +kernel) (by decide +kernel), cd_X7_passes, ⟨rfl, by decide +kernel, by decide +kernel, by decide +kernel⟩⟩
set_option maxRecDepth 100000 in
theorem cd_X7_sumOf : cdW mX7_sumOf ∈ gt := gt_at 1041 rfl rfl
theorem mv_X7_sumOf : MV mX7_sumOf 1 := ⟨gt_at 1040 (by decide +kernel) (by decide +kernel), gt_at 37 (by decide +kernel) (by decide +kernel), gt_at 68 (by decide +kernel) (by decide +kernel), cd_X7_sumOf, ⟨rfl, by decide +kernel, by decide +kernel, by decide +kernel⟩⟩
set_option maxRecDepth 100000 in
theorem cd_X7_hours : cdW mX7_hours ∈ gt := gt_at 1015 rfl rfl
theorem mv_X7_hours : MV mX7_hours 1 := ⟨gt_at 1013 (by decide +kernel) (by decide +kernel), gt_at 1014 (by decide +kernel) (by decide +kernel), gt_at 68 (by decide +kernel) (by decide +kernel), cd_X7_hours, ⟨rfl, by decide +kernel, by decide +kernel, by decide +kernel⟩⟩
set_option maxRecDepth 100000 in
theorem cd_X7_days : cdW mX7_days ∈ gt := gt_at 1045 rfl rfl
theorem mv_X7_days : MV mX7_days 1 := ⟨gt_at 1043 (by decide +kernel) (by decide +kernel), gt_at 1044 (by decide +kernel) (by decide +kernel), gt_at 68 (by decide +kernel) (by decide +kernel), cd_X7_days, ⟨rfl, by decide +kernel, by decide +kernel, by decide +kernel⟩⟩
set_option maxRecDepth 100000 in
theorem cd_X7_seed : cdW mX7_seed ∈ gt := gt_at 1050 rfl rfl
theorem mv_X7_seed : MV mX7_seed 1 := ⟨gt_at 1048 (by decide +kernel) (by decide +kernel), gt_at 1049 (by decide +kernel) (by decide +kernel), gt_at 68 (by decide +kernel) (by decide +kernel), cd_X7_seed, ⟨rfl, by decide +kernel, by decide +kernel, by decide +kernel⟩⟩
set_option maxRecDepth 100000 in
theorem cd_X7_paidOnes : cdW mX7_paidOnes ∈ gt := gt_at 1058 rfl rfl
theorem mv_X7_paidOnes : MV mX7_paidOnes 0 := ⟨gt_at 1057 (by decide +kernel) (by decide +kernel), gt_at 38 (by decide +kernel) (by decide +kernel), gt_at 68 (by decide +kernel) (by decide +kernel), cd_X7_paidOnes, ⟨rfl, by decide +kernel, by decide +kernel, by decide +kernel⟩⟩
set_option maxRecDepth 100000 in
theorem cd_X7_now : cdW mX7_now ∈ gt := gt_at 1054 rfl rfl
theorem mv_X7_now : MV mX7_now 1 := ⟨gt_at 1052 (by decide +kernel) (by decide +kernel), gt_at 1053 (by decide +kernel) (by decide +kernel), gt_at 68 (by decide +kernel) (by decide +kernel), cd_X7_now, ⟨rfl, by decide +kernel, by decide +kernel, by decide +kernel⟩⟩
set_option maxRecDepth 100000 in
theorem cd_X7_onOf : cdW mX7_onOf ∈ gt := gt_at 1066 rfl rfl
theorem mv_X7_onOf : MV mX7_onOf 3 := ⟨gt_at 1065 (by decide +kernel) (by decide +kernel), gt_at 39 (by decide +kernel) (by decide +kernel), gt_at 68 (by decide +kernel) (by decide +kernel), cd_X7_onOf, ⟨rfl, by decide +kernel, by decide +kernel, by decide +kernel⟩⟩
set_option maxRecDepth 100000 in
theorem cd_X7_on : cdW mX7_on ∈ gt := gt_at 1062 rfl rfl
theorem mv_X7_on : MV mX7_on 3 := ⟨gt_at 1060 (by decide +kernel) (by decide +kernel), gt_at 1061 (by decide +kernel) (by decide +kernel), gt_at 68 (by decide +kernel) (by decide +kernel), cd_X7_on, ⟨rfl, by decide +kernel, by decide +kernel, by decide +kernel⟩⟩
set_option maxRecDepth 100000 in
theorem cd_X7_findNext : cdW mX7_findNext ∈ gt := gt_at 1078 rfl rfl
theorem mv_X7_findNext : MV mX7_findNext 0 := ⟨gt_at 1077 (by decide +kernel) (by decide +kernel), gt_at 41 (by decide +kernel) (by decide +kernel), gt_at 68 (by decide +kernel) (by decide +kernel), cd_X7_findNext, ⟨rfl, by decide +kernel, by decide +kernel, by decide +kernel⟩⟩
set_option maxRecDepth 100000 in
theorem cd_X7_next : cdW mX7_next ∈ gt := gt_at 1074 rfl rfl
theorem mv_X7_next : MV mX7_next 1 := ⟨gt_at 1072 (by decide +kernel) (by decide +kernel), gt_at 1073 (by decide +kernel) (by decide +kernel), gt_at 68 (by decide +kernel) (by decide +kernel), cd_X7_next, ⟨rfl, by decide +kernel, by decide +kernel, by decide +kernel⟩⟩
set_option maxRecDepth 100000 in
theorem cd_X7_struck : cdW mX7_struck ∈ gt := gt_at 1083 rfl rfl
theorem mv_X7_struck : MV mX7_struck 1 := ⟨gt_at 1081 (by decide +kernel) (by decide +kernel), gt_at 1082 (by decide +kernel) (by decide +kernel), gt_at 68 (by decide +kernel) (by decide +kernel), cd_X7_struck, ⟨rfl, by decide +kernel, by decide +kernel, by decide +kernel⟩⟩
set_option maxRecDepth 100000 in
theorem cd_X7_reach : cdW mX7_reach ∈ gt := gt_at 1087 rfl rfl
theorem mv_X7_reach : MV mX7_reach 1 := ⟨gt_at 1085 (by decide +kernel) (by decide +kernel), gt_at 1086 (by decide +kernel) (by decide +kernel), gt_at 68 (by decide +kernel) (by decide +kernel), cd_X7_reach, ⟨rfl, by decide +kernel, by decide +kernel, by decide +kernel⟩⟩
set_option maxRecDepth 100000 in
theorem cd_X7_isStruckBy : cdW mX7_isStruckBy ∈ gt := gt_at 1095 rfl rfl
theorem mv_X7_isStruckBy : MV mX7_isStruckBy 2 := ⟨gt_at 1094 (by decide +kernel) (by decide +kernel), gt_at 42 (by decide +kernel) (by decide +kernel), gt_at 68 (by decide +kernel) (by decide +kernel), cd_X7_isStruckBy, ⟨rfl, by decide +kernel, by decide +kernel, by decide +kernel⟩⟩
set_option maxRecDepth 100000 in
theorem cd_X7_steals : cdW mX7_steals ∈ gt := gt_at 1091 rfl rfl
theorem mv_X7_steals : MV mX7_steals 1 := ⟨gt_at 1089 (by decide +kernel) (by decide +kernel), gt_at 1090 (by decide +kernel) (by decide +kernel), gt_at 68 (by decide +kernel) (by decide +kernel), cd_X7_steals, ⟨rfl, by decide +kernel, by decide +kernel, by decide +kernel⟩⟩
set_option maxRecDepth 100000 in
theorem cd_X7_ducks : cdW mX7_ducks ∈ gt := gt_at 1099 rfl rfl
theorem mv_X7_ducks : MV mX7_ducks 1 := ⟨gt_at 1097 (by decide +kernel) (by decide +kernel), gt_at 1098 (by decide +kernel) (by decide +kernel), gt_at 68 (by decide +kernel) (by decide +kernel), cd_X7_ducks, ⟨rfl, by decide +kernel, by decide +kernel, by decide +kernel⟩⟩
set_option maxRecDepth 100000 in
theorem cd_X7_place : cdW mX7_place ∈ gt := gt_at 1103 rfl rfl
theorem mv_X7_place : MV mX7_place 2 := ⟨gt_at 1101 (by decide +kernel) (by decide +kernel), gt_at 1102 (by decide +kernel) (by decide +kernel), gt_at 68 (by decide +kernel) (by decide +kernel), cd_X7_place, ⟨rfl, by decide +kernel, by decide +kernel, by decide +kernel⟩⟩
set_option maxRecDepth 100000 in
theorem cd_X7_thief : cdW mX7_thief ∈ gt := gt_at 1107 rfl rfl
theorem mv_X7_thief : MV mX7_thief 2 := ⟨gt_at 1105 (by decide +kernel) (by decide +kernel), gt_at 1106 (by decide +kernel) (by decide +kernel), gt_at 68 (by decide +kernel) (by decide +kernel), cd_X7_thief, ⟨rfl, by decide +kernel, by decide +kernel, by decide +kernel⟩⟩
set_option maxRecDepth 100000 in
theorem cd_X7_kind : cdW mX7_kind ∈ gt := gt_at 1111 rfl rfl
theorem mv_X7_kind : MV mX7_kind 2 := ⟨gt_at 1109 (by decide +kernel) (by decide +kernel), gt_at 1110 (by decide +kernel) (by decide +kernel), gt_at 68 (by decide +kernel) (by decide +kernel), cd_X7_kind, ⟨rfl, by decide +kernel, by decide +kernel, by decide +kernel⟩⟩
set_option maxRecDepth 100000 in
theorem cd_X7_clocksOf : cdW mX7_clocksOf ∈ gt := gt_at 1119 rfl rfl
theorem mv_X7_clocksOf : MV mX7_clocksOf 2 := ⟨gt_at 1118 (by decide +kernel) (by decide +kernel), gt_at 43 (by decide +kernel) (by decide +kernel), gt_at 68 (by decide +kernel) (by decide +kernel), cd_X7_clocksOf, ⟨rfl, by decide +kernel, by decide +kernel, by decide +kernel⟩⟩
set_option maxRecDepth 100000 in
theorem cd_X7_clocks : cdW mX7_clocks ∈ gt := gt_at 1115 rfl rfl
theorem mv_X7_clocks : MV mX7_clocks 2 := ⟨gt_at 1113 (by decide +kernel) (by decide +kernel), gt_at 1114 (by decide +kernel) (by decide +kernel), gt_at 68 (by decide +kernel) (by decide +kernel), cd_X7_clocks, ⟨rfl, by decide +kernel, by decide +kernel, by decide +kernel⟩⟩
set_option maxRecDepth 100000 in
theorem cd_X7_doesCover : cdW mX7_doesCover ∈ gt := gt_at 1130 rfl rfl
theorem ms_X7_doesCover : MS mX7_doesCover 3 := ⟨gt_at 1129 (by decide +kernel) (by decide +kernel), gt_at 68 (by decide +kernel) (by decide +kernel), cd_X7_doesCover, ⟨rfl, by decide +kernel, by decide +kernel, by decide +kernel⟩⟩
set_option maxRecDepth 100000 in
theorem cd_X7_fewest : cdW mX7_fewest ∈ gt := gt_at 1127 rfl rfl
theorem mv_X7_fewest : MV mX7_fewest 1 := ⟨gt_at 1126 (by decide +kernel) (by decide +kernel), gt_at 44 (by decide +kernel) (by decide +kernel), gt_at 68 (by decide +kernel) (by decide +kernel), cd_X7_fewest, ⟨rfl, by decide +kernel, by decide +kernel, by decide +kernel⟩⟩
set_option maxRecDepth 100000 in
theorem cd_X7_covers : cdW mX7_covers ∈ gt := gt_at 1123 rfl rfl
theorem mv_X7_covers : MV mX7_covers 2 := ⟨gt_at 1121 (by decide +kernel) (by decide +kernel), gt_at 1122 (by decide +kernel) (by decide +kernel), gt_at 68 (by decide +kernel) (by decide +kernel), cd_X7_covers, ⟨rfl, by decide +kernel, by decide +kernel, by decide +kernel⟩⟩
set_option maxRecDepth 100000 in
theorem cd_X7_from : cdW mX7_from ∈ gt := gt_at 1134 rfl rfl
theorem mv_X7_from : MV mX7_from 2 := ⟨gt_at 1132 (by decide +kernel) (by decide +kernel), gt_at 1133 (by decide +kernel) (by decide +kernel), gt_at 68 (by decide +kernel) (by decide +kernel), cd_X7_from, ⟨rfl, by decide +kernel, by decide +kernel, by decide +kernel⟩⟩
set_option maxRecDepth 100000 in
theorem cd_X7_strays : cdW mX7_strays ∈ gt := gt_at 1138 rfl rfl
theorem mv_X7_strays : MV mX7_strays 1 := ⟨gt_at 1136 (by decide +kernel) (by decide +kernel), gt_at 1137 (by decide +kernel) (by decide +kernel), gt_at 68 (by decide +kernel) (by decide +kernel), cd_X7_strays, ⟨rfl, by decide +kernel, by decide +kernel, by decide +kernel⟩⟩
set_option maxRecDepth 100000 in
theorem cd_X7_drawAll : cdW mX7_drawAll ∈ gt := gt_at 1146 rfl rfl
theorem mv_X7_drawAll : MV mX7_drawAll 0 := ⟨gt_at 1145 (by decide +kernel) (by decide +kernel), gt_at 45 (by decide +kernel) (by decide +kernel), gt_at 68 (by decide +kernel) (by decide +kernel), cd_X7_drawAll, ⟨rfl, by decide +kernel, by decide +kernel, by decide +kernel⟩⟩
set_option maxRecDepth 100000 in
theorem cd_X7_divisor : cdW mX7_divisor ∈ gt := gt_at 1149 rfl rfl
theorem ms_X7_divisor : MS mX7_divisor 2 := ⟨gt_at 1148 (by decide +kernel) (by decide +kernel), gt_at 68 (by decide +kernel) (by decide +kernel), cd_X7_divisor, ⟨rfl, by decide +kernel, by decide +kernel, by decide +kernel⟩⟩
set_option maxRecDepth 100000 in
theorem cd_X7_fork : cdW mX7_fork ∈ gt := gt_at 1142 rfl rfl
theorem mv_X7_fork : MV mX7_fork 2 := ⟨gt_at 1140 (by decide +kernel) (by decide +kernel), gt_at 1141 (by decide +kernel) (by decide +kernel), gt_at 68 (by decide +kernel) (by decide +kernel), cd_X7_fork, ⟨rfl, by decide +kernel, by decide +kernel, by decide +kernel⟩⟩
set_option maxRecDepth 100000 in
theorem cd_X7_share : cdW mX7_share ∈ gt := gt_at 1153 rfl rfl
theorem mv_X7_share : MV mX7_share 1 := ⟨gt_at 1151 (by decide +kernel) (by decide +kernel), gt_at 1152 (by decide +kernel) (by decide +kernel), gt_at 68 (by decide +kernel) (by decide +kernel), cd_X7_share, ⟨rfl, by decide +kernel, by decide +kernel, by decide +kernel⟩⟩
set_option maxRecDepth 100000 in
theorem cd_X7_feed : cdW mX7_feed ∈ gt := gt_at 1157 rfl rfl
theorem mv_X7_feed : MV mX7_feed 2 := ⟨gt_at 1155 (by decide +kernel) (by decide +kernel), gt_at 1156 (by decide +kernel) (by decide +kernel), gt_at 68 (by decide +kernel) (by decide +kernel), cd_X7_feed, ⟨rfl, by decide +kernel, by decide +kernel, by decide +kernel⟩⟩
set_option maxRecDepth 100000 in
theorem cd_X7_wipe : cdW mX7_wipe ∈ gt := gt_at 1161 rfl rfl
theorem mv_X7_wipe : MV mX7_wipe 0 := ⟨gt_at 1159 (by decide +kernel) (by decide +kernel), gt_at 1160 (by decide +kernel) (by decide +kernel), gt_at 68 (by decide +kernel) (by decide +kernel), cd_X7_wipe, ⟨rfl, by decide +kernel, by decide +kernel, by decide +kernel⟩⟩
set_option maxRecDepth 100000 in
theorem cd_X7_byteAt : cdW mX7_byteAt ∈ gt := gt_at 1173 rfl rfl
theorem mv_X7_byteAt : MV mX7_byteAt 1 := ⟨gt_at 1172 (by decide +kernel) (by decide +kernel), gt_at 47 (by decide +kernel) (by decide +kernel), gt_at 68 (by decide +kernel) (by decide +kernel), cd_X7_byteAt, ⟨rfl, by decide +kernel, by decide +kernel, by decide +kernel⟩⟩
set_option maxRecDepth 100000 in
theorem cd_X7_isLetter : cdW mX7_isLetter ∈ gt := gt_at 1176 rfl rfl
theorem ms_X7_isLetter : MS mX7_isLetter 1 := ⟨gt_at 1175 (by decide +kernel) (by decide +kernel), gt_at 68 (by decide +kernel) (by decide +kernel), cd_X7_isLetter, ⟨rfl, by decide +kernel, by decide +kernel, by decide +kernel⟩⟩
set_option maxRecDepth 100000 in
theorem cd_X7_isDigit : cdW mX7_isDigit ∈ gt := gt_at 1179 rfl rfl
theorem ms_X7_isDigit : MS mX7_isDigit 1 := ⟨gt_at 1178 (by decide +kernel) (by decide +kernel), gt_at 68 (by decide +kernel) (by decide +kernel), cd_X7_isDigit, ⟨rfl, by decide +kernel, by decide +kernel, by decide +kernel⟩⟩
set_option maxRecDepth 100000 in
theorem cd_X7_advance : cdW mX7_advance ∈ gt := gt_at 1169 rfl rfl
theorem mv_X7_advance : MV mX7_advance 0 := ⟨gt_at 1168 (by decide +kernel) (by decide +kernel), gt_at 46 (by decide +kernel) (by decide +kernel), gt_at 68 (by decide +kernel) (by decide +kernel), cd_X7_advance, ⟨rfl, by decide +kernel, by decide +kernel, by decide +kernel⟩⟩
set_option maxRecDepth 100000 in
theorem cd_X7_isWord : cdW mX7_isWord ∈ gt := gt_at 1195 rfl rfl
theorem mv_X7_isWord : MV mX7_isWord 1 := ⟨gt_at 1194 (by decide +kernel) (by decide +kernel), gt_at 50 (by decide +kernel) (by decide +kernel), gt_at 68 (by decide +kernel) (by decide +kernel), cd_X7_isWord, ⟨rfl, by decide +kernel, by decide +kernel, by decide +kernel⟩⟩
set_option maxRecDepth 100000 in
theorem cd_X7_kindHere : cdW mX7_kindHere ∈ gt := gt_at 1190 rfl rfl
theorem mv_X7_kindHere : MV mX7_kindHere 0 := ⟨gt_at 1189 (by decide +kernel) (by decide +kernel), gt_at 49 (by decide +kernel) (by decide +kernel), gt_at 68 (by decide +kernel) (by decide +kernel), cd_X7_kindHere, ⟨rfl, by decide +kernel, by decide +kernel, by decide +kernel⟩⟩
set_option maxRecDepth 100000 in
theorem cd_X7_wantNumber : cdW mX7_wantNumber ∈ gt := gt_at 1209 rfl rfl
theorem mv_X7_wantNumber : MV mX7_wantNumber 2 := ⟨gt_at 1208 (by decide +kernel) (by decide +kernel), gt_at 52 (by decide +kernel) (by decide +kernel), gt_at 68 (by decide +kernel) (by decide +kernel), cd_X7_wantNumber, ⟨rfl, by decide +kernel, by decide +kernel, by decide +kernel⟩⟩
set_option maxRecDepth 100000 in
theorem cd_X7_mayWant : cdW mX7_mayWant ∈ gt := gt_at 1214 rfl rfl
theorem mv_X7_mayWant : MV mX7_mayWant 4 := ⟨gt_at 1213 (by decide +kernel) (by decide +kernel), gt_at 53 (by decide +kernel) (by decide +kernel), gt_at 68 (by decide +kernel) (by decide +kernel), cd_X7_mayWant, ⟨rfl, by decide +kernel, by decide +kernel, by decide +kernel⟩⟩
set_option maxRecDepth 100000 in
theorem cd_X7_wantRod : cdW mX7_wantRod ∈ gt := gt_at 1204 rfl rfl
theorem mv_X7_wantRod : MV mX7_wantRod 1 := ⟨gt_at 1203 (by decide +kernel) (by decide +kernel), gt_at 51 (by decide +kernel) (by decide +kernel), gt_at 68 (by decide +kernel) (by decide +kernel), cd_X7_wantRod, ⟨rfl, by decide +kernel, by decide +kernel, by decide +kernel⟩⟩
set_option maxRecDepth 100000 in
theorem cd_X7_wantCloud : cdW mX7_wantCloud ∈ gt := gt_at 1221 rfl rfl
theorem mv_X7_wantCloud : MV mX7_wantCloud 0 := ⟨gt_at 1220 (by decide +kernel) (by decide +kernel), gt_at 54 (by decide +kernel) (by decide +kernel), gt_at 68 (by decide +kernel) (by decide +kernel), cd_X7_wantCloud, ⟨rfl, by decide +kernel, by decide +kernel, by decide +kernel⟩⟩
set_option maxRecDepth 100000 in
theorem cd_X7_wantRule : cdW mX7_wantRule ∈ gt := gt_at 1230 rfl rfl
theorem mv_X7_wantRule : MV mX7_wantRule 3 := ⟨gt_at 1229 (by decide +kernel) (by decide +kernel), gt_at 55 (by decide +kernel) (by decide +kernel), gt_at 68 (by decide +kernel) (by decide +kernel), cd_X7_wantRule, ⟨rfl, by decide +kernel, by decide +kernel, by decide +kernel⟩⟩
set_option maxRecDepth 100000 in
theorem cd_X7_wantItem : cdW mX7_wantItem ∈ gt := gt_at 1186 rfl rfl
theorem mv_X7_wantItem : MV mX7_wantItem 0 := ⟨gt_at 1185 (by decide +kernel) (by decide +kernel), gt_at 48 (by decide +kernel) (by decide +kernel), gt_at 68 (by decide +kernel) (by decide +kernel), cd_X7_wantItem, ⟨rfl, by decide +kernel, by decide +kernel, by decide +kernel⟩⟩
set_option maxRecDepth 100000 in
theorem cd_X7_plain : cdW mX7_plain ∈ gt := gt_at 1165 rfl rfl
theorem mv_X7_plain : MV mX7_plain 0 := ⟨gt_at 1163 (by decide +kernel) (by decide +kernel), gt_at 1164 (by decide +kernel) (by decide +kernel), gt_at 68 (by decide +kernel) (by decide +kernel), cd_X7_plain, ⟨rfl, by decide +kernel, by decide +kernel, by decide +kernel⟩⟩
set_option maxRecDepth 100000 in
theorem cd_X7_isSheet : cdW mX7_isSheet ∈ gt := gt_at 1238 rfl rfl
theorem ms_X7_isSheet : MS mX7_isSheet 1 := ⟨gt_at 1237 (by decide +kernel) (by decide +kernel), gt_at 68 (by decide +kernel) (by decide +kernel), cd_X7_isSheet, ⟨rfl, by decide +kernel, by decide +kernel, by decide +kernel⟩⟩
set_option maxRecDepth 100000 in
theorem cd_X7_narrow : cdW mX7_narrow ∈ gt := gt_at 1247 rfl rfl
theorem ms_X7_narrow : MS mX7_narrow 2 := ⟨gt_at 1246 (by decide +kernel) (by decide +kernel), gt_at 68 (by decide +kernel) (by decide +kernel), cd_X7_narrow, ⟨rfl, by decide +kernel, by decide +kernel, by decide +kernel⟩⟩
set_option maxRecDepth 100000 in
theorem cd_X7_sheet : cdW mX7_sheet ∈ gt := gt_at 1235 rfl rfl
theorem mv_X7_sheet : MV mX7_sheet 3 := ⟨gt_at 1233 (by decide +kernel) (by decide +kernel), gt_at 1234 (by decide +kernel) (by decide +kernel), gt_at 68 (by decide +kernel) (by decide +kernel), cd_X7_sheet, ⟨rfl, by decide +kernel, by decide +kernel, by decide +kernel⟩⟩
set_option maxRecDepth 100000 in
theorem cd_X7_write : cdW mX7_write ∈ gt := gt_at 1243 rfl rfl
theorem mv_X7_write : MV mX7_write 3 := ⟨gt_at 1241 (by decide +kernel) (by decide +kernel), gt_at 1242 (by decide +kernel) (by decide +kernel), gt_at 68 (by decide +kernel) (by decide +kernel), cd_X7_write, ⟨rfl, by decide +kernel, by decide +kernel, by decide +kernel⟩⟩
set_option maxRecDepth 100000 in
theorem cd_X7_isPart : cdW mX7_isPart ∈ gt := gt_at 1255 rfl rfl
theorem mv_X7_isPart : MV mX7_isPart 3 := ⟨gt_at 1254 (by decide +kernel) (by decide +kernel), gt_at 56 (by decide +kernel) (by decide +kernel), gt_at 68 (by decide +kernel) (by decide +kernel), cd_X7_isPart, ⟨rfl, by decide +kernel, by decide +kernel, by decide +kernel⟩⟩
set_option maxRecDepth 100000 in
theorem cd_X7_copy : cdW mX7_copy ∈ gt := gt_at 1251 rfl rfl
theorem mv_X7_copy : MV mX7_copy 5 := ⟨gt_at 1249 (by decide +kernel) (by decide +kernel), gt_at 1250 (by decide +kernel) (by decide +kernel), gt_at 68 (by decide +kernel) (by decide +kernel), cd_X7_copy, ⟨rfl, by decide +kernel, by decide +kernel, by decide +kernel⟩⟩
set_option maxRecDepth 100000 in
theorem cd_X7_badSheet : cdW mX7_badSheet ∈ gt := gt_at 1263 rfl rfl
theorem mv_X7_badSheet : MV mX7_badSheet 1 := ⟨gt_at 1262 (by decide +kernel) (by decide +kernel), gt_at 57 (by decide +kernel) (by decide +kernel), gt_at 68 (by decide +kernel) (by decide +kernel), cd_X7_badSheet, ⟨rfl, by decide +kernel, by decide +kernel, by decide +kernel⟩⟩
set_option maxRecDepth 100000 in
theorem cd_X7_lays : cdW mX7_lays ∈ gt := gt_at 1259 rfl rfl
theorem mv_X7_lays : MV mX7_lays 1 := ⟨gt_at 1257 (by decide +kernel) (by decide +kernel), gt_at 1258 (by decide +kernel) (by decide +kernel), gt_at 68 (by decide +kernel) (by decide +kernel), cd_X7_lays, ⟨rfl, by decide +kernel, by decide +kernel, by decide +kernel⟩⟩
set_option maxRecDepth 100000 in
theorem cd_X7_book : cdW mX7_book ∈ gt := gt_at 1268 rfl rfl
theorem mv_X7_book : MV mX7_book 2 := ⟨gt_at 1266 (by decide +kernel) (by decide +kernel), gt_at 1267 (by decide +kernel) (by decide +kernel), gt_at 68 (by decide +kernel) (by decide +kernel), cd_X7_book, ⟨rfl, by decide +kernel, by decide +kernel, by decide +kernel⟩⟩
set_option maxRecDepth 100000 in
theorem cd_X7_isSo : cdW mX7_isSo ∈ gt := gt_at 1276 rfl rfl
theorem mv_X7_isSo : MV mX7_isSo 2 := ⟨gt_at 1275 (by decide +kernel) (by decide +kernel), gt_at 58 (by decide +kernel) (by decide +kernel), gt_at 68 (by decide +kernel) (by decide +kernel), cd_X7_isSo, ⟨rfl, by decide +kernel, by decide +kernel, by decide +kernel⟩⟩
set_option maxRecDepth 100000 in
theorem cd_X7_read : cdW mX7_read ∈ gt := gt_at 1272 rfl rfl
theorem mv_X7_read : MV mX7_read 2 := ⟨gt_at 1270 (by decide +kernel) (by decide +kernel), gt_at 1271 (by decide +kernel) (by decide +kernel), gt_at 68 (by decide +kernel) (by decide +kernel), cd_X7_read, ⟨rfl, by decide +kernel, by decide +kernel, by decide +kernel⟩⟩
set_option maxRecDepth 100000 in
theorem cd_X7_moveAll : cdW mX7_moveAll ∈ gt := gt_at 1070 rfl rfl
theorem mv_X7_moveAll : MV mX7_moveAll 2 := ⟨gt_at 1069 (by decide +kernel) (by decide +kernel), gt_at 40 (by decide +kernel) (by decide +kernel), gt_at 68 (by decide +kernel) (by decide +kernel), cd_X7_moveAll, ⟨rfl, by decide +kernel, by decide +kernel, by decide +kernel⟩⟩
set_option maxRecDepth 100000 in
theorem cd_X7_image : cdW mX7_image ∈ gt := gt_at 1280 rfl rfl
theorem mv_X7_image : MV mX7_image 0 := ⟨gt_at 1278 (by decide +kernel) (by decide +kernel), gt_at 1279 (by decide +kernel) (by decide +kernel), gt_at 68 (by decide +kernel) (by decide +kernel), cd_X7_image, ⟨rfl, by decide +kernel, by decide +kernel, by decide +kernel⟩⟩
set_option maxRecDepth 100000 in
theorem cd_X7_undo : cdW mX7_undo ∈ gt := gt_at 1284 rfl rfl
theorem mv_X7_undo : MV mX7_undo 0 := ⟨gt_at 1282 (by decide +kernel) (by decide +kernel), gt_at 1283 (by decide +kernel) (by decide +kernel), gt_at 68 (by decide +kernel) (by decide +kernel), cd_X7_undo, ⟨rfl, by decide +kernel, by decide +kernel, by decide +kernel⟩⟩
set_option maxRecDepth 100000 in
theorem cd_X7_tear : cdW mX7_tear ∈ gt := gt_at 1288 rfl rfl
theorem mv_X7_tear : MV mX7_tear 0 := ⟨gt_at 1286 (by decide +kernel) (by decide +kernel), gt_at 1287 (by decide +kernel) (by decide +kernel), gt_at 68 (by decide +kernel) (by decide +kernel), cd_X7_tear, ⟨rfl, by decide +kernel, by decide +kernel, by decide +kernel⟩⟩
set_option maxRecDepth 100000 in
theorem cd_X7_paidAll : cdW mX7_paidAll ∈ gt := gt_at 1296 rfl rfl
theorem mv_X7_paidAll : MV mX7_paidAll 0 := ⟨gt_at 1295 (by decide +kernel) (by decide +kernel), gt_at 59 (by decide +kernel) (by decide +kernel), gt_at 68 (by decide +kernel) (by decide +kernel), cd_X7_paidAll, ⟨rfl, by decide +kernel, by decide +kernel, by decide +kernel⟩⟩
set_option maxRecDepth 100000 in
theorem cd_X7_count : cdW mX7_count ∈ gt := gt_at 1292 rfl rfl
theorem mv_X7_count : MV mX7_count 1 := ⟨gt_at 1290 (by decide +kernel) (by decide +kernel), gt_at 1291 (by decide +kernel) (by decide +kernel), gt_at 68 (by decide +kernel) (by decide +kernel), cd_X7_count, ⟨rfl, by decide +kernel, by decide +kernel, by decide +kernel⟩⟩
set_option maxRecDepth 100000 in
theorem cd_X7_status : cdW mX7_status ∈ gt := gt_at 1300 rfl rfl
theorem mv_X7_status : MV mX7_status 1 := ⟨gt_at 1298 (by decide +kernel) (by decide +kernel), gt_at 1299 (by decide +kernel) (by decide +kernel), gt_at 68 (by decide +kernel) (by decide +kernel), cd_X7_status, ⟨rfl, by decide +kernel, by decide +kernel, by decide +kernel⟩⟩
set_option maxRecDepth 100000 in
theorem cd_J6_numberOfLeadingZeros : cdW mJ6_numberOfLeadingZeros ∈ gt := gt_at 574 rfl rfl
theorem ms_J6_numberOfLeadingZeros : MS mJ6_numberOfLeadingZeros 1 := ⟨gt_at 573 (by decide +kernel) (by decide +kernel), gt_at 70 (by decide +kernel) (by decide +kernel), cd_J6_numberOfLeadingZeros, ⟨rfl, by decide +kernel, by decide +kernel, by decide +kernel⟩⟩
set_option maxRecDepth 100000 in
theorem cd_J0_length : cdW mJ0_length ∈ gt := gt_at 650 rfl rfl
theorem mv_J0_length : MV mJ0_length 0 := ⟨gt_at 648 (by decide +kernel) (by decide +kernel), gt_at 649 (by decide +kernel) (by decide +kernel), gt_at 71 (by decide +kernel) (by decide +kernel), cd_J0_length, ⟨rfl, by decide +kernel, by decide +kernel, by decide +kernel⟩⟩
set_option maxRecDepth 100000 in
theorem cd_J0_charAt : cdW mJ0_charAt ∈ gt := gt_at 660 rfl rfl
theorem mv_J0_charAt : MV mJ0_charAt 1 := ⟨gt_at 658 (by decide +kernel) (by decide +kernel), gt_at 659 (by decide +kernel) (by decide +kernel), gt_at 71 (by decide +kernel) (by decide +kernel), cd_J0_charAt, ⟨rfl, by decide +kernel, by decide +kernel, by decide +kernel⟩⟩
set_option maxRecDepth 100000 in
theorem cd_J0_coder : cdW mJ0_coder ∈ gt := gt_at 654 rfl rfl
theorem mv_J0_coder : MV mJ0_coder 0 := ⟨gt_at 652 (by decide +kernel) (by decide +kernel), gt_at 653 (by decide +kernel) (by decide +kernel), gt_at 71 (by decide +kernel) (by decide +kernel), cd_J0_coder, ⟨rfl, by decide +kernel, by decide +kernel, by decide +kernel⟩⟩
set_option maxRecDepth 100000 in
theorem cd_J0_isLatin1 : cdW mJ0_isLatin1 ∈ gt := gt_at 664 rfl rfl
theorem mv_J0_isLatin1 : MV mJ0_isLatin1 0 := ⟨gt_at 662 (by decide +kernel) (by decide +kernel), gt_at 663 (by decide +kernel) (by decide +kernel), gt_at 71 (by decide +kernel) (by decide +kernel), cd_J0_isLatin1, ⟨rfl, by decide +kernel, by decide +kernel, by decide +kernel⟩⟩
set_option maxRecDepth 100000 in
theorem cd_J0_checkIndex : cdW mJ0_checkIndex ∈ gt := gt_at 670 rfl rfl
theorem ms_J0_checkIndex : MS mJ0_checkIndex 2 := ⟨gt_at 669 (by decide +kernel) (by decide +kernel), gt_at 71 (by decide +kernel) (by decide +kernel), cd_J0_checkIndex, ⟨rfl, by decide +kernel, by decide +kernel, by decide +kernel⟩⟩
set_option maxRecDepth 100000 in
theorem cd_J1_charAt : cdW mJ1_charAt ∈ gt := gt_at 667 rfl rfl
theorem ms_J1_charAt : MS mJ1_charAt 2 := ⟨gt_at 666 (by decide +kernel) (by decide +kernel), gt_at 72 (by decide +kernel) (by decide +kernel), cd_J1_charAt, ⟨rfl, by decide +kernel, by decide +kernel, by decide +kernel⟩⟩
set_option maxRecDepth 100000 in
theorem cd_J2_getChar : cdW mJ2_getChar ∈ gt := gt_at 688 rfl rfl
theorem ms_J2_getChar : MS mJ2_getChar 2 := ⟨gt_at 687 (by decide +kernel) (by decide +kernel), gt_at 74 (by decide +kernel) (by decide +kernel), cd_J2_getChar, ⟨rfl, by decide +kernel, by decide +kernel, by decide +kernel⟩⟩
set_option maxRecDepth 100000 in
theorem cd_J2_length : cdW mJ2_length ∈ gt := gt_at 684 rfl rfl
theorem ms_J2_length : MS mJ2_length 1 := ⟨gt_at 683 (by decide +kernel) (by decide +kernel), gt_at 74 (by decide +kernel) (by decide +kernel), cd_J2_length, ⟨rfl, by decide +kernel, by decide +kernel, by decide +kernel⟩⟩
set_option maxRecDepth 100000 in
theorem cd_J2_charAt : cdW mJ2_charAt ∈ gt := gt_at 678 rfl rfl
theorem ms_J2_charAt : MS mJ2_charAt 2 := ⟨gt_at 677 (by decide +kernel) (by decide +kernel), gt_at 74 (by decide +kernel) (by decide +kernel), cd_J2_charAt, ⟨rfl, by decide +kernel, by decide +kernel, by decide +kernel⟩⟩
set_option maxRecDepth 100000 in
theorem cd_J2_checkIndex : cdW mJ2_checkIndex ∈ gt := gt_at 681 rfl rfl
theorem ms_J2_checkIndex : MS mJ2_checkIndex 2 := ⟨gt_at 680 (by decide +kernel) (by decide +kernel), gt_at 74 (by decide +kernel) (by decide +kernel), cd_J2_checkIndex, ⟨rfl, by decide +kernel, by decide +kernel, by decide +kernel⟩⟩
set_option maxRecDepth 100000 in
theorem cd_J3_checkIndex : cdW mJ3_checkIndex ∈ gt := gt_at 675 rfl rfl
theorem ms_J3_checkIndex : MS mJ3_checkIndex 3 := ⟨gt_at 674 (by decide +kernel) (by decide +kernel), gt_at 73 (by decide +kernel) (by decide +kernel), cd_J3_checkIndex, ⟨rfl, by decide +kernel, by decide +kernel, by decide +kernel⟩⟩
theorem kc_X6_50 : Cond.constant RX6 50 (-1000000001) ∈ gt := gt_at 285 (by decide +kernel) (by decide +kernel)
theorem kc_X6_81 : Cond.constant RX6 81 (-1000000002) ∈ gt := gt_at 317 (by decide +kernel) (by decide +kernel)
theorem kc_X6_145 : Cond.constant RX6 145 (-1000000003) ∈ gt := gt_at 392 (by decide +kernel) (by decide +kernel)
theorem kc_X6_156 : Cond.constant RX6 156 (-1000000005) ∈ gt := gt_at 409 (by decide +kernel) (by decide +kernel)
theorem kc_X6_313 : Cond.constant RX6 313 99999 ∈ gt := gt_at 441 (by decide +kernel) (by decide +kernel)
theorem kc_X1_104 : Cond.constant RX1 104 1103515245 ∈ gt := gt_at 469 (by decide +kernel) (by decide +kernel)
theorem kc_X6_184 : Cond.constant RX6 184 (-1000000004) ∈ gt := gt_at 513 (by decide +kernel) (by decide +kernel)
theorem kc_X6_301 : Cond.constant RX6 301 16777215 ∈ gt := gt_at 571 (by decide +kernel) (by decide +kernel)
theorem kc_J6_264 : Cond.constant RJ6 264 65536 ∈ gt := gt_at 575 (by decide +kernel) (by decide +kernel)
theorem kc_X6_234 : Cond.constant RX6 234 (-1000000007) ∈ gt := gt_at 752 (by decide +kernel) (by decide +kernel)
theorem kc_X6_253 : Cond.constant RX6 253 (-1000000006) ∈ gt := gt_at 769 (by decide +kernel) (by decide +kernel)
theorem kc_X7_44 : Cond.constant RX7 44 (-1000000001) ∈ gt := gt_at 923 (by decide +kernel) (by decide +kernel)
theorem kc_X7_64 : Cond.constant RX7 64 (-1000000002) ∈ gt := gt_at 939 (by decide +kernel) (by decide +kernel)
theorem kc_X7_96 : Cond.constant RX7 96 (-1000000003) ∈ gt := gt_at 999 (by decide +kernel) (by decide +kernel)
theorem kc_X7_115 : Cond.constant RX7 115 (-1000000005) ∈ gt := gt_at 1016 (by decide +kernel) (by decide +kernel)
theorem kc_X7_104 : Cond.constant RX7 104 99999 ∈ gt := gt_at 1037 (by decide +kernel) (by decide +kernel)
theorem kc_X7_122 : Cond.constant RX7 122 1103515245 ∈ gt := gt_at 1046 (by decide +kernel) (by decide +kernel)
theorem kc_X7_149 : Cond.constant RX7 149 (-1000000004) ∈ gt := gt_at 1079 (by decide +kernel) (by decide +kernel)
theorem kc_X7_276 : Cond.constant RX7 276 (-1000000007) ∈ gt := gt_at 1239 (by decide +kernel) (by decide +kernel)
theorem kc_X7_277 : Cond.constant RX7 277 (-1000000006) ∈ gt := gt_at 1244 (by decide +kernel) (by decide +kernel)
theorem kl_X6_271 : Cond.constantLong RX6 271 60 ∈ gt := gt_at 789 (by decide +kernel) (by decide +kernel)
theorem kl_X7_200 : Cond.constantLong RX7 200 27 ∈ gt := gt_at 1180 (by decide +kernel) (by decide +kernel)
theorem kl_X7_202 : Cond.constantLong RX7 202 96 ∈ gt := gt_at 1181 (by decide +kernel) (by decide +kernel)
theorem kl_X7_204 : Cond.constantLong RX7 204 (-1) ∈ gt := gt_at 1182 (by decide +kernel) (by decide +kernel)
theorem kl_X7_206 : Cond.constantLong RX7 206 13531 ∈ gt := gt_at 1191 (by decide +kernel) (by decide +kernel)
theorem kl_X7_212 : Cond.constantLong RX7 212 51345081 ∈ gt := gt_at 1196 (by decide +kernel) (by decide +kernel)
theorem kl_X7_214 : Cond.constantLong RX7 214 223619 ∈ gt := gt_at 1197 (by decide +kernel) (by decide +kernel)
theorem kl_X7_216 : Cond.constantLong RX7 216 10973 ∈ gt := gt_at 1198 (by decide +kernel) (by decide +kernel)
theorem kl_X7_218 : Cond.constantLong RX7 218 865614912780 ∈ gt := gt_at 1199 (by decide +kernel) (by decide +kernel)
theorem kl_X7_220 : Cond.constantLong RX7 220 6414557904 ∈ gt := gt_at 1200 (by decide +kernel) (by decide +kernel)
theorem kl_X7_232 : Cond.constantLong RX7 232 47 ∈ gt := gt_at 1205 (by decide +kernel) (by decide +kernel)
theorem kl_X7_234 : Cond.constantLong RX7 234 164222 ∈ gt := gt_at 1210 (by decide +kernel) (by decide +kernel)
theorem kl_X7_240 : Cond.constantLong RX7 240 131638 ∈ gt := gt_at 1215 (by decide +kernel) (by decide +kernel)
theorem kl_X7_242 : Cond.constantLong RX7 242 555 ∈ gt := gt_at 1216 (by decide +kernel) (by decide +kernel)
theorem kl_X7_258 : Cond.constantLong RX7 258 1842025 ∈ gt := gt_at 1217 (by decide +kernel) (by decide +kernel)
theorem kl_X7_244 : Cond.constantLong RX7 244 47331248 ∈ gt := gt_at 1222 (by decide +kernel) (by decide +kernel)
theorem kl_X7_246 : Cond.constantLong RX7 246 240023 ∈ gt := gt_at 1223 (by decide +kernel) (by decide +kernel)
theorem kl_X7_248 : Cond.constantLong RX7 248 9748424 ∈ gt := gt_at 1224 (by decide +kernel) (by decide +kernel)
theorem kl_X7_250 : Cond.constantLong RX7 250 10497936 ∈ gt := gt_at 1225 (by decide +kernel) (by decide +kernel)
theorem kl_X7_263 : Cond.constantLong RX7 263 4085956 ∈ gt := gt_at 1226 (by decide +kernel) (by decide +kernel)
theorem kl_X7_268 : Cond.constantLong RX7 268 38363212 ∈ gt := gt_at 1231 (by decide +kernel) (by decide +kernel)
theorem kl_X7_288 : Cond.constantLong RX7 288 60 ∈ gt := gt_at 1264 (by decide +kernel) (by decide +kernel)
theorem kl_L_149 : Cond.constantLong RL 149 4294967295 ∈ gt := gt_at 1301 (by decide +kernel) (by decide +kernel)
end
section
/-! contracts whose answer and world are functions; calls of them; Math, statics, texts, arraycopy -/
abbrev Evi (G : GT) (M : MT) (as : List Value) (σ : Sg) (x : Int32) (σ1 : Sg) : Prop := Ev G M as σ (fun v σ' => v = some (.int x) ∧ σ' = σ1)
abbrev Evl (G : GT) (M : MT) (as : List Value) (σ : Sg) (x : Int64) (σ1 : Sg) : Prop := Ev G M as σ (fun v σ' => v = some (.long x) ∧ σ' = σ1)
abbrev Evv (G : GT) (M : MT) (as : List Value) (σ : Sg) (σ1 : Sg) : Prop := Ev G M as σ (fun v σ' => v = none ∧ σ' = σ1)
abbrev Evr (G : GT) (M : MT) (as : List Value) (σ : Sg) (x : Nat) (σ1 : Sg) : Prop := Ev G M as σ (fun v σ' => v = some (.ref x) ∧ σ' = σ1)
theorem cat_map {G : GT} {st : List Value} : ((st.map (cv G)).map fun v => v.category) = st.map fun v => v.category := by
  simp [List.map_map, Function.comp_def, cv_cat]
section MORE
variable {G : GT} {M : MT} {pc : Nat} {L : List (Option Value)} {st : List Value} {σ σ1 : Sg} {P : Option Value → Sg → Prop} {M' : MT} {idx n c ci : Nat} {as rest : List Value}
theorem w_callVi {x : Int32} (d : decode M.2.2.1 pc = .ok (.invokevirtual idx, 3)) (ml : Cond.methodLink M.1 idx M'.2.1 ∈ gt) (mv : MV M' n) (hR : fitR M M' = true) (hc : kd c = ci) (h8 : ci < 8) (hC : (clC ci).1 = M'.1) (ev : Evi G M' (.ref c :: as) σ x σ1) (hn : as.length = n) (hst : st = as.reverse ++ .ref c :: rest) (hw : (rest.map fun v => v.category).sum ≤ 8) (k : WP G M (pc + 3) L (.int x :: rest) σ1 P) : WP G M pc L st σ P :=
  w_callV0 d ml mv hR (rec_obj hc h8 hC) ev hn hst hw (fun v σ' h => by obtain ⟨rfl, rfl⟩ := h; exact k)
theorem w_callSi {x : Int32} (d : decode M.2.2.1 pc = .ok (.invokestatic idx, 3)) (ml : Cond.methodLink M.1 idx M'.2.1 ∈ gt) (mv : MS M' n) (hR : fitR M M' = true) (ev : Evi G M' as σ x σ1) (hn : as.length = n) (hst : st = as.reverse ++ rest) (hw : (rest.map fun v => v.category).sum ≤ 8) (k : WP G M (pc + 3) L (.int x :: rest) σ1 P) : WP G M pc L st σ P :=
  w_callS0 d ml mv hR ev hn hst hw (fun v σ' h => by obtain ⟨rfl, rfl⟩ := h; exact k)
theorem w_callNi {x : Int32} {host : String} (d : decode M.2.2.1 pc = .ok (.invokestatic idx, 3)) (ml : (M.1, idx, M'.2.1, host) ∈ nstL) (mv : MS M' n) (hR : fitR M M' = true) (ev : Evi G M' as σ x σ1) (hn : as.length = n) (hst : st = as.reverse ++ rest) (hw : (rest.map fun v => v.category).sum ≤ 8) (k : WP G M (pc + 3) L (.int x :: rest) σ1 P) : WP G M pc L st σ P :=
  w_callN0 d ml mv hR ev hn hst hw (fun v σ' h => by obtain ⟨rfl, rfl⟩ := h; exact k)
theorem w_callVl {x : Int64} (d : decode M.2.2.1 pc = .ok (.invokevirtual idx, 3)) (ml : Cond.methodLink M.1 idx M'.2.1 ∈ gt) (mv : MV M' n) (hR : fitR M M' = true) (hc : kd c = ci) (h8 : ci < 8) (hC : (clC ci).1 = M'.1) (ev : Evl G M' (.ref c :: as) σ x σ1) (hn : as.length = n) (hst : st = as.reverse ++ .ref c :: rest) (hw : (rest.map fun v => v.category).sum ≤ 8) (k : WP G M (pc + 3) L (.long x :: rest) σ1 P) : WP G M pc L st σ P :=
  w_callV0 d ml mv hR (rec_obj hc h8 hC) ev hn hst hw (fun v σ' h => by obtain ⟨rfl, rfl⟩ := h; exact k)
theorem w_callSl {x : Int64} (d : decode M.2.2.1 pc = .ok (.invokestatic idx, 3)) (ml : Cond.methodLink M.1 idx M'.2.1 ∈ gt) (mv : MS M' n) (hR : fitR M M' = true) (ev : Evl G M' as σ x σ1) (hn : as.length = n) (hst : st = as.reverse ++ rest) (hw : (rest.map fun v => v.category).sum ≤ 8) (k : WP G M (pc + 3) L (.long x :: rest) σ1 P) : WP G M pc L st σ P :=
  w_callS0 d ml mv hR ev hn hst hw (fun v σ' h => by obtain ⟨rfl, rfl⟩ := h; exact k)
theorem w_callNl {x : Int64} {host : String} (d : decode M.2.2.1 pc = .ok (.invokestatic idx, 3)) (ml : (M.1, idx, M'.2.1, host) ∈ nstL) (mv : MS M' n) (hR : fitR M M' = true) (ev : Evl G M' as σ x σ1) (hn : as.length = n) (hst : st = as.reverse ++ rest) (hw : (rest.map fun v => v.category).sum ≤ 8) (k : WP G M (pc + 3) L (.long x :: rest) σ1 P) : WP G M pc L st σ P :=
  w_callN0 d ml mv hR ev hn hst hw (fun v σ' h => by obtain ⟨rfl, rfl⟩ := h; exact k)
theorem w_callVr {x : Nat} (d : decode M.2.2.1 pc = .ok (.invokevirtual idx, 3)) (ml : Cond.methodLink M.1 idx M'.2.1 ∈ gt) (mv : MV M' n) (hR : fitR M M' = true) (hc : kd c = ci) (h8 : ci < 8) (hC : (clC ci).1 = M'.1) (ev : Evr G M' (.ref c :: as) σ x σ1) (hn : as.length = n) (hst : st = as.reverse ++ .ref c :: rest) (hw : (rest.map fun v => v.category).sum ≤ 8) (k : WP G M (pc + 3) L (.ref x :: rest) σ1 P) : WP G M pc L st σ P :=
  w_callV0 d ml mv hR (rec_obj hc h8 hC) ev hn hst hw (fun v σ' h => by obtain ⟨rfl, rfl⟩ := h; exact k)
theorem w_callSr {x : Nat} (d : decode M.2.2.1 pc = .ok (.invokestatic idx, 3)) (ml : Cond.methodLink M.1 idx M'.2.1 ∈ gt) (mv : MS M' n) (hR : fitR M M' = true) (ev : Evr G M' as σ x σ1) (hn : as.length = n) (hst : st = as.reverse ++ rest) (hw : (rest.map fun v => v.category).sum ≤ 8) (k : WP G M (pc + 3) L (.ref x :: rest) σ1 P) : WP G M pc L st σ P :=
  w_callS0 d ml mv hR ev hn hst hw (fun v σ' h => by obtain ⟨rfl, rfl⟩ := h; exact k)
theorem w_callNr {x : Nat} {host : String} (d : decode M.2.2.1 pc = .ok (.invokestatic idx, 3)) (ml : (M.1, idx, M'.2.1, host) ∈ nstL) (mv : MS M' n) (hR : fitR M M' = true) (ev : Evr G M' as σ x σ1) (hn : as.length = n) (hst : st = as.reverse ++ rest) (hw : (rest.map fun v => v.category).sum ≤ 8) (k : WP G M (pc + 3) L (.ref x :: rest) σ1 P) : WP G M pc L st σ P :=
  w_callN0 d ml mv hR ev hn hst hw (fun v σ' h => by obtain ⟨rfl, rfl⟩ := h; exact k)
theorem w_callVv (d : decode M.2.2.1 pc = .ok (.invokevirtual idx, 3)) (ml : Cond.methodLink M.1 idx M'.2.1 ∈ gt) (mv : MV M' n) (hR : fitR M M' = true) (hc : kd c = ci) (h8 : ci < 8) (hC : (clC ci).1 = M'.1) (ev : Evv G M' (.ref c :: as) σ σ1) (hn : as.length = n) (hst : st = as.reverse ++ .ref c :: rest) (hw : (rest.map fun v => v.category).sum ≤ 8) (k : WP G M (pc + 3) L rest σ1 P) : WP G M pc L st σ P :=
  w_callV0 d ml mv hR (rec_obj hc h8 hC) ev hn hst hw (fun v σ' h => by obtain ⟨rfl, rfl⟩ := h; exact k)
theorem w_callSv (d : decode M.2.2.1 pc = .ok (.invokestatic idx, 3)) (ml : Cond.methodLink M.1 idx M'.2.1 ∈ gt) (mv : MS M' n) (hR : fitR M M' = true) (ev : Evv G M' as σ σ1) (hn : as.length = n) (hst : st = as.reverse ++ rest) (hw : (rest.map fun v => v.category).sum ≤ 8) (k : WP G M (pc + 3) L rest σ1 P) : WP G M pc L st σ P :=
  w_callS0 d ml mv hR ev hn hst hw (fun v σ' h => by obtain ⟨rfl, rfl⟩ := h; exact k)
theorem w_callVp {P' : Option Value → Sg → Prop} (d : decode M.2.2.1 pc = .ok (.invokevirtual idx, 3)) (ml : Cond.methodLink M.1 idx M'.2.1 ∈ gt) (mv : MV M' n) (hR : fitR M M' = true) (hc : kd c = ci) (h8 : ci < 8) (hC : (clC ci).1 = M'.1) (ev : Ev G M' (.ref c :: as) σ P') (hn : as.length = n) (hst : st = as.reverse ++ .ref c :: rest) (hw : (rest.map fun v => v.category).sum ≤ 8) (k : ∀ v σ', P' v σ' → WP G M (pc + 3) L (v.toList ++ rest) σ' P) : WP G M pc L st σ P :=
  w_callV0 d ml mv hR (rec_obj hc h8 hC) ev hn hst hw k
-- Math
theorem w_max {x y : Int32} (d : decode M.2.2.1 pc = .ok (.invokestatic idx, 3)) (ml : Cond.methodLink M.1 idx Lib.Math.max.name ∈ gt) (mm : Cond.static Lib.Math.max.name ∈ gt ∧ Cond.initialized "java/lang/Math" ∈ gt ∧ Cond.code Lib.Math.max.name Lib.Math.max.code 2 (some .int) ∈ gt) (hR : (decide (1 ≤ M.2.2.2.2.2.1) && decide ((st.map fun v => v.category).sum + 13 ≤ M.2.2.2.2.2.2)) = true)
    (k : WP G M (pc + 3) L (.int (if x < y then y else x) :: st) σ P) : WP G M pc L (.int y :: .int x :: st) σ P := by
  intro l p e s m args below meth cd H locs ls C hW hS hl
  simp only [Bool.and_eq_true, decide_eq_true_eq] at hR
  exact va_mmax C.1 C.2.1 (C.2.2.2.1.trans hl.1.symm) C.2.2.2.2.1 (hts_gt C _ ml) (hts_gt C _ mm.1) (hts_gt C _ mm.2.1) (hts_gt C _ mm.2.2) hR.1 (by rw [cat_map]; exact hR.2) (Nat.zero_le _) (Nat.zero_le _) d (k l p e s m args below meth cd H locs ls C hW hS hl)
theorem w_min {x y : Int32} (d : decode M.2.2.1 pc = .ok (.invokestatic idx, 3)) (ml : Cond.methodLink M.1 idx Lib.Math.min.name ∈ gt) (mm : Cond.static Lib.Math.min.name ∈ gt ∧ Cond.initialized "java/lang/Math" ∈ gt ∧ Cond.code Lib.Math.min.name Lib.Math.min.code 2 (some .int) ∈ gt) (hR : (decide (1 ≤ M.2.2.2.2.2.1) && decide ((st.map fun v => v.category).sum + 13 ≤ M.2.2.2.2.2.2)) = true)
    (k : WP G M (pc + 3) L (.int (if y < x then y else x) :: st) σ P) : WP G M pc L (.int y :: .int x :: st) σ P := by
  intro l p e s m args below meth cd H locs ls C hW hS hl
  simp only [Bool.and_eq_true, decide_eq_true_eq] at hR
  exact va_mmin C.1 C.2.1 (C.2.2.2.1.trans hl.1.symm) C.2.2.2.2.1 (hts_gt C _ ml) (hts_gt C _ mm.1) (hts_gt C _ mm.2.1) (hts_gt C _ mm.2.2) hR.1 (by rw [cat_map]; exact hR.2) (Nat.zero_le _) (Nat.zero_le _) d (k l p e s m args below meth cd H locs ls C hW hS hl)
theorem w_abs {x : Int32} (d : decode M.2.2.1 pc = .ok (.invokestatic idx, 3)) (ml : Cond.methodLink M.1 idx Lib.Math.abs.name ∈ gt) (mm : Cond.static Lib.Math.abs.name ∈ gt ∧ Cond.initialized "java/lang/Math" ∈ gt ∧ Cond.code Lib.Math.abs.name Lib.Math.abs.code 1 (some .int) ∈ gt) (hR : (decide (1 ≤ M.2.2.2.2.2.1) && decide ((st.map fun v => v.category).sum + 13 ≤ M.2.2.2.2.2.2)) = true)
    (k : WP G M (pc + 3) L (.int (if 0 ≤ x then x else 0 - x) :: st) σ P) : WP G M pc L (.int x :: st) σ P := by
  intro l p e s m args below meth cd H locs ls C hW hS hl
  simp only [Bool.and_eq_true, decide_eq_true_eq] at hR
  exact va_mabs C.1 C.2.1 (C.2.2.2.1.trans hl.1.symm) C.2.2.2.2.1 (hts_gt C _ ml) (hts_gt C _ mm.1) (hts_gt C _ mm.2.1) (hts_gt C _ mm.2.2) hR.1 (by rw [cat_map]; exact hR.2) (Nat.zero_le _) (Nat.zero_le _) d (k l p e s m args below meth cd H locs ls C hW hS hl)
-- the tables LEAST (98) and MOST (99)
theorem w_gets98 (d : decode M.2.2.1 pc = .ok (.getstatic idx, 3)) (f : Cond.fieldLink M.1 idx RX0 "LEAST" "[I" ∈ gt) (k : WP G M (pc + 3) L (.ref 98 :: st) σ P) : WP G M pc L st σ P :=
  fun l p e s m args below meth cd H locs ls C hW hS hl => va_gets C.1 C.2.1 C.2.2.2.2.2.2.2.2.2.1.1 hS C.2.2.2.2.1 (hts_gt C _ f) (fun _ h => h) d (k l p e s m args below meth cd H locs ls C hW hS hl)
theorem w_gets99 (d : decode M.2.2.1 pc = .ok (.getstatic idx, 3)) (f : Cond.fieldLink M.1 idx RX0 "MOST" "[I" ∈ gt) (k : WP G M (pc + 3) L (.ref 99 :: st) σ P) : WP G M pc L st σ P :=
  fun l p e s m args below meth cd H locs ls C hW hS hl => va_gets C.1 C.2.1 C.2.2.2.2.2.2.2.2.2.2.1.1 hS C.2.2.2.2.1 (hts_gt C _ f) (fun _ h => h) d (k l p e s m args below meth cd H locs ls C hW hS hl)
theorem w_ild98 {i : Int32} {j : Nat} (d : decode M.2.2.1 pc = .ok (.iaload, 1)) (hi : i = nI j) (hj : j < 5) (k : WP G M (pc + 1) L (.int (lstF j) :: st) σ P) : WP G M pc L (.int i :: .ref 98 :: st) σ P := by
  intro l p e s m args below meth cd H locs ls C hW hS hl
  exact va_ti C.1 C.2.1 C.2.2.2.2.2.2.2.2.2.1.2 hS (by rw [hi]; exact vp_in_nI hj (by decide)) (by rw [nI_cl hi (by omega)]; rfl) d (k l p e s m args below meth cd H locs ls C hW hS hl)
theorem w_ild99 {i : Int32} {j : Nat} (d : decode M.2.2.1 pc = .ok (.iaload, 1)) (hi : i = nI j) (hj : j < 5) (k : WP G M (pc + 1) L (.int (mstF j) :: st) σ P) : WP G M pc L (.int i :: .ref 99 :: st) σ P := by
  intro l p e s m args below meth cd H locs ls C hW hS hl
  exact va_ti C.1 C.2.1 C.2.2.2.2.2.2.2.2.2.2.1.2 hS (by rw [hi]; exact vp_in_nI hj (by decide)) (by rw [nI_cl hi (by omega)]; rfl) d (k l p e s m args below meth cd H locs ls C hW hS hl)
-- texts: string i is 100 + i, its bytes 200 + i
theorem stS {p : Program} {s : State} {m : MethodId} {args : Array Value} {meth : Method} {c : Code} (C : Cx G M p s m args meth c) : vk_S 17 sLen sByt (fun i => G.2.1 (100 + i)) (fun i => G.2.1 (200 + i)) (AG G) s s.heap := C.2.2.2.2.2.2.2.2.2.2.2.2.1
theorem w_ldcS {i : Nat} (hi : i < 17) (d : decode M.2.2.1 pc = .ok (.ldc (sIx.getD i 0), 2)) (hM : M.1 = RX2) (k : WP G M (pc + 2) L (.ref (100 + i) :: st) σ P) : WP G M pc L st σ P := by
  intro l p e s m args below meth cd H locs ls C hW hS hl
  have h := C.2.2.2.2.2.2.2.2.2.2.2.2.2.1 i hi
  exact va_ldcS C.1 C.2.1 (hM ▸ C.2.2.2.2.1) h d (k l p e s m args below meth cd H locs ls C hW hS hl)
theorem w_strV {i : Nat} (hi : i < 17) (d : decode M.2.2.1 pc = .ok (.getfield idx, 3)) (f : Cond.fieldLink M.1 idx "java/lang/String" "value" "[B" ∈ gt) (k : WP G M (pc + 3) L (.ref (200 + i) :: st) σ P) : WP G M pc L (.ref (100 + i) :: st) σ P :=
  fun l p e s m args below meth cd H locs ls C hW hS hl => vk_getf C.1 C.2.1 ((stS C).1 i hi).2.2.1 hS C.2.2.2.2.1 (hts_gt C _ f) (fun _ h => h) d (k l p e s m args below meth cd H locs ls C hW hS hl)
theorem w_strC {i : Nat} (hi : i < 17) (d : decode M.2.2.1 pc = .ok (.getfield idx, 3)) (f : Cond.fieldLink M.1 idx "java/lang/String" "coder" "B" ∈ gt) (k : WP G M (pc + 3) L (.int 0 :: st) σ P) : WP G M pc L (.ref (100 + i) :: st) σ P :=
  fun l p e s m args below meth cd H locs ls C hW hS hl => vk_getf C.1 C.2.1 ((stS C).1 i hi).2.1 hS C.2.2.2.2.1 (hts_gt C _ f) (fun _ h => h) d (k l p e s m args below meth cd H locs ls C hW hS hl)
theorem w_strLen {i : Nat} (hi : i < 17) (d : decode M.2.2.1 pc = .ok (.arraylength, 1)) (k : WP G M (pc + 1) L (.int (nI (sLen.getD i 0)) :: st) σ P) : WP G M pc L (.ref (200 + i) :: st) σ P :=
  fun l p e s m args below meth cd H locs ls C hW hS hl => va_tlen C.1 C.2.1 ((stS C).1 i hi).2.2.2 hS rfl d (k l p e s m args below meth cd H locs ls C hW hS hl)
theorem sLen_lt : ∀ i, i < 17 → sLen.getD i 0 < 2 ^ 31 := by decide +kernel
theorem w_bald {i j : Nat} {x : Int32} (hi : i < 17) (d : decode M.2.2.1 pc = .ok (.baload, 1)) (hx : x = nI j) (hj : j < sLen.getD i 0) (k : WP G M (pc + 1) L (.int ((sByt.getD i []).getD j 0) :: st) σ P) : WP G M pc L (.int x :: .ref (200 + i) :: st) σ P := by
  intro l p e s m args below meth cd H locs ls C hW hS hl
  have := sLen_lt i hi
  exact va_tb C.1 C.2.1 ((stS C).1 i hi).2.2.2 hS (by rw [hx]; exact vp_in_nI hj this) (by rw [nI_cl hx (by omega)]; rfl) d (k l p e s m args below meth cd H locs ls C hW hS hl)
theorem w_getsCS (d : decode M.2.2.1 pc = .ok (.getstatic idx, 3)) (f : Cond.fieldLink M.1 idx RJ0 "COMPACT_STRINGS" "Z" ∈ gt) (k : WP G M (pc + 3) L (.int 1 :: st) σ P) : WP G M pc L st σ P :=
  fun l p e s m args below meth cd H locs ls C hW hS hl => va_gets C.1 C.2.1 C.2.2.2.2.2.2.2.2.2.2.2.2.2.2.1 hS C.2.2.2.2.1 (hts_gt C _ f) (fun _ h => h) d (k l p e s m args below meth cd H locs ls C hW hS hl)
theorem w_getsSF (d : decode M.2.2.1 pc = .ok (.getstatic idx, 3)) (f : Cond.fieldLink M.1 idx RJ3 "SIOOBE_FORMATTER" "Ljava/util/function/BiFunction;" ∈ gt) (k : ∀ v, v = .null ∨ v = .ref 97 → WP G M (pc + 3) L (v :: st) σ P) : WP G M pc L st σ P := by
  intro l p e s m args below meth cd H locs ls C hW hS hl
  rcases C.2.2.2.2.2.2.2.2.2.2.2.2.2.2.2 with h | h
  · exact va_gets C.1 C.2.1 h hS C.2.2.2.2.1 (hts_gt C _ f) (fun _ h => h) d (k .null (Or.inl rfl) l p e s m args below meth cd H locs ls C hW hS hl)
  · exact va_gets C.1 C.2.1 h hS C.2.2.2.2.1 (hts_gt C _ f) (fun _ h => h) d (k (.ref 97) (Or.inr rfl) l p e s m args below meth cd H locs ls C hW hS hl)
theorem w_strCall {i : Nat} {x : Int32} (hi : i < 17) (d : decode M.2.2.1 pc = .ok (.invokevirtual idx, 3)) (ml : Cond.methodLink M.1 idx M'.2.1 ∈ gt) (mv : MV M' n) (hR : fitR M M' = true) (hM : M'.1 = "java/lang/String") (ev : Evi G M' (.ref (100 + i) :: as) σ x σ1) (hn : as.length = n) (hst : st = as.reverse ++ .ref (100 + i) :: rest) (hw : (rest.map fun v => v.category).sum ≤ 8) (k : WP G M (pc + 3) L (.int x :: rest) σ1 P) : WP G M pc L st σ P :=
  w_callV0 d ml mv hR (fun C _ hS => by rw [hM]; exact vk_recv (adK := fun i => G.2.1 (100 + i)) (i := i) (stS C) hi hS) ev hn hst hw (fun v σ' h => by obtain ⟨rfl, rfl⟩ := h; exact k)
-- arraycopy of longs
def cpL (σ : Sg) (a sp b dp n : Nat) : Sg := (σ.1, fun c' k' => if c' = b then va_cpy (σ.2.1 a) (σ.2.1 b) sp dp n k' else σ.2.1 c' k', σ.2.2)
theorem w_copy {a b sp dp m0 : Nat} {isp idp im : Int32} (d : decode M.2.2.1 pc = .ok (.invokestatic idx, 3)) (ml : Cond.methodLink M.1 idx arraycopyName ∈ gt) (mm : Cond.native arraycopyName ∈ gt ∧ Cond.static arraycopyName ∈ gt ∧ Cond.initialized "java/lang/System" ∈ gt) (ha : kd a = 9) (hb : kd b = 9) (h1 : isp = nI sp) (h2 : idp = nI dp) (h3 : im = nI m0) (h4 : sp + m0 ≤ ln a) (h5 : dp + m0 ≤ ln b) (hR : (decide (1 ≤ M.2.2.2.2.2.1) && decide ((st.map fun v => v.category).sum + (nativeFrameWords "java/lang/System" "arraycopy" 5 + 11) ≤ M.2.2.2.2.2.2)) = true)
    (k : WP G M (pc + 3) L st (cpL σ a sp b dp m0) P) : WP G M pc L (.int im :: .int idp :: .ref b :: .int isp :: .ref a :: st) σ P := by
  intro l p e s m args below meth cd H locs ls C hW hS hl
  simp only [Bool.and_eq_true, decide_eq_true_eq] at hR
  have hA := kd_lt ha (by omega)
  have hB := kd_lt hb (by omega)
  have l1 := ln_lt a
  have l2 := ln_lt b
  have c1 := nI_cl h1 (by omega)
  have c2 := nI_cl h2 (by omega)
  have c3 := nI_cl h3 (by omega)
  refine va_copyl (D := G.1) (A := AG G) (ws := wsW G σ) (f := σ.2.1 a) (g := σ.2.1 b) (c0 := G.2.2 1) (c1 := G.2.2 1) (n0 := ln a) (n1 := ln b) (ty := .long) C.1 C.2.1 (C.2.2.2.1.trans hl.1.symm) C.2.2.2.2.1 (hts_gt C _ ml) (hts_gt C _ mm.1) (hts_gt C _ mm.2.1) (hts_gt C _ mm.2.2) C.2.2.2.2.2.2.2.2.1 hW (wsW_D C.2.2.2.2.2.2.2.1) hS a b 1 1 (by rw [wsW_at hA, cell_L ha]) (by rw [wsW_at hB, cell_L hb]) rfl rfl rfl (by rw [h1]; exact nI_pos (by omega)) (by rw [h2]; exact nI_pos (by omega)) (by rw [h3]; exact nI_pos (by omega)) (by rw [c1, c3]; exact h4) (by rw [c2, c3]; exact h5) (fun _ _ => rfl) hR.1 (by rw [cat_map]; exact hR.2) d (fun H1 locs1 hP hD hS1 => ?_)
  rw [c1, c2, c3] at hP
  rw [wsW_set (G := G) (σ := σ) (σ' := cpL σ a sp b dp m0) hB ?_ (fun d hd => cellOf_cong (fun _ => rfl) (fun k => by show (if d = b then _ else _) = _; rw [if_neg hd]) (fun _ => rfl))] at hP
  · exact k l p e s m args below meth cd H1 locs1 ls C hP hS1 hl
  · rw [cell_L hb]
    have e1 : (cpL σ a sp b dp m0).2.1 b = va_cpy (σ.2.1 a) (σ.2.1 b) sp dp m0 := by
      funext z
      show (if b = b then _ else _) = _
      rw [if_pos rfl]
    rw [e1]
end MORE
set_option maxRecDepth 100000 in
theorem mm_max : Cond.static Lib.Math.max.name ∈ gt ∧ Cond.initialized "java/lang/Math" ∈ gt ∧ Cond.code Lib.Math.max.name Lib.Math.max.code 2 (some .int) ∈ gt := ⟨gt_at 342 (by decide +kernel) (by decide +kernel), gt_at 69 (by decide +kernel) (by decide +kernel), gt_at 343 rfl rfl⟩
set_option maxRecDepth 100000 in
theorem mm_min : Cond.static Lib.Math.min.name ∈ gt ∧ Cond.initialized "java/lang/Math" ∈ gt ∧ Cond.code Lib.Math.min.name Lib.Math.min.code 2 (some .int) ∈ gt := ⟨gt_at 443 (by decide +kernel) (by decide +kernel), gt_at 69 (by decide +kernel) (by decide +kernel), gt_at 444 rfl rfl⟩
set_option maxRecDepth 100000 in
theorem mm_abs : Cond.static Lib.Math.abs.name ∈ gt ∧ Cond.initialized "java/lang/Math" ∈ gt ∧ Cond.code Lib.Math.abs.name Lib.Math.abs.code 1 (some .int) ∈ gt := ⟨gt_at 339 (by decide +kernel) (by decide +kernel), gt_at 69 (by decide +kernel) (by decide +kernel), gt_at 340 rfl rfl⟩
theorem mm_copy : Cond.native arraycopyName ∈ gt ∧ Cond.static arraycopyName ∈ gt ∧ Cond.initialized "java/lang/System" ∈ gt := ⟨gt_at 784 (by decide +kernel) (by decide +kernel), gt_at 783 (by decide +kernel) (by decide +kernel), gt_at 75 (by decide +kernel) (by decide +kernel)⟩
theorem mi_X3_33 : Cond.methodLink RX3 33 Lib.Math.abs.name ∈ gt := gt_at 338 (by decide +kernel) (by decide +kernel)
theorem mi_X3_39 : Cond.methodLink RX3 39 Lib.Math.max.name ∈ gt := gt_at 341 (by decide +kernel) (by decide +kernel)
theorem mi_X6_266 : Cond.methodLink RX6 266 Lib.Math.min.name ∈ gt := gt_at 442 (by decide +kernel) (by decide +kernel)
theorem mi_X0_49 : Cond.methodLink RX0 49 Lib.Math.min.name ∈ gt := gt_at 455 (by decide +kernel) (by decide +kernel)
theorem mi_X6_260 : Cond.methodLink RX6 260 arraycopyName ∈ gt := gt_at 782 (by decide +kernel) (by decide +kernel)
theorem fs_X0_31 : Cond.fieldLink RX0 31 RX0 "LEAST" "[I" ∈ gt := gt_at 281 (by decide +kernel) (by decide +kernel)
theorem fs_X0_35 : Cond.fieldLink RX0 35 RX0 "MOST" "[I" ∈ gt := gt_at 283 (by decide +kernel) (by decide +kernel)
theorem fs_J0_38 : Cond.fieldLink RJ0 38 RJ0 "COMPACT_STRINGS" "Z" ∈ gt := gt_at 655 (by decide +kernel) (by decide +kernel)
theorem fs_J0_1053 : Cond.fieldLink RJ0 1053 RJ3 "SIOOBE_FORMATTER" "Ljava/util/function/BiFunction;" ∈ gt := gt_at 671 (by decide +kernel) (by decide +kernel)
theorem fs_J0_9 : Cond.fieldLink RJ0 9 "java/lang/String" "value" "[B" ∈ gt := gt_at 1302 (by decide +kernel) (by decide +kernel)
theorem fs_J0_15 : Cond.fieldLink RJ0 15 "java/lang/String" "coder" "B" ∈ gt := gt_at 1303 (by decide +kernel) (by decide +kernel)
end
section
/-! rows that the walks use: entry, numbers, constants, switches, kinds of cells -/
theorem ent_in {G : GT} : ∀ (as : List Value) (m k i : Nat) (v : Value), (ent as ++ List.replicate m none)[i]? = some (some v) → (k + i, cv G v) ∈ lv_args k (as.map (cv G))
  | [], m, k, i, v, h => by
    simp only [ent, List.nil_append, List.getElem?_replicate] at h
    split at h <;> simp at h
  | a :: as, m, k, i, v, h => by
    simp only [List.map_cons, lv_args, cv_cat]
    unfold ent at h
    by_cases hc : a.category = 2
    · rw [if_pos hc] at h ⊢
      match i, h with
      | 0, h =>
        simp at h
        subst h
        exact List.mem_cons_self
      | 1, h => simp at h
      | i + 2, h =>
        have := ent_in (G := G) as m (k + 2) i v (by simpa using h)
        rw [show k + 2 + i = k + (i + 2) by omega] at this
        exact List.mem_cons_of_mem _ this
    · rw [if_neg hc] at h ⊢
      match i, h with
      | 0, h =>
        simp at h
        subst h
        exact List.mem_cons_self
      | i + 1, h =>
        have := ent_in (G := G) as m (k + 1) i v (by simpa using h)
        rw [show k + 1 + i = k + (i + 1) by omega] at this
        exact List.mem_cons_of_mem _ this
section BASE
variable {G : GT} {M : MT} {pc : Nat} {L : List (Option Value)} {st : List Value} {σ : Sg} {P : Option Value → Sg → Prop}
theorem Ev.ofL {as : List Value} {m : Nat} (hy : plainName M.2.1.cls = true) (hl : (lg_sl as).length ≤ M.2.2.2.1) (hn : M.2.1.cls = M.1) (hL : ent as ++ List.replicate m none = L) (k : WP G M 0 L [] σ P) : Ev G M as σ P := by
  refine Ev.of hy ?_ hn (L := L) (fun i v h => ?_) k
  · have e : ∀ as : List Value, (lg_sl (as.map (cv G))).length = (lg_sl as).length := by
      intro as
      induction as with
      | nil => rfl
      | cons a as ih =>
        simp only [lg_sl, List.map_cons, List.flatMap_cons, List.length_append, cv_cat] at ih ⊢
        rw [ih]
        split <;> rfl
    rw [e]
    exact hl
  · rw [← hL] at h
    have := ent_in (G := G) as m 0 i v h
    rwa [Nat.zero_add] at this
theorem w_iaddN {a b : Nat} (d : decode M.2.2.1 pc = .ok (.iadd, 1)) (k : WP G M (pc + 1) L (.int (nI (a + b)) :: st) σ P) : WP G M pc L (.int (nI b) :: .int (nI a) :: st) σ P := w_iadd d (by rw [nI_add]; exact k)
theorem w_imulN {a b : Nat} (d : decode M.2.2.1 pc = .ok (.imul, 1)) (k : WP G M (pc + 1) L (.int (nI (a * b)) :: st) σ P) : WP G M pc L (.int (nI b) :: .int (nI a) :: st) σ P := w_imul d (by rw [pk_mul]; exact k)
theorem w_iincN {i : Nat} {n : Int} {a b : Nat} {L' : List (Option Value)} (d : decode M.2.2.1 pc = .ok (.iinc i n, 3)) (h : L[i]? = some (some (.int (nI a)))) (hb : Int32.ofInt n = nI b) (hn : i < M.2.2.2.1) (ho : okS L i = true) (hL : L.set i (some (.int (nI (a + b)))) = L') (k : WP G M (pc + 3) L' st σ P) : WP G M pc L st σ P := w_iinc d h (by rw [hb, nI_add]) hn ho hL k
theorem w_L {L' : List (Option Value)} (h : L = L') (k : WP G M pc L' st σ P) : WP G M pc L st σ P := h ▸ k
theorem w_σ {σ' : Sg} (h : σ = σ') (k : WP G M pc L st σ' P) : WP G M pc L st σ P := h ▸ k
theorem toI_ne {x k : Int32} (h : ¬ x = k) {z : Int} (hz : k.toInt = z) : x.toInt ≠ z := fun e => h (Int32.toInt_inj.mp (e.trans hz.symm))
theorem w2_if_ge {x : Int32} {off : Int} {t : Nat} (d : decode M.2.2.1 pc = .ok (.ifCond .ge off, 3)) (ht : (pc : Int) + off = (t : Int)) (kt : ¬ x < 0 → WP G M t L st σ P) (kf : x < 0 → WP G M (pc + 3) L st σ P) : WP G M pc L (.int x :: st) σ P := w_if_ge d ht (fun h => kt (Int32.not_lt.mpr h)) (fun h => kf (Int32.not_le.mp h))
theorem w2_if_le {x : Int32} {off : Int} {t : Nat} (d : decode M.2.2.1 pc = .ok (.ifCond .le off, 3)) (ht : (pc : Int) + off = (t : Int)) (kt : ¬ 0 < x → WP G M t L st σ P) (kf : 0 < x → WP G M (pc + 3) L st σ P) : WP G M pc L (.int x :: st) σ P := w_if_le d ht (fun h => kt (Int32.not_lt.mpr h)) (fun h => kf (Int32.not_le.mp h))
theorem w2_icmp_ge {x y : Int32} {off : Int} {t : Nat} (d : decode M.2.2.1 pc = .ok (.if_icmp .ge off, 3)) (ht : (pc : Int) + off = (t : Int)) (kt : ¬ x < y → WP G M t L st σ P) (kf : x < y → WP G M (pc + 3) L st σ P) : WP G M pc L (.int y :: .int x :: st) σ P := w_icmp_ge d ht (fun h => kt (Int32.not_lt.mpr h)) (fun h => kf (Int32.not_le.mp h))
theorem w2_icmp_le {x y : Int32} {off : Int} {t : Nat} (d : decode M.2.2.1 pc = .ok (.if_icmp .le off, 3)) (ht : (pc : Int) + off = (t : Int)) (kt : ¬ y < x → WP G M t L st σ P) (kf : y < x → WP G M (pc + 3) L st σ P) : WP G M pc L (.int y :: .int x :: st) σ P := w_icmp_le d ht (fun h => kt (Int32.not_lt.mpr h)) (fun h => kf (Int32.not_le.mp h))
theorem sw_0_3 {x : Int32} (k0 : x = 0 → WP G M pc L (.int x :: st) σ P) (k1 : x = 1 → WP G M pc L (.int x :: st) σ P) (k2 : x = 2 → WP G M pc L (.int x :: st) σ P) (k3 : x = 3 → WP G M pc L (.int x :: st) σ P) (ko : (x.toInt < 0 ∨ 3 < x.toInt) ∧ ¬ x = 0 ∧ ¬ x = 1 ∧ ¬ x = 2 ∧ ¬ x = 3 → WP G M pc L (.int x :: st) σ P) : WP G M pc L (.int x :: st) σ P := by
  by_cases h0 : x = 0
  · exact k0 h0
  by_cases h1 : x = 1
  · exact k1 h1
  by_cases h2 : x = 2
  · exact k2 h2
  by_cases h3 : x = 3
  · exact k3 h3
  have g0 := toI_ne h0 (z := 0) rfl
  have g1 := toI_ne h1 (z := 1) rfl
  have g2 := toI_ne h2 (z := 2) rfl
  have g3 := toI_ne h3 (z := 3) rfl
  exact ko ⟨by omega, h0, h1, h2, h3⟩
theorem sw_0_5 {x : Int32} (k0 : x = 0 → WP G M pc L (.int x :: st) σ P) (k1 : x = 1 → WP G M pc L (.int x :: st) σ P) (k2 : x = 2 → WP G M pc L (.int x :: st) σ P) (k3 : x = 3 → WP G M pc L (.int x :: st) σ P) (k4 : x = 4 → WP G M pc L (.int x :: st) σ P) (k5 : x = 5 → WP G M pc L (.int x :: st) σ P) (ko : (x.toInt < 0 ∨ 5 < x.toInt) ∧ ¬ x = 0 ∧ ¬ x = 1 ∧ ¬ x = 2 ∧ ¬ x = 3 ∧ ¬ x = 4 ∧ ¬ x = 5 → WP G M pc L (.int x :: st) σ P) : WP G M pc L (.int x :: st) σ P := by
  by_cases h0 : x = 0
  · exact k0 h0
  by_cases h1 : x = 1
  · exact k1 h1
  by_cases h2 : x = 2
  · exact k2 h2
  by_cases h3 : x = 3
  · exact k3 h3
  by_cases h4 : x = 4
  · exact k4 h4
  by_cases h5 : x = 5
  · exact k5 h5
  have g0 := toI_ne h0 (z := 0) rfl
  have g1 := toI_ne h1 (z := 1) rfl
  have g2 := toI_ne h2 (z := 2) rfl
  have g3 := toI_ne h3 (z := 3) rfl
  have g4 := toI_ne h4 (z := 4) rfl
  have g5 := toI_ne h5 (z := 5) rfl
  exact ko ⟨by omega, h0, h1, h2, h3, h4, h5⟩
theorem sw_0_4 {x : Int32} (k0 : x = 0 → WP G M pc L (.int x :: st) σ P) (k1 : x = 1 → WP G M pc L (.int x :: st) σ P) (k2 : x = 2 → WP G M pc L (.int x :: st) σ P) (k3 : x = 3 → WP G M pc L (.int x :: st) σ P) (k4 : x = 4 → WP G M pc L (.int x :: st) σ P) (ko : (x.toInt < 0 ∨ 4 < x.toInt) ∧ ¬ x = 0 ∧ ¬ x = 1 ∧ ¬ x = 2 ∧ ¬ x = 3 ∧ ¬ x = 4 → WP G M pc L (.int x :: st) σ P) : WP G M pc L (.int x :: st) σ P := by
  by_cases h0 : x = 0
  · exact k0 h0
  by_cases h1 : x = 1
  · exact k1 h1
  by_cases h2 : x = 2
  · exact k2 h2
  by_cases h3 : x = 3
  · exact k3 h3
  by_cases h4 : x = 4
  · exact k4 h4
  have g0 := toI_ne h0 (z := 0) rfl
  have g1 := toI_ne h1 (z := 1) rfl
  have g2 := toI_ne h2 (z := 2) rfl
  have g3 := toI_ne h3 (z := 3) rfl
  have g4 := toI_ne h4 (z := 4) rfl
  exact ko ⟨by omega, h0, h1, h2, h3, h4⟩
theorem sw_1_5 {x : Int32} (k1 : x = 1 → WP G M pc L (.int x :: st) σ P) (k2 : x = 2 → WP G M pc L (.int x :: st) σ P) (k3 : x = 3 → WP G M pc L (.int x :: st) σ P) (k4 : x = 4 → WP G M pc L (.int x :: st) σ P) (k5 : x = 5 → WP G M pc L (.int x :: st) σ P) (ko : (x.toInt < 1 ∨ 5 < x.toInt) ∧ ¬ x = 1 ∧ ¬ x = 2 ∧ ¬ x = 3 ∧ ¬ x = 4 ∧ ¬ x = 5 → WP G M pc L (.int x :: st) σ P) : WP G M pc L (.int x :: st) σ P := by
  by_cases h1 : x = 1
  · exact k1 h1
  by_cases h2 : x = 2
  · exact k2 h2
  by_cases h3 : x = 3
  · exact k3 h3
  by_cases h4 : x = 4
  · exact k4 h4
  by_cases h5 : x = 5
  · exact k5 h5
  have g1 := toI_ne h1 (z := 1) rfl
  have g2 := toI_ne h2 (z := 2) rfl
  have g3 := toI_ne h3 (z := 3) rfl
  have g4 := toI_ne h4 (z := 4) rfl
  have g5 := toI_ne h5 (z := 5) rfl
  exact ko ⟨by omega, h1, h2, h3, h4, h5⟩
theorem sw_7_9 {x : Int32} (k7 : x = 7 → WP G M pc L (.int x :: st) σ P) (k8 : x = 8 → WP G M pc L (.int x :: st) σ P) (k9 : x = 9 → WP G M pc L (.int x :: st) σ P) (ko : (x.toInt < 7 ∨ 9 < x.toInt) ∧ ¬ x = 7 ∧ ¬ x = 8 ∧ ¬ x = 9 → WP G M pc L (.int x :: st) σ P) : WP G M pc L (.int x :: st) σ P := by
  by_cases h7 : x = 7
  · exact k7 h7
  by_cases h8 : x = 8
  · exact k8 h8
  by_cases h9 : x = 9
  · exact k9 h9
  have g7 := toI_ne h7 (z := 7) rfl
  have g8 := toI_ne h8 (z := 8) rfl
  have g9 := toI_ne h9 (z := 9) rfl
  exact ko ⟨by omega, h7, h8, h9⟩
theorem sw_0_42 {x : Int32} (k0 : x = 0 → WP G M pc L (.int x :: st) σ P) (k1 : x = 1 → WP G M pc L (.int x :: st) σ P) (k2 : x = 2 → WP G M pc L (.int x :: st) σ P) (k3 : x = 3 → WP G M pc L (.int x :: st) σ P) (k4 : x = 4 → WP G M pc L (.int x :: st) σ P) (k5 : x = 5 → WP G M pc L (.int x :: st) σ P) (k6 : x = 6 → WP G M pc L (.int x :: st) σ P) (k7 : x = 7 → WP G M pc L (.int x :: st) σ P) (k8 : x = 8 → WP G M pc L (.int x :: st) σ P) (k9 : x = 9 → WP G M pc L (.int x :: st) σ P) (k10 : x = 10 → WP G M pc L (.int x :: st) σ P) (k11 : x = 11 → WP G M pc L (.int x :: st) σ P) (k12 : x = 12 → WP G M pc L (.int x :: st) σ P) (k13 : x = 13 → WP G M pc L (.int x :: st) σ P) (k14 : x = 14 → WP G M pc L (.int x :: st) σ P) (k15 : x = 15 → WP G M pc L (.int x :: st) σ P) (k16 : x = 16 → WP G M pc L (.int x :: st) σ P) (k17 : x = 17 → WP G M pc L (.int x :: st) σ P) (k18 : x = 18 → WP G M pc L (.int x :: st) σ P) (k19 : x = 19 → WP G M pc L (.int x :: st) σ P) (k20 : x = 20 → WP G M pc L (.int x :: st) σ P) (k21 : x = 21 → WP G M pc L (.int x :: st) σ P) (k22 : x = 22 → WP G M pc L (.int x :: st) σ P) (k23 : x = 23 → WP G M pc L (.int x :: st) σ P) (k24 : x = 24 → WP G M pc L (.int x :: st) σ P) (k25 : x = 25 → WP G M pc L (.int x :: st) σ P) (k26 : x = 26 → WP G M pc L (.int x :: st) σ P) (k27 : x = 27 → WP G M pc L (.int x :: st) σ P) (k28 : x = 28 → WP G M pc L (.int x :: st) σ P) (k29 : x = 29 → WP G M pc L (.int x :: st) σ P) (k30 : x = 30 → WP G M pc L (.int x :: st) σ P) (k31 : x = 31 → WP G M pc L (.int x :: st) σ P) (k32 : x = 32 → WP G M pc L (.int x :: st) σ P) (k33 : x = 33 → WP G M pc L (.int x :: st) σ P) (k34 : x = 34 → WP G M pc L (.int x :: st) σ P) (k35 : x = 35 → WP G M pc L (.int x :: st) σ P) (k36 : x = 36 → WP G M pc L (.int x :: st) σ P) (k37 : x = 37 → WP G M pc L (.int x :: st) σ P) (k38 : x = 38 → WP G M pc L (.int x :: st) σ P) (k39 : x = 39 → WP G M pc L (.int x :: st) σ P) (k40 : x = 40 → WP G M pc L (.int x :: st) σ P) (k41 : x = 41 → WP G M pc L (.int x :: st) σ P) (k42 : x = 42 → WP G M pc L (.int x :: st) σ P) (ko : (x.toInt < 0 ∨ 42 < x.toInt) ∧ ¬ x = 0 ∧ ¬ x = 1 ∧ ¬ x = 2 ∧ ¬ x = 3 ∧ ¬ x = 4 ∧ ¬ x = 5 ∧ ¬ x = 6 ∧ ¬ x = 7 ∧ ¬ x = 8 ∧ ¬ x = 9 ∧ ¬ x = 10 ∧ ¬ x = 11 ∧ ¬ x = 12 ∧ ¬ x = 13 ∧ ¬ x = 14 ∧ ¬ x = 15 ∧ ¬ x = 16 ∧ ¬ x = 17 ∧ ¬ x = 18 ∧ ¬ x = 19 ∧ ¬ x = 20 ∧ ¬ x = 21 ∧ ¬ x = 22 ∧ ¬ x = 23 ∧ ¬ x = 24 ∧ ¬ x = 25 ∧ ¬ x = 26 ∧ ¬ x = 27 ∧ ¬ x = 28 ∧ ¬ x = 29 ∧ ¬ x = 30 ∧ ¬ x = 31 ∧ ¬ x = 32 ∧ ¬ x = 33 ∧ ¬ x = 34 ∧ ¬ x = 35 ∧ ¬ x = 36 ∧ ¬ x = 37 ∧ ¬ x = 38 ∧ ¬ x = 39 ∧ ¬ x = 40 ∧ ¬ x = 41 ∧ ¬ x = 42 → WP G M pc L (.int x :: st) σ P) : WP G M pc L (.int x :: st) σ P := by
  by_cases h0 : x = 0
  · exact k0 h0
  by_cases h1 : x = 1
  · exact k1 h1
  by_cases h2 : x = 2
  · exact k2 h2
  by_cases h3 : x = 3
  · exact k3 h3
  by_cases h4 : x = 4
  · exact k4 h4
  by_cases h5 : x = 5
  · exact k5 h5
  by_cases h6 : x = 6
  · exact k6 h6
  by_cases h7 : x = 7
  · exact k7 h7
  by_cases h8 : x = 8
  · exact k8 h8
  by_cases h9 : x = 9
  · exact k9 h9
  by_cases h10 : x = 10
  · exact k10 h10
  by_cases h11 : x = 11
  · exact k11 h11
  by_cases h12 : x = 12
  · exact k12 h12
  by_cases h13 : x = 13
  · exact k13 h13
  by_cases h14 : x = 14
  · exact k14 h14
  by_cases h15 : x = 15
  · exact k15 h15
  by_cases h16 : x = 16
  · exact k16 h16
  by_cases h17 : x = 17
  · exact k17 h17
  by_cases h18 : x = 18
  · exact k18 h18
  by_cases h19 : x = 19
  · exact k19 h19
  by_cases h20 : x = 20
  · exact k20 h20
  by_cases h21 : x = 21
  · exact k21 h21
  by_cases h22 : x = 22
  · exact k22 h22
  by_cases h23 : x = 23
  · exact k23 h23
  by_cases h24 : x = 24
  · exact k24 h24
  by_cases h25 : x = 25
  · exact k25 h25
  by_cases h26 : x = 26
  · exact k26 h26
  by_cases h27 : x = 27
  · exact k27 h27
  by_cases h28 : x = 28
  · exact k28 h28
  by_cases h29 : x = 29
  · exact k29 h29
  by_cases h30 : x = 30
  · exact k30 h30
  by_cases h31 : x = 31
  · exact k31 h31
  by_cases h32 : x = 32
  · exact k32 h32
  by_cases h33 : x = 33
  · exact k33 h33
  by_cases h34 : x = 34
  · exact k34 h34
  by_cases h35 : x = 35
  · exact k35 h35
  by_cases h36 : x = 36
  · exact k36 h36
  by_cases h37 : x = 37
  · exact k37 h37
  by_cases h38 : x = 38
  · exact k38 h38
  by_cases h39 : x = 39
  · exact k39 h39
  by_cases h40 : x = 40
  · exact k40 h40
  by_cases h41 : x = 41
  · exact k41 h41
  by_cases h42 : x = 42
  · exact k42 h42
  have g0 := toI_ne h0 (z := 0) rfl
  have g1 := toI_ne h1 (z := 1) rfl
  have g2 := toI_ne h2 (z := 2) rfl
  have g3 := toI_ne h3 (z := 3) rfl
  have g4 := toI_ne h4 (z := 4) rfl
  have g5 := toI_ne h5 (z := 5) rfl
  have g6 := toI_ne h6 (z := 6) rfl
  have g7 := toI_ne h7 (z := 7) rfl
  have g8 := toI_ne h8 (z := 8) rfl
  have g9 := toI_ne h9 (z := 9) rfl
  have g10 := toI_ne h10 (z := 10) rfl
  have g11 := toI_ne h11 (z := 11) rfl
  have g12 := toI_ne h12 (z := 12) rfl
  have g13 := toI_ne h13 (z := 13) rfl
  have g14 := toI_ne h14 (z := 14) rfl
  have g15 := toI_ne h15 (z := 15) rfl
  have g16 := toI_ne h16 (z := 16) rfl
  have g17 := toI_ne h17 (z := 17) rfl
  have g18 := toI_ne h18 (z := 18) rfl
  have g19 := toI_ne h19 (z := 19) rfl
  have g20 := toI_ne h20 (z := 20) rfl
  have g21 := toI_ne h21 (z := 21) rfl
  have g22 := toI_ne h22 (z := 22) rfl
  have g23 := toI_ne h23 (z := 23) rfl
  have g24 := toI_ne h24 (z := 24) rfl
  have g25 := toI_ne h25 (z := 25) rfl
  have g26 := toI_ne h26 (z := 26) rfl
  have g27 := toI_ne h27 (z := 27) rfl
  have g28 := toI_ne h28 (z := 28) rfl
  have g29 := toI_ne h29 (z := 29) rfl
  have g30 := toI_ne h30 (z := 30) rfl
  have g31 := toI_ne h31 (z := 31) rfl
  have g32 := toI_ne h32 (z := 32) rfl
  have g33 := toI_ne h33 (z := 33) rfl
  have g34 := toI_ne h34 (z := 34) rfl
  have g35 := toI_ne h35 (z := 35) rfl
  have g36 := toI_ne h36 (z := 36) rfl
  have g37 := toI_ne h37 (z := 37) rfl
  have g38 := toI_ne h38 (z := 38) rfl
  have g39 := toI_ne h39 (z := 39) rfl
  have g40 := toI_ne h40 (z := 40) rfl
  have g41 := toI_ne h41 (z := 41) rfl
  have g42 := toI_ne h42 (z := 42) rfl
  exact ko ⟨by omega, h0, h1, h2, h3, h4, h5, h6, h7, h8, h9, h10, h11, h12, h13, h14, h15, h16, h17, h18, h19, h20, h21, h22, h23, h24, h25, h26, h27, h28, h29, h30, h31, h32, h33, h34, h35, h36, h37, h38, h39, h40, h41, h42⟩
theorem sw_0_2 {x : Int32} (k0 : x = 0 → WP G M pc L (.int x :: st) σ P) (k1 : x = 1 → WP G M pc L (.int x :: st) σ P) (k2 : x = 2 → WP G M pc L (.int x :: st) σ P) (ko : (x.toInt < 0 ∨ 2 < x.toInt) ∧ ¬ x = 0 ∧ ¬ x = 1 ∧ ¬ x = 2 → WP G M pc L (.int x :: st) σ P) : WP G M pc L (.int x :: st) σ P := by
  by_cases h0 : x = 0
  · exact k0 h0
  by_cases h1 : x = 1
  · exact k1 h1
  by_cases h2 : x = 2
  · exact k2 h2
  have g0 := toI_ne h0 (z := 0) rfl
  have g1 := toI_ne h1 (z := 1) rfl
  have g2 := toI_ne h2 (z := 2) rfl
  exact ko ⟨by omega, h0, h1, h2⟩
theorem sw_0_1 {x : Int32} (k0 : x = 0 → WP G M pc L (.int x :: st) σ P) (k1 : x = 1 → WP G M pc L (.int x :: st) σ P) (ko : (x.toInt < 0 ∨ 1 < x.toInt) ∧ ¬ x = 0 ∧ ¬ x = 1 → WP G M pc L (.int x :: st) σ P) : WP G M pc L (.int x :: st) σ P := by
  by_cases h0 : x = 0
  · exact k0 h0
  by_cases h1 : x = 1
  · exact k1 h1
  have g0 := toI_ne h0 (z := 0) rfl
  have g1 := toI_ne h1 (z := 1) rfl
  exact ko ⟨by omega, h0, h1⟩
theorem sw_1_4 {x : Int32} (k1 : x = 1 → WP G M pc L (.int x :: st) σ P) (k2 : x = 2 → WP G M pc L (.int x :: st) σ P) (k3 : x = 3 → WP G M pc L (.int x :: st) σ P) (k4 : x = 4 → WP G M pc L (.int x :: st) σ P) (ko : (x.toInt < 1 ∨ 4 < x.toInt) ∧ ¬ x = 1 ∧ ¬ x = 2 ∧ ¬ x = 3 ∧ ¬ x = 4 → WP G M pc L (.int x :: st) σ P) : WP G M pc L (.int x :: st) σ P := by
  by_cases h1 : x = 1
  · exact k1 h1
  by_cases h2 : x = 2
  · exact k2 h2
  by_cases h3 : x = 3
  · exact k3 h3
  by_cases h4 : x = 4
  · exact k4 h4
  have g1 := toI_ne h1 (z := 1) rfl
  have g2 := toI_ne h2 (z := 2) rfl
  have g3 := toI_ne h3 (z := 3) rfl
  have g4 := toI_ne h4 (z := 4) rfl
  exact ko ⟨by omega, h1, h2, h3, h4⟩
end BASE
theorem ic_m20 : Int32.ofInt (-20) = (-20) := by decide
theorem ic_m19 : Int32.ofInt (-19) = (-19) := by decide
theorem ic_m18 : Int32.ofInt (-18) = (-18) := by decide
theorem ic_m17 : Int32.ofInt (-17) = (-17) := by decide
theorem ic_m16 : Int32.ofInt (-16) = (-16) := by decide
theorem ic_m15 : Int32.ofInt (-15) = (-15) := by decide
theorem ic_m14 : Int32.ofInt (-14) = (-14) := by decide
theorem ic_m13 : Int32.ofInt (-13) = (-13) := by decide
theorem ic_m12 : Int32.ofInt (-12) = (-12) := by decide
theorem ic_m11 : Int32.ofInt (-11) = (-11) := by decide
theorem ic_m10 : Int32.ofInt (-10) = (-10) := by decide
theorem ic_m9 : Int32.ofInt (-9) = (-9) := by decide
theorem ic_m8 : Int32.ofInt (-8) = (-8) := by decide
theorem ic_m7 : Int32.ofInt (-7) = (-7) := by decide
theorem ic_m6 : Int32.ofInt (-6) = (-6) := by decide
theorem ic_m5 : Int32.ofInt (-5) = (-5) := by decide
theorem ic_m4 : Int32.ofInt (-4) = (-4) := by decide
theorem ic_m3 : Int32.ofInt (-3) = (-3) := by decide
theorem ic_m2 : Int32.ofInt (-2) = (-2) := by decide
theorem ic_m1 : Int32.ofInt (-1) = (-1) := by decide
theorem ic_0 : Int32.ofInt (0) = 0 := by decide
theorem ic_1 : Int32.ofInt (1) = 1 := by decide
theorem ic_2 : Int32.ofInt (2) = 2 := by decide
theorem ic_3 : Int32.ofInt (3) = 3 := by decide
theorem ic_4 : Int32.ofInt (4) = 4 := by decide
theorem ic_5 : Int32.ofInt (5) = 5 := by decide
theorem ic_6 : Int32.ofInt (6) = 6 := by decide
theorem ic_7 : Int32.ofInt (7) = 7 := by decide
theorem ic_8 : Int32.ofInt (8) = 8 := by decide
theorem ic_9 : Int32.ofInt (9) = 9 := by decide
theorem ic_10 : Int32.ofInt (10) = 10 := by decide
theorem ic_11 : Int32.ofInt (11) = 11 := by decide
theorem ic_12 : Int32.ofInt (12) = 12 := by decide
theorem ic_13 : Int32.ofInt (13) = 13 := by decide
theorem ic_14 : Int32.ofInt (14) = 14 := by decide
theorem ic_15 : Int32.ofInt (15) = 15 := by decide
theorem ic_16 : Int32.ofInt (16) = 16 := by decide
theorem ic_17 : Int32.ofInt (17) = 17 := by decide
theorem ic_18 : Int32.ofInt (18) = 18 := by decide
theorem ic_19 : Int32.ofInt (19) = 19 := by decide
theorem ic_20 : Int32.ofInt (20) = 20 := by decide
theorem bp_6 : (Int8.ofInt 6).toInt32 = 6 := by decide
theorem bp_7 : (Int8.ofInt 7).toInt32 = 7 := by decide
theorem bp_8 : (Int8.ofInt 8).toInt32 = 8 := by decide
theorem bp_9 : (Int8.ofInt 9).toInt32 = 9 := by decide
theorem bp_10 : (Int8.ofInt 10).toInt32 = 10 := by decide
theorem bp_11 : (Int8.ofInt 11).toInt32 = 11 := by decide
theorem bp_12 : (Int8.ofInt 12).toInt32 = 12 := by decide
theorem bp_13 : (Int8.ofInt 13).toInt32 = 13 := by decide
theorem bp_14 : (Int8.ofInt 14).toInt32 = 14 := by decide
theorem bp_15 : (Int8.ofInt 15).toInt32 = 15 := by decide
theorem bp_16 : (Int8.ofInt 16).toInt32 = 16 := by decide
theorem bp_17 : (Int8.ofInt 17).toInt32 = 17 := by decide
theorem bp_18 : (Int8.ofInt 18).toInt32 = 18 := by decide
theorem bp_19 : (Int8.ofInt 19).toInt32 = 19 := by decide
theorem bp_20 : (Int8.ofInt 20).toInt32 = 20 := by decide
theorem bp_21 : (Int8.ofInt 21).toInt32 = 21 := by decide
theorem bp_22 : (Int8.ofInt 22).toInt32 = 22 := by decide
theorem bp_23 : (Int8.ofInt 23).toInt32 = 23 := by decide
theorem bp_24 : (Int8.ofInt 24).toInt32 = 24 := by decide
theorem bp_25 : (Int8.ofInt 25).toInt32 = 25 := by decide
theorem bp_26 : (Int8.ofInt 26).toInt32 = 26 := by decide
theorem bp_27 : (Int8.ofInt 27).toInt32 = 27 := by decide
theorem bp_28 : (Int8.ofInt 28).toInt32 = 28 := by decide
theorem bp_30 : (Int8.ofInt 30).toInt32 = 30 := by decide
theorem bp_31 : (Int8.ofInt 31).toInt32 = 31 := by decide
theorem bp_32 : (Int8.ofInt 32).toInt32 = 32 := by decide
theorem bp_39 : (Int8.ofInt 39).toInt32 = 39 := by decide
theorem bp_40 : (Int8.ofInt 40).toInt32 = 40 := by decide
theorem bp_47 : (Int8.ofInt 47).toInt32 = 47 := by decide
theorem bp_48 : (Int8.ofInt 48).toInt32 = 48 := by decide
theorem bp_50 : (Int8.ofInt 50).toInt32 = 50 := by decide
theorem bp_56 : (Int8.ofInt 56).toInt32 = 56 := by decide
theorem bp_57 : (Int8.ofInt 57).toInt32 = 57 := by decide
theorem bp_59 : (Int8.ofInt 59).toInt32 = 59 := by decide
theorem bp_60 : (Int8.ofInt 60).toInt32 = 60 := by decide
theorem bp_63 : (Int8.ofInt 63).toInt32 = 63 := by decide
theorem bp_64 : (Int8.ofInt 64).toInt32 = 64 := by decide
theorem bp_65 : (Int8.ofInt 65).toInt32 = 65 := by decide
theorem bp_96 : (Int8.ofInt 96).toInt32 = 96 := by decide
theorem bp_97 : (Int8.ofInt 97).toInt32 = 97 := by decide
theorem bp_98 : (Int8.ofInt 98).toInt32 = 98 := by decide
theorem bp_99 : (Int8.ofInt 99).toInt32 = 99 := by decide
theorem bp_100 : (Int8.ofInt 100).toInt32 = 100 := by decide
theorem bp_120 : (Int8.ofInt 120).toInt32 = 120 := by decide
theorem bp_122 : (Int8.ofInt 122).toInt32 = 122 := by decide
theorem bp_127 : (Int8.ofInt 127).toInt32 = 127 := by decide
theorem sp_128 : (Int16.ofInt 128).toInt32 = 128 := by decide
theorem sp_160 : (Int16.ofInt 160).toInt32 = 160 := by decide
theorem sp_255 : (Int16.ofInt 255).toInt32 = 255 := by decide
theorem sp_256 : (Int16.ofInt 256).toInt32 = 256 := by decide
theorem sp_512 : (Int16.ofInt 512).toInt32 = 512 := by decide
theorem sp_999 : (Int16.ofInt 999).toInt32 = 999 := by decide
theorem sp_1000 : (Int16.ofInt 1000).toInt32 = 1000 := by decide
theorem sp_9999 : (Int16.ofInt 9999).toInt32 = 9999 := by decide
theorem lc_0 : Int64.ofNat ((0 : Fin 2) : Nat) = 0 := by decide
theorem lc_1 : Int64.ofNat ((1 : Fin 2) : Nat) = 1 := by decide
theorem kd_rod {c : Nat} (h : 26 ≤ c) (h2 : c < 50) : kd c = 3 := by
  unfold kd
  rw [if_neg (by omega), if_pos (by omega)]
theorem kd_sh {s : Nat} (h : s < 4) : kd (18 + s) = 4 := by
  match s, h with
  | 0, _ => rfl
  | 1, _ => rfl
  | 2, _ => rfl
  | 3, _ => rfl
  | n + 4, h => omega
theorem kd_nu {s : Nat} (h : s < 4) : kd (22 + s) = 9 := by
  match s, h with
  | 0, _ => rfl
  | 1, _ => rfl
  | 2, _ => rfl
  | 3, _ => rfl
  | n + 4, h => omega
theorem ln_nu {s : Nat} (h : s < 4) : ln (22 + s) = 40 := by
  match s, h with
  | 0, _ => rfl
  | 1, _ => rfl
  | 2, _ => rfl
  | 3, _ => rfl
  | n + 4, h => omega
theorem sr_sh {s : Nat} : srK 4 (18 + s) 0 = some (22 + s) := by
  show some (18 + s + 4) = some (22 + s)
  congr 1
  omega
end
section
/-! the reference's numbers, as functions of its row (51) -/
def p_in (v a b : Int32) : Int32 := if v < a then 0 else if b < v then 0 else 1
def p_held (v a b : Int32) : Int32 := if v < a then a else if b < v then b else v
abbrev p_rem (x y : Int32) : Int32 := x - x / y * y
/-- a world with another row -/
def setR (σ : Sg) (f : Nat → Int32) : Sg := (fun c j => if c = 51 then f j else σ.1 c j, σ.2.1, σ.2.2)
theorem setR_51 (σ : Sg) (f : Nat → Int32) : (setR σ f).1 51 = f := by
  funext j
  simp [setR]
theorem setR_at (σ : Sg) (f : Nat → Int32) (j : Nat) : (setR σ f).1 51 j = f j := by simp [setR]
theorem setR_ne {σ : Sg} {f : Nat → Int32} {c j : Nat} (h : c ≠ 51) : (setR σ f).1 c j = σ.1 c j := by simp [setR, h]
theorem setR_setR (σ : Sg) (f g : Nat → Int32) : setR (setR σ f) g = setR σ g := by
  unfold setR
  simp only [Prod.mk.injEq, and_true]
  funext c j
  by_cases h : c = 51 <;> simp [h]
theorem setR_self (σ : Sg) : setR σ (σ.1 51) = σ := by
  obtain ⟨a, b, c⟩ := σ
  unfold setR
  simp only [Prod.mk.injEq, and_true]
  funext c j
  by_cases h : c = 51 <;> simp [h]
theorem wI_51 (σ : Sg) (j : Nat) (v : Int32) : wI σ 51 j v = setR σ (upd (σ.1 51) j v) := by
  unfold wI setR upd
  simp only [Prod.mk.injEq, and_true]
  funext c k
  by_cases h : c = 51
  · subst h
    simp
  · simp [h]
theorem updS {f : Nat → Int32} {k : Nat} {x : Int32} : upd f k x k = x := by simp [upd]
theorem updN {f : Nat → Int32} {k j : Nat} {x : Int32} (h : j ≠ k) : upd f k x j = f j := by simp [upd, h]
def p_draws (f : Nat → Int32) (k : Nat) (c : Int32) : Int32 :=
  let d := if f (9 + 7 * k + 1) < c then c - f (9 + 7 * k + 1) else f (9 + 7 * k + 1) - c
  let h := f (9 + 7 * k + 2)
  let pl := p_held (h - 4 * d) 0 60
  if f (9 + 7 * k) = 1 then pl + 8
  else if f (9 + 7 * k) = 2 then pl + h
  else if f (9 + 7 * k) = 3 then (if pl < 3 then 0 else pl - 3)
  else if f (9 + 7 * k) = 4 then pl + 28
  else if f (9 + 7 * k) = 5 then (if pl + h < 10 then 0 else pl + h - 10)
  else pl
def p_clock (f : Nat → Int32) : Int32 := p_rem (f 5) 24
def p_paidMany (f : Nat → Int32) (k : Nat) : Int32 := p_rem (f (9 + 7 * k + 4) - f (9 + 7 * k + 3) + 24) 24
def p_isPaid (f : Nat → Int32) (k : Nat) : Int32 := if p_rem (p_clock f - f (9 + 7 * k + 3) + 24) 24 < p_paidMany f k then 1 else 0
def p_owes (f : Nat → Int32) (k : Nat) (charge : Int32) : Int32 :=
  let c := if p_isPaid f k = 0 then 0 else charge
  if f (9 + 7 * k) = 1 then c - c / 10
  else if f (9 + 7 * k) = 4 then (c - c / 10) / 2
  else if f (9 + 7 * k) = 3 then 0
  else if f (9 + 7 * k) = 5 then 0
  else c
def oI : Option Nat → Int32
  | none => -1
  | some k => nI k
/-- the best draw of the first rods: whom, and how much -/
def p_best (f : Nat → Int32) (place : Int32) : Nat → Option Nat × Int32
  | 0 => (none, 0)
  | r + 1 => (if (p_best f place r).2 < p_draws f r place then some r else (p_best f place r).1, if (p_best f place r).2 < p_draws f r place then p_draws f r place else (p_best f place r).2)
def p_strk (f : Nat → Int32) (n : Nat) (place : Int32) : Option Nat := (p_best f place n).1
theorem p_best_lt (f : Nat → Int32) (place : Int32) : ∀ n k, (p_best f place n).1 = some k → k < n
  | 0, k, h => by cases h
  | n + 1, k, h => by
    simp only [p_best] at h
    split at h
    · cases h; omega
    · have := p_best_lt f place n k h; omega
theorem p_strk_lt {f : Nat → Int32} {n : Nat} {place : Int32} {k : Nat} (h : p_strk f n place = some k) : k < n := p_best_lt f place n k h
def p_boltO (f : Nat → Int32) : Option Nat → Nat → Int32
  | none => upd (upd f 6 (p_held (f 6 + f 1) 0 99999)) 1 0
  | some k =>
    let o := p_owes f k (f 1)
    let g1 := upd f (9 + 7 * k + 6) (p_held (f (9 + 7 * k + 6) + 1) 0 99999)
    let g := upd g1 (9 + 7 * k + 5) (p_held (g1 (9 + 7 * k + 5) + o) 0 99999)
    upd (if o = 0 then upd g 6 (p_held (g 6 + g 1) 0 99999) else g) 1 0
def p_bolt (f : Nat → Int32) (n : Nat) : Nat → Int32 := p_boltO f (p_strk f n (f 0))
def p_breaks (f : Nat → Int32) : Int32 := if f 1 < f 4 then 0 else 1
def p_drift (g : Nat → Int32) : Nat → Int32 := if p_in (g 0 + g 2) 0 15 = 0 then upd g 2 (-(g 2)) else upd g 0 (g 0 + g 2)
def p_grow (h : Nat → Int32) : Nat → Int32 := upd h 1 (p_held (h 1 + h 3) 0 99)
def p_rest (g : Nat → Int32) : Nat → Int32 := upd (p_grow (p_drift g)) 5 (p_grow (p_drift g) 5 + 1)
def p_hour (f : Nat → Int32) (n : Nat) : Nat → Int32 := p_rest (if p_breaks f = 0 then f else p_bolt f n)
def p_pass (f : Nat → Int32) (n : Nat) : Nat → Nat → Int32
  | 0 => f
  | i + 1 => p_hour (p_pass f n i) n
theorem p_boltO_8 (f : Nat → Int32) : ∀ o, p_boltO f o 8 = f 8
  | none => by rw [p_boltO, updN (by decide), updN (by decide)]
  | some k => by
    simp only [p_boltO]
    rw [updN (by decide)]
    split
    · rw [updN (by decide), updN (by omega), updN (by omega)]
    · rw [updN (by omega), updN (by omega)]
theorem p_bolt_8 (f : Nat → Int32) (n : Nat) : p_bolt f n 8 = f 8 := p_boltO_8 f _
theorem p_drift_ge (g : Nat → Int32) {j : Nat} (h : 3 ≤ j) : p_drift g j = g j := by
  unfold p_drift
  split
  · rw [updN (by omega)]
  · rw [updN (by omega)]
theorem p_rest_ge (g : Nat → Int32) {j : Nat} (h : 6 ≤ j) : p_rest g j = g j := by
  unfold p_rest p_grow
  rw [updN (by omega), updN (by omega), p_drift_ge g (by omega)]
theorem p_hour_8 (f : Nat → Int32) (n : Nat) : p_hour f n 8 = f 8 := by
  unfold p_hour
  rw [p_rest_ge _ (by decide)]
  split
  · rfl
  · exact p_bolt_8 f n
theorem p_pass_8 (f : Nat → Int32) (n : Nat) : ∀ i, p_pass f n i 8 = f 8
  | 0 => rfl
  | i + 1 => by rw [p_pass, p_hour_8, p_pass_8 f n i]
def p_sum (f : Nat → Int32) (w : Nat) : Nat → Int32
  | 0 => 0
  | r + 1 => p_sum f w r + f (9 + 7 * r + w)
def p_paidSum (f : Nat → Int32) : Nat → Int32
  | 0 => 0
  | r + 1 => p_paidSum f r + p_paidMany f r
def p_drawSum (f : Nat → Int32) (c : Int32) : Nat → Int32
  | 0 => 0
  | r + 1 => p_drawSum f c r + p_draws f r c
def p_paidSet (f : Nat → Int32) : Nat → Int32
  | 0 => 0
  | r + 1 => p_paidSet f r ||| (if p_isPaid f r = 0 then (0 : Int32) else (1 : Int32) <<< (nI r &&& 31))
def p_down (f : Nat → Int32) (n r : Nat) : Nat → Int32 := fun j => if j = 8 then nI (n - 1) else if 9 + 7 * r ≤ j ∧ j < 9 + 7 * (n - 1) then f (j + 7) else f j
def p_add (f : Nat → Int32) (n : Nat) (kind place height from_ to_ : Int32) : Nat → Int32 :=
  upd (upd (upd (upd (upd (upd (upd (upd f (9 + 7 * n) kind) (9 + 7 * n + 1) place) (9 + 7 * n + 2) height) (9 + 7 * n + 3) from_) (9 + 7 * n + 4) to_) (9 + 7 * n + 5) 0) (9 + 7 * n + 6) 0) 8 (nI (n + 1))
end
section
set_option maxRecDepth 100000 in
set_option maxHeartbeats 4000000 in
theorem e7_in (G : GT) (σ : Sg) (v a b : Int32) : Evi G mX7_in [.int v, .int a, .int b] σ (p_in v a b) (σ) := by
  refine Ev.ofL (m := 0) (L := [some (.int v), some (.int a), some (.int b)]) rfl (Nat.le_of_ble_eq_true rfl) rfl rfl ?_
  refine w_iload_n dX7_in_0 rfl ?_
  refine w_iload_n dX7_in_1 rfl ?_
  refine w_icmp_lt (t := 14) dX7_in_2 (by decide) (fun c1 => ?_) (fun c1 => ?_)
  · skip
    refine w_iconst dX7_in_14 ic_0 ?_
    refine w_zret dX7_in_15 rfl rfl ?_
    exact ⟨by simp [p_in, c1], rfl⟩
  · skip
    refine w_iload_n dX7_in_5 rfl ?_
    refine w_iload_n dX7_in_6 rfl ?_
    refine w_icmp_gt (t := 14) dX7_in_7 (by decide) (fun c2 => ?_) (fun c2 => ?_)
    · skip
      refine w_iconst dX7_in_14 ic_0 ?_
      refine w_zret dX7_in_15 rfl rfl ?_
      exact ⟨by simp [p_in, c1, c2], rfl⟩
    · skip
      refine w_iconst dX7_in_10 ic_1 ?_
      refine w_goto (t := 15) dX7_in_11 (by decide) ?_
      refine w_zret dX7_in_15 rfl rfl ?_
      exact ⟨by simp [p_in, c1, c2], rfl⟩
set_option maxRecDepth 100000 in
set_option maxHeartbeats 4000000 in
theorem e7_held (G : GT) (σ : Sg) (v a b : Int32) : Evi G mX7_held [.int v, .int a, .int b] σ (p_held v a b) (σ) := by
  refine Ev.ofL (m := 0) (L := [some (.int v), some (.int a), some (.int b)]) rfl (Nat.le_of_ble_eq_true rfl) rfl rfl ?_
  refine w_iload_n dX7_held_0 rfl ?_
  refine w_iload_n dX7_held_1 rfl ?_
  refine w2_icmp_ge (t := 9) dX7_held_2 (by decide) (fun c1 => ?_) (fun c1 => ?_)
  · skip
    refine w_iload_n dX7_held_9 rfl ?_
    refine w_iload_n dX7_held_10 rfl ?_
    refine w2_icmp_le (t := 18) dX7_held_11 (by decide) (fun c2 => ?_) (fun c2 => ?_)
    · skip
      refine w_iload_n dX7_held_18 rfl ?_
      refine w_iret dX7_held_19 rfl ?_
      exact ⟨by simp [p_held, c1, c2], rfl⟩
    · skip
      refine w_iload_n dX7_held_14 rfl ?_
      refine w_goto (t := 19) dX7_held_15 (by decide) ?_
      refine w_iret dX7_held_19 rfl ?_
      exact ⟨by simp [p_held, c1, c2], rfl⟩
  · skip
    refine w_iload_n dX7_held_5 rfl ?_
    refine w_goto (t := 19) dX7_held_6 (by decide) ?_
    refine w_iret dX7_held_19 rfl ?_
    exact ⟨by simp [p_held, c1], rfl⟩
set_option maxRecDepth 100000 in
set_option maxHeartbeats 4000000 in
theorem e7_its (G : GT) (σ : Sg) (k w : Nat) (hk : k < 8) (hw : w < 7) : Evi G mX7_its [.ref 50, .int (nI k), .int (nI w)] σ (σ.1 51 (9 + 7 * k + w)) (σ) := by
  refine Ev.ofL (m := 0) (L := [some (.ref 50), some (.int (nI k)), some (.int (nI w))]) rfl (Nat.le_of_ble_eq_true rfl) rfl rfl ?_
  refine w_aload_n dX7_its_0 rfl ?_
  refine w_getR (t := 51) dX7_its_1 fl_X7_7 rfl (by decide) (by decide) rfl ?_
  refine w_bipush dX7_its_4 bp_9 ?_
  refine w_bipush dX7_its_6 bp_7 ?_
  refine w_iload_n dX7_its_8 rfl ?_
  refine w_imulN (a := 7) (b := k) dX7_its_9 ?_
  refine w_iaddN (a := 9) (b := 7 * k) dX7_its_10 ?_
  refine w_iload_n dX7_its_11 rfl ?_
  refine w_iaddN (a := 9 + 7 * k) (b := w) dX7_its_12 ?_
  refine w_iald (j := 9 + 7 * k + w) dX7_its_13 rfl (by decide) rfl (show 9 + 7 * k + w < 65 by omega) ?_
  refine w_iret dX7_its_14 rfl ?_
  exact ⟨rfl, rfl⟩
set_option maxRecDepth 100000 in
set_option maxHeartbeats 4000000 in
theorem e7_puts (G : GT) (σ : Sg) (k w : Nat) (v : Int32) (hk : k < 8) (hw : w < 7) : Evv G mX7_puts [.ref 50, .int (nI k), .int (nI w), .int v] σ (setR σ (upd (σ.1 51) (9 + 7 * k + w) v)) := by
  refine Ev.ofL (m := 0) (L := [some (.ref 50), some (.int (nI k)), some (.int (nI w)), some (.int v)]) rfl (Nat.le_of_ble_eq_true rfl) rfl rfl ?_
  refine w_aload_n dX7_puts_0 rfl ?_
  refine w_getR (t := 51) dX7_puts_1 fl_X7_7 rfl (by decide) (by decide) rfl ?_
  refine w_bipush dX7_puts_4 bp_9 ?_
  refine w_bipush dX7_puts_6 bp_7 ?_
  refine w_iload_n dX7_puts_8 rfl ?_
  refine w_imulN (a := 7) (b := k) dX7_puts_9 ?_
  refine w_iaddN (a := 9) (b := 7 * k) dX7_puts_10 ?_
  refine w_iload_n dX7_puts_11 rfl ?_
  refine w_iaddN (a := 9 + 7 * k) (b := w) dX7_puts_12 ?_
  refine w_iload_n dX7_puts_13 rfl ?_
  refine w_iast (j := 9 + 7 * k + w) dX7_puts_14 rfl (by decide) rfl (show 9 + 7 * k + w < 65 by omega) ?_
  refine w_vret dX7_puts_15 rfl ?_
  exact ⟨rfl, wI_51 _ _ _⟩
theorem e7_its0 (G : GT) (σ : Sg) (k : Nat) (hk : k < 8) : Evi G mX7_its [.ref 50, .int (nI k), .int 0] σ (σ.1 51 (9 + 7 * k)) σ := e7_its G σ k 0 hk (by omega)
theorem e7_puts0 (G : GT) (σ : Sg) (k : Nat) (v : Int32) (hk : k < 8) : Evv G mX7_puts [.ref 50, .int (nI k), .int 0, .int v] σ (setR σ (upd (σ.1 51) (9 + 7 * k) v)) := e7_puts G σ k 0 v hk (by omega)
theorem p_in_z (v a b : Int32) : narrow .boolean (.int (p_in v a b)) = .int (p_in v a b) := by
  unfold p_in
  split
  · rfl
  · split <;> rfl
set_option maxRecDepth 100000 in
set_option maxHeartbeats 4000000 in
theorem e7_isRod (G : GT) (σ : Sg) (r : Int32) : Evi G mX7_isRod [.ref 50, .int r] σ (p_in r 0 (σ.1 51 8 - 1)) (σ) := by
  refine Ev.ofL (m := 0) (L := [some (.ref 50), some (.int r)]) rfl (Nat.le_of_ble_eq_true rfl) rfl rfl ?_
  refine w_iload_n dX7_isRod_0 rfl ?_
  refine w_iconst dX7_isRod_1 ic_0 ?_
  refine w_aload_n dX7_isRod_2 rfl ?_
  refine w_getR (t := 51) dX7_isRod_3 fl_X7_7 rfl (by decide) (by decide) rfl ?_
  refine w_bipush dX7_isRod_6 bp_8 ?_
  refine w_iald (j := 8) dX7_isRod_8 rfl (by decide) rfl (by decide) ?_
  refine w_iconst dX7_isRod_9 ic_1 ?_
  refine w_isub dX7_isRod_10 ?_
  refine w_callSi dX7_isRod_11 ml_X7_45 ms_X7_in rfl (e7_in G _ _ _ _) rfl rfl (Nat.le_of_ble_eq_true rfl) ?_
  refine w_zret dX7_isRod_14 rfl (p_in_z _ _ _) ?_
  exact ⟨rfl, rfl⟩
set_option maxRecDepth 100000 in
set_option maxHeartbeats 4000000 in
theorem e7_isPlace (G : GT) (σ : Sg) (r : Int32) : Evi G mX7_isPlace [.int r] σ (p_in r 0 15) (σ) := by
  refine Ev.ofL (m := 0) (L := [some (.int r)]) rfl (Nat.le_of_ble_eq_true rfl) rfl rfl ?_
  refine w_iload_n dX7_isPlace_0 rfl ?_
  refine w_iconst dX7_isPlace_1 ic_0 ?_
  refine w_bipush dX7_isPlace_2 bp_15 ?_
  refine w_callSi dX7_isPlace_4 ml_X7_45 ms_X7_in rfl (e7_in G _ _ _ _) rfl rfl (Nat.le_of_ble_eq_true rfl) ?_
  refine w_zret dX7_isPlace_7 rfl (p_in_z _ _ _) ?_
  exact ⟨rfl, rfl⟩
set_option maxRecDepth 100000 in
set_option maxHeartbeats 4000000 in
theorem e7_isKind (G : GT) (σ : Sg) (r : Int32) : Evi G mX7_isKind [.int r] σ (p_in r 0 5) (σ) := by
  refine Ev.ofL (m := 0) (L := [some (.int r)]) rfl (Nat.le_of_ble_eq_true rfl) rfl rfl ?_
  refine w_iload_n dX7_isKind_0 rfl ?_
  refine w_iconst dX7_isKind_1 ic_0 ?_
  refine w_iconst dX7_isKind_2 ic_5 ?_
  refine w_callSi dX7_isKind_3 ml_X7_45 ms_X7_in rfl (e7_in G _ _ _ _) rfl rfl (Nat.le_of_ble_eq_true rfl) ?_
  refine w_zret dX7_isKind_6 rfl (p_in_z _ _ _) ?_
  exact ⟨rfl, rfl⟩
set_option maxRecDepth 100000 in
set_option maxHeartbeats 4000000 in
theorem e7_isSheet (G : GT) (σ : Sg) (r : Int32) : Evi G mX7_isSheet [.int r] σ (p_in r 0 3) (σ) := by
  refine Ev.ofL (m := 0) (L := [some (.int r)]) rfl (Nat.le_of_ble_eq_true rfl) rfl rfl ?_
  refine w_iload_n dX7_isSheet_0 rfl ?_
  refine w_iconst dX7_isSheet_1 ic_0 ?_
  refine w_iconst dX7_isSheet_2 ic_3 ?_
  refine w_callSi dX7_isSheet_3 ml_X7_45 ms_X7_in rfl (e7_in G _ _ _ _) rfl rfl (Nat.le_of_ble_eq_true rfl) ?_
  refine w_zret dX7_isSheet_6 rfl (p_in_z _ _ _) ?_
  exact ⟨rfl, rfl⟩
set_option maxRecDepth 100000 in
set_option maxHeartbeats 4000000 in
theorem e7_draws (G : GT) (σ : Sg) (k : Nat) (c : Int32) (hk : k < 8) : Evi G mX7_draws [.ref 50, .int (nI k), .int c] σ (p_draws (σ.1 51) k c) (σ) := by
  refine Ev.ofL (m := 3) (L := [some (.ref 50), some (.int (nI k)), some (.int c), none, none, none]) rfl (Nat.le_of_ble_eq_true rfl) rfl rfl ?_
  refine w_aload_n dX7_draws_0 rfl ?_
  refine w_iload_n dX7_draws_1 rfl ?_
  refine w_iconst dX7_draws_2 ic_1 ?_
  refine w_callVi dX7_draws_3 ml_X7_69 mv_X7_its rfl rfl (by decide) rfl (e7_its G _ (k) (1) (by omega) (by omega)) rfl rfl (Nat.le_of_ble_eq_true rfl) ?_
  refine w_iload_n dX7_draws_6 rfl ?_
  refine w2_icmp_ge (t := 21) dX7_draws_7 (by decide) (fun c1 => ?_) (fun c1 => ?_)
  · skip
    refine w_aload_n dX7_draws_21 rfl ?_
    refine w_iload_n dX7_draws_22 rfl ?_
    refine w_iconst dX7_draws_23 ic_1 ?_
    refine w_callVi dX7_draws_24 ml_X7_69 mv_X7_its rfl rfl (by decide) rfl (e7_its G _ (k) (1) (by omega) (by omega)) rfl rfl (Nat.le_of_ble_eq_true rfl) ?_
    refine w_iload_n dX7_draws_27 rfl ?_
    refine w_isub dX7_draws_28 ?_
    refine w_istore_n dX7_draws_29 (by decide) rfl rfl ?_
    dsimp only [List.set]
    refine w_aload_n dX7_draws_30 rfl ?_
    refine w_iload_n dX7_draws_31 rfl ?_
    refine w_iconst dX7_draws_32 ic_2 ?_
    refine w_callVi dX7_draws_33 ml_X7_69 mv_X7_its rfl rfl (by decide) rfl (e7_its G _ (k) (2) (by omega) (by omega)) rfl rfl (Nat.le_of_ble_eq_true rfl) ?_
    refine w_istore dX7_draws_36 (by decide) rfl rfl ?_
    dsimp only [List.set]
    refine w_iload dX7_draws_38 rfl ?_
    refine w_iconst dX7_draws_40 ic_4 ?_
    refine w_iload_n dX7_draws_41 rfl ?_
    refine w_imul dX7_draws_42 ?_
    refine w_isub dX7_draws_43 ?_
    refine w_iconst dX7_draws_44 ic_0 ?_
    refine w_bipush dX7_draws_45 bp_60 ?_
    refine w_callSi dX7_draws_47 ml_X7_73 ms_X7_held rfl (e7_held G _ _ _ _) rfl rfl (Nat.le_of_ble_eq_true rfl) ?_
    refine w_istore dX7_draws_50 (by decide) rfl rfl ?_
    dsimp only [List.set]
    refine w_aload_n dX7_draws_52 rfl ?_
    refine w_iload_n dX7_draws_53 rfl ?_
    refine w_iconst dX7_draws_54 ic_0 ?_
    refine w_callVi dX7_draws_55 ml_X7_69 mv_X7_its rfl rfl (by decide) rfl (e7_its0 G _ (k) (by omega)) rfl rfl (Nat.le_of_ble_eq_true rfl) ?_
    refine sw_1_5 (fun c2 => ?_) (fun c2 => ?_) (fun c2 => ?_) (fun c2 => ?_) (fun c2 => ?_) (fun c2 => ?_)
    · skip
      refine w_tableIn (t := 92) (off := 34) dX7_draws_58 (by rw [c2]; decide) (by rw [c2]; decide) (by rw [c2]; rfl) (by decide) ?_
      refine w_iload dX7_draws_92 rfl ?_
      refine w_bipush dX7_draws_94 bp_8 ?_
      refine w_iadd dX7_draws_96 ?_
      refine w_iret dX7_draws_97 rfl ?_
      exact ⟨by simp [p_draws, c1, c2], rfl⟩
    · skip
      refine w_tableIn (t := 98) (off := 40) dX7_draws_58 (by rw [c2]; decide) (by rw [c2]; decide) (by rw [c2]; rfl) (by decide) ?_
      refine w_iload dX7_draws_98 rfl ?_
      refine w_iload dX7_draws_100 rfl ?_
      refine w_iadd dX7_draws_102 ?_
      refine w_iret dX7_draws_103 rfl ?_
      exact ⟨by simp [p_draws, c1, c2], rfl⟩
    · skip
      refine w_tableIn (t := 104) (off := 46) dX7_draws_58 (by rw [c2]; decide) (by rw [c2]; decide) (by rw [c2]; rfl) (by decide) ?_
      refine w_iload dX7_draws_104 rfl ?_
      refine w_iconst dX7_draws_106 ic_3 ?_
      refine w2_icmp_ge (t := 114) dX7_draws_107 (by decide) (fun c3 => ?_) (fun c3 => ?_)
      · skip
        refine w_iload dX7_draws_114 rfl ?_
        refine w_iconst dX7_draws_116 ic_3 ?_
        refine w_isub dX7_draws_117 ?_
        refine w_iret dX7_draws_118 rfl ?_
        exact ⟨by simp [p_draws, c1, c2, c3], rfl⟩
      · skip
        refine w_iconst dX7_draws_110 ic_0 ?_
        refine w_goto (t := 118) dX7_draws_111 (by decide) ?_
        refine w_iret dX7_draws_118 rfl ?_
        exact ⟨by simp [p_draws, c1, c2, c3], rfl⟩
    · skip
      refine w_tableIn (t := 119) (off := 61) dX7_draws_58 (by rw [c2]; decide) (by rw [c2]; decide) (by rw [c2]; rfl) (by decide) ?_
      refine w_iload dX7_draws_119 rfl ?_
      refine w_bipush dX7_draws_121 bp_28 ?_
      refine w_iadd dX7_draws_123 ?_
      refine w_iret dX7_draws_124 rfl ?_
      exact ⟨by simp [p_draws, c1, c2], rfl⟩
    · skip
      refine w_tableIn (t := 125) (off := 67) dX7_draws_58 (by rw [c2]; decide) (by rw [c2]; decide) (by rw [c2]; rfl) (by decide) ?_
      refine w_iload dX7_draws_125 rfl ?_
      refine w_iload dX7_draws_127 rfl ?_
      refine w_iadd dX7_draws_129 ?_
      refine w_bipush dX7_draws_130 bp_10 ?_
      refine w2_icmp_ge (t := 139) dX7_draws_132 (by decide) (fun c4 => ?_) (fun c4 => ?_)
      · skip
        refine w_iload dX7_draws_139 rfl ?_
        refine w_iload dX7_draws_141 rfl ?_
        refine w_iadd dX7_draws_143 ?_
        refine w_bipush dX7_draws_144 bp_10 ?_
        refine w_isub dX7_draws_146 ?_
        refine w_iret dX7_draws_147 rfl ?_
        exact ⟨by simp [p_draws, c1, c2, c4], rfl⟩
      · skip
        refine w_iconst dX7_draws_135 ic_0 ?_
        refine w_goto (t := 147) dX7_draws_136 (by decide) ?_
        refine w_iret dX7_draws_147 rfl ?_
        exact ⟨by simp [p_draws, c1, c2, c4], rfl⟩
    · skip
      refine w_tableOut (t := 148) dX7_draws_58 c2.1 (by decide) ?_
      refine w_iload dX7_draws_148 rfl ?_
      refine w_iret dX7_draws_150 rfl ?_
      exact ⟨by simp [p_draws, c1, c2], rfl⟩
  · skip
    refine w_iload_n dX7_draws_10 rfl ?_
    refine w_aload_n dX7_draws_11 rfl ?_
    refine w_iload_n dX7_draws_12 rfl ?_
    refine w_iconst dX7_draws_13 ic_1 ?_
    refine w_callVi dX7_draws_14 ml_X7_69 mv_X7_its rfl rfl (by decide) rfl (e7_its G _ (k) (1) (by omega) (by omega)) rfl rfl (Nat.le_of_ble_eq_true rfl) ?_
    refine w_isub dX7_draws_17 ?_
    refine w_goto (t := 29) dX7_draws_18 (by decide) ?_
    refine w_istore_n dX7_draws_29 (by decide) rfl rfl ?_
    dsimp only [List.set]
    refine w_aload_n dX7_draws_30 rfl ?_
    refine w_iload_n dX7_draws_31 rfl ?_
    refine w_iconst dX7_draws_32 ic_2 ?_
    refine w_callVi dX7_draws_33 ml_X7_69 mv_X7_its rfl rfl (by decide) rfl (e7_its G _ (k) (2) (by omega) (by omega)) rfl rfl (Nat.le_of_ble_eq_true rfl) ?_
    refine w_istore dX7_draws_36 (by decide) rfl rfl ?_
    dsimp only [List.set]
    refine w_iload dX7_draws_38 rfl ?_
    refine w_iconst dX7_draws_40 ic_4 ?_
    refine w_iload_n dX7_draws_41 rfl ?_
    refine w_imul dX7_draws_42 ?_
    refine w_isub dX7_draws_43 ?_
    refine w_iconst dX7_draws_44 ic_0 ?_
    refine w_bipush dX7_draws_45 bp_60 ?_
    refine w_callSi dX7_draws_47 ml_X7_73 ms_X7_held rfl (e7_held G _ _ _ _) rfl rfl (Nat.le_of_ble_eq_true rfl) ?_
    refine w_istore dX7_draws_50 (by decide) rfl rfl ?_
    dsimp only [List.set]
    refine w_aload_n dX7_draws_52 rfl ?_
    refine w_iload_n dX7_draws_53 rfl ?_
    refine w_iconst dX7_draws_54 ic_0 ?_
    refine w_callVi dX7_draws_55 ml_X7_69 mv_X7_its rfl rfl (by decide) rfl (e7_its0 G _ (k) (by omega)) rfl rfl (Nat.le_of_ble_eq_true rfl) ?_
    refine sw_1_5 (fun c5 => ?_) (fun c5 => ?_) (fun c5 => ?_) (fun c5 => ?_) (fun c5 => ?_) (fun c5 => ?_)
    · skip
      refine w_tableIn (t := 92) (off := 34) dX7_draws_58 (by rw [c5]; decide) (by rw [c5]; decide) (by rw [c5]; rfl) (by decide) ?_
      refine w_iload dX7_draws_92 rfl ?_
      refine w_bipush dX7_draws_94 bp_8 ?_
      refine w_iadd dX7_draws_96 ?_
      refine w_iret dX7_draws_97 rfl ?_
      exact ⟨by simp [p_draws, c1, c5], rfl⟩
    · skip
      refine w_tableIn (t := 98) (off := 40) dX7_draws_58 (by rw [c5]; decide) (by rw [c5]; decide) (by rw [c5]; rfl) (by decide) ?_
      refine w_iload dX7_draws_98 rfl ?_
      refine w_iload dX7_draws_100 rfl ?_
      refine w_iadd dX7_draws_102 ?_
      refine w_iret dX7_draws_103 rfl ?_
      exact ⟨by simp [p_draws, c1, c5], rfl⟩
    · skip
      refine w_tableIn (t := 104) (off := 46) dX7_draws_58 (by rw [c5]; decide) (by rw [c5]; decide) (by rw [c5]; rfl) (by decide) ?_
      refine w_iload dX7_draws_104 rfl ?_
      refine w_iconst dX7_draws_106 ic_3 ?_
      refine w2_icmp_ge (t := 114) dX7_draws_107 (by decide) (fun c6 => ?_) (fun c6 => ?_)
      · skip
        refine w_iload dX7_draws_114 rfl ?_
        refine w_iconst dX7_draws_116 ic_3 ?_
        refine w_isub dX7_draws_117 ?_
        refine w_iret dX7_draws_118 rfl ?_
        exact ⟨by simp [p_draws, c1, c5, c6], rfl⟩
      · skip
        refine w_iconst dX7_draws_110 ic_0 ?_
        refine w_goto (t := 118) dX7_draws_111 (by decide) ?_
        refine w_iret dX7_draws_118 rfl ?_
        exact ⟨by simp [p_draws, c1, c5, c6], rfl⟩
    · skip
      refine w_tableIn (t := 119) (off := 61) dX7_draws_58 (by rw [c5]; decide) (by rw [c5]; decide) (by rw [c5]; rfl) (by decide) ?_
      refine w_iload dX7_draws_119 rfl ?_
      refine w_bipush dX7_draws_121 bp_28 ?_
      refine w_iadd dX7_draws_123 ?_
      refine w_iret dX7_draws_124 rfl ?_
      exact ⟨by simp [p_draws, c1, c5], rfl⟩
    · skip
      refine w_tableIn (t := 125) (off := 67) dX7_draws_58 (by rw [c5]; decide) (by rw [c5]; decide) (by rw [c5]; rfl) (by decide) ?_
      refine w_iload dX7_draws_125 rfl ?_
      refine w_iload dX7_draws_127 rfl ?_
      refine w_iadd dX7_draws_129 ?_
      refine w_bipush dX7_draws_130 bp_10 ?_
      refine w2_icmp_ge (t := 139) dX7_draws_132 (by decide) (fun c7 => ?_) (fun c7 => ?_)
      · skip
        refine w_iload dX7_draws_139 rfl ?_
        refine w_iload dX7_draws_141 rfl ?_
        refine w_iadd dX7_draws_143 ?_
        refine w_bipush dX7_draws_144 bp_10 ?_
        refine w_isub dX7_draws_146 ?_
        refine w_iret dX7_draws_147 rfl ?_
        exact ⟨by simp [p_draws, c1, c5, c7], rfl⟩
      · skip
        refine w_iconst dX7_draws_135 ic_0 ?_
        refine w_goto (t := 147) dX7_draws_136 (by decide) ?_
        refine w_iret dX7_draws_147 rfl ?_
        exact ⟨by simp [p_draws, c1, c5, c7], rfl⟩
    · skip
      refine w_tableOut (t := 148) dX7_draws_58 c5.1 (by decide) ?_
      refine w_iload dX7_draws_148 rfl ?_
      refine w_iret dX7_draws_150 rfl ?_
      exact ⟨by simp [p_draws, c1, c5], rfl⟩
set_option maxRecDepth 100000 in
set_option maxHeartbeats 4000000 in
theorem e7_clock (G : GT) (σ : Sg) : Evi G mX7_clock [.ref 50] σ (p_clock (σ.1 51)) (σ) := by
  refine Ev.ofL (m := 0) (L := [some (.ref 50)]) rfl (Nat.le_of_ble_eq_true rfl) rfl rfl ?_
  refine w_aload_n dX7_clock_0 rfl ?_
  refine w_getR (t := 51) dX7_clock_1 fl_X7_7 rfl (by decide) (by decide) rfl ?_
  refine w_iconst dX7_clock_4 ic_5 ?_
  refine w_iald (j := 5) dX7_clock_5 rfl (by decide) rfl (by decide) ?_
  refine w_bipush dX7_clock_6 bp_24 ?_
  refine w_irem dX7_clock_8 (by decide) ?_
  refine w_iret dX7_clock_9 rfl ?_
  exact ⟨rfl, rfl⟩
set_option maxRecDepth 100000 in
set_option maxHeartbeats 4000000 in
theorem e7_paidMany (G : GT) (σ : Sg) (k : Nat) (hk : k < 8) : Evi G mX7_paidMany [.ref 50, .int (nI k)] σ (p_paidMany (σ.1 51) k) (σ) := by
  refine Ev.ofL (m := 0) (L := [some (.ref 50), some (.int (nI k))]) rfl (Nat.le_of_ble_eq_true rfl) rfl rfl ?_
  refine w_aload_n dX7_paidMany_0 rfl ?_
  refine w_iload_n dX7_paidMany_1 rfl ?_
  refine w_iconst dX7_paidMany_2 ic_4 ?_
  refine w_callVi dX7_paidMany_3 ml_X7_69 mv_X7_its rfl rfl (by decide) rfl (e7_its G _ (k) (4) (by omega) (by omega)) rfl rfl (Nat.le_of_ble_eq_true rfl) ?_
  refine w_aload_n dX7_paidMany_6 rfl ?_
  refine w_iload_n dX7_paidMany_7 rfl ?_
  refine w_iconst dX7_paidMany_8 ic_3 ?_
  refine w_callVi dX7_paidMany_9 ml_X7_69 mv_X7_its rfl rfl (by decide) rfl (e7_its G _ (k) (3) (by omega) (by omega)) rfl rfl (Nat.le_of_ble_eq_true rfl) ?_
  refine w_isub dX7_paidMany_12 ?_
  refine w_bipush dX7_paidMany_13 bp_24 ?_
  refine w_iadd dX7_paidMany_15 ?_
  refine w_bipush dX7_paidMany_16 bp_24 ?_
  refine w_irem dX7_paidMany_18 (by decide) ?_
  refine w_iret dX7_paidMany_19 rfl ?_
  exact ⟨rfl, rfl⟩
set_option maxRecDepth 100000 in
set_option maxHeartbeats 4000000 in
theorem e7_isPaid (G : GT) (σ : Sg) (k : Nat) (hk : k < 8) : Evi G mX7_isPaid [.ref 50, .int (nI k)] σ (p_isPaid (σ.1 51) k) (σ) := by
  refine Ev.ofL (m := 0) (L := [some (.ref 50), some (.int (nI k))]) rfl (Nat.le_of_ble_eq_true rfl) rfl rfl ?_
  refine w_aload_n dX7_isPaid_0 rfl ?_
  refine w_callVi dX7_isPaid_1 ml_X7_77 mv_X7_clock rfl rfl (by decide) rfl (e7_clock G _) rfl rfl (Nat.le_of_ble_eq_true rfl) ?_
  refine w_aload_n dX7_isPaid_4 rfl ?_
  refine w_iload_n dX7_isPaid_5 rfl ?_
  refine w_iconst dX7_isPaid_6 ic_3 ?_
  refine w_callVi dX7_isPaid_7 ml_X7_69 mv_X7_its rfl rfl (by decide) rfl (e7_its G _ (k) (3) (by omega) (by omega)) rfl rfl (Nat.le_of_ble_eq_true rfl) ?_
  refine w_isub dX7_isPaid_10 ?_
  refine w_bipush dX7_isPaid_11 bp_24 ?_
  refine w_iadd dX7_isPaid_13 ?_
  refine w_bipush dX7_isPaid_14 bp_24 ?_
  refine w_irem dX7_isPaid_16 (by decide) ?_
  refine w_aload_n dX7_isPaid_17 rfl ?_
  refine w_iload_n dX7_isPaid_18 rfl ?_
  refine w_callVi dX7_isPaid_19 ml_X7_81 mv_X7_paidMany rfl rfl (by decide) rfl (e7_paidMany G _ (k) (by omega)) rfl rfl (Nat.le_of_ble_eq_true rfl) ?_
  refine w2_icmp_ge (t := 29) dX7_isPaid_22 (by decide) (fun c1 => ?_) (fun c1 => ?_)
  · skip
    refine w_iconst dX7_isPaid_29 ic_0 ?_
    refine w_zret dX7_isPaid_30 rfl rfl ?_
    exact ⟨by unfold p_isPaid; rw [if_neg c1], rfl⟩
  · skip
    refine w_iconst dX7_isPaid_25 ic_1 ?_
    refine w_goto (t := 30) dX7_isPaid_26 (by decide) ?_
    refine w_zret dX7_isPaid_30 rfl rfl ?_
    exact ⟨by unfold p_isPaid; rw [if_pos c1], rfl⟩
set_option maxRecDepth 100000 in
set_option maxHeartbeats 4000000 in
theorem e7_owes (G : GT) (σ : Sg) (k : Nat) (c : Int32) (hk : k < 8) : Evi G mX7_owes [.ref 50, .int (nI k), .int c] σ (p_owes (σ.1 51) k c) (σ) := by
  refine Ev.ofL (m := 1) (L := [some (.ref 50), some (.int (nI k)), some (.int c), none]) rfl (Nat.le_of_ble_eq_true rfl) rfl rfl ?_
  refine w_aload_n dX7_owes_0 rfl ?_
  refine w_iload_n dX7_owes_1 rfl ?_
  refine w_callVi dX7_owes_2 ml_X7_84 mv_X7_isPaid rfl rfl (by decide) rfl (e7_isPaid G _ (k) (by omega)) rfl rfl (Nat.le_of_ble_eq_true rfl) ?_
  refine w_if_eq (t := 12) dX7_owes_5 (by decide) (fun c1 => ?_) (fun c1 => ?_)
  · skip
    refine w_iconst dX7_owes_12 ic_0 ?_
    refine w_istore_n dX7_owes_13 (by decide) rfl rfl ?_
    dsimp only [List.set]
    refine w_aload_n dX7_owes_14 rfl ?_
    refine w_iload_n dX7_owes_15 rfl ?_
    refine w_iconst dX7_owes_16 ic_0 ?_
    refine w_callVi dX7_owes_17 ml_X7_69 mv_X7_its rfl rfl (by decide) rfl (e7_its0 G _ (k) (by omega)) rfl rfl (Nat.le_of_ble_eq_true rfl) ?_
    refine sw_1_5 (fun c2 => ?_) (fun c2 => ?_) (fun c2 => ?_) (fun c2 => ?_) (fun c2 => ?_) (fun c2 => ?_)
    · skip
      refine w_tableIn (t := 56) (off := 36) dX7_owes_20 (by rw [c2]; decide) (by rw [c2]; decide) (by rw [c2]; rfl) (by decide) ?_
      refine w_iload_n dX7_owes_56 rfl ?_
      refine w_iload_n dX7_owes_57 rfl ?_
      refine w_bipush dX7_owes_58 bp_10 ?_
      refine w_idiv dX7_owes_60 (by decide) ?_
      refine w_isub dX7_owes_61 ?_
      refine w_iret dX7_owes_62 rfl ?_
      exact ⟨by simp [p_owes, c1, c2], rfl⟩
    · skip
      refine w_tableIn (t := 74) (off := 54) dX7_owes_20 (by rw [c2]; decide) (by rw [c2]; decide) (by rw [c2]; rfl) (by decide) ?_
      refine w_iload_n dX7_owes_74 rfl ?_
      refine w_iret dX7_owes_75 rfl ?_
      exact ⟨by simp [p_owes, c1, c2], rfl⟩
    · skip
      refine w_tableIn (t := 72) (off := 52) dX7_owes_20 (by rw [c2]; decide) (by rw [c2]; decide) (by rw [c2]; rfl) (by decide) ?_
      refine w_iconst dX7_owes_72 ic_0 ?_
      refine w_iret dX7_owes_73 rfl ?_
      exact ⟨by simp [p_owes, c1, c2], rfl⟩
    · skip
      refine w_tableIn (t := 63) (off := 43) dX7_owes_20 (by rw [c2]; decide) (by rw [c2]; decide) (by rw [c2]; rfl) (by decide) ?_
      refine w_iload_n dX7_owes_63 rfl ?_
      refine w_iload_n dX7_owes_64 rfl ?_
      refine w_bipush dX7_owes_65 bp_10 ?_
      refine w_idiv dX7_owes_67 (by decide) ?_
      refine w_isub dX7_owes_68 ?_
      refine w_iconst dX7_owes_69 ic_2 ?_
      refine w_idiv dX7_owes_70 (by decide) ?_
      refine w_iret dX7_owes_71 rfl ?_
      exact ⟨by simp [p_owes, c1, c2], rfl⟩
    · skip
      refine w_tableIn (t := 72) (off := 52) dX7_owes_20 (by rw [c2]; decide) (by rw [c2]; decide) (by rw [c2]; rfl) (by decide) ?_
      refine w_iconst dX7_owes_72 ic_0 ?_
      refine w_iret dX7_owes_73 rfl ?_
      exact ⟨by simp [p_owes, c1, c2], rfl⟩
    · skip
      refine w_tableOut (t := 74) dX7_owes_20 c2.1 (by decide) ?_
      refine w_iload_n dX7_owes_74 rfl ?_
      refine w_iret dX7_owes_75 rfl ?_
      exact ⟨by simp [p_owes, c1, c2], rfl⟩
  · skip
    refine w_iload_n dX7_owes_8 rfl ?_
    refine w_goto (t := 13) dX7_owes_9 (by decide) ?_
    refine w_istore_n dX7_owes_13 (by decide) rfl rfl ?_
    dsimp only [List.set]
    refine w_aload_n dX7_owes_14 rfl ?_
    refine w_iload_n dX7_owes_15 rfl ?_
    refine w_iconst dX7_owes_16 ic_0 ?_
    refine w_callVi dX7_owes_17 ml_X7_69 mv_X7_its rfl rfl (by decide) rfl (e7_its0 G _ (k) (by omega)) rfl rfl (Nat.le_of_ble_eq_true rfl) ?_
    refine sw_1_5 (fun c3 => ?_) (fun c3 => ?_) (fun c3 => ?_) (fun c3 => ?_) (fun c3 => ?_) (fun c3 => ?_)
    · skip
      refine w_tableIn (t := 56) (off := 36) dX7_owes_20 (by rw [c3]; decide) (by rw [c3]; decide) (by rw [c3]; rfl) (by decide) ?_
      refine w_iload_n dX7_owes_56 rfl ?_
      refine w_iload_n dX7_owes_57 rfl ?_
      refine w_bipush dX7_owes_58 bp_10 ?_
      refine w_idiv dX7_owes_60 (by decide) ?_
      refine w_isub dX7_owes_61 ?_
      refine w_iret dX7_owes_62 rfl ?_
      exact ⟨by simp [p_owes, c1, c3], rfl⟩
    · skip
      refine w_tableIn (t := 74) (off := 54) dX7_owes_20 (by rw [c3]; decide) (by rw [c3]; decide) (by rw [c3]; rfl) (by decide) ?_
      refine w_iload_n dX7_owes_74 rfl ?_
      refine w_iret dX7_owes_75 rfl ?_
      exact ⟨by simp [p_owes, c1, c3], rfl⟩
    · skip
      refine w_tableIn (t := 72) (off := 52) dX7_owes_20 (by rw [c3]; decide) (by rw [c3]; decide) (by rw [c3]; rfl) (by decide) ?_
      refine w_iconst dX7_owes_72 ic_0 ?_
      refine w_iret dX7_owes_73 rfl ?_
      exact ⟨by simp [p_owes, c1, c3], rfl⟩
    · skip
      refine w_tableIn (t := 63) (off := 43) dX7_owes_20 (by rw [c3]; decide) (by rw [c3]; decide) (by rw [c3]; rfl) (by decide) ?_
      refine w_iload_n dX7_owes_63 rfl ?_
      refine w_iload_n dX7_owes_64 rfl ?_
      refine w_bipush dX7_owes_65 bp_10 ?_
      refine w_idiv dX7_owes_67 (by decide) ?_
      refine w_isub dX7_owes_68 ?_
      refine w_iconst dX7_owes_69 ic_2 ?_
      refine w_idiv dX7_owes_70 (by decide) ?_
      refine w_iret dX7_owes_71 rfl ?_
      exact ⟨by simp [p_owes, c1, c3], rfl⟩
    · skip
      refine w_tableIn (t := 72) (off := 52) dX7_owes_20 (by rw [c3]; decide) (by rw [c3]; decide) (by rw [c3]; rfl) (by decide) ?_
      refine w_iconst dX7_owes_72 ic_0 ?_
      refine w_iret dX7_owes_73 rfl ?_
      exact ⟨by simp [p_owes, c1, c3], rfl⟩
    · skip
      refine w_tableOut (t := 74) dX7_owes_20 c3.1 (by decide) ?_
      refine w_iload_n dX7_owes_74 rfl ?_
      refine w_iret dX7_owes_75 rfl ?_
      exact ⟨by simp [p_owes, c1, c3], rfl⟩
end
section
theorem lt_nI {r n : Nat} (hr : r < 2 ^ 31) (hn : n < 2 ^ 31) (h : nI r < nI n) : r < n := (nI_ltI hr hn).mp h
theorem nlt_nI {r n : Nat} (hr : r < 2 ^ 31) (hn : n < 2 ^ 31) (h : ¬ nI r < nI n) : n ≤ r := Nat.not_lt.mp (fun z => h ((nI_ltI hr hn).mpr z))
theorem z01 {c : Prop} [Decidable c] : narrow .boolean (.int (if c then 0 else 1)) = .int (if c then 0 else 1) := by split <;> rfl
theorem z10 {c : Prop} [Decidable c] : narrow .boolean (.int (if c then 1 else 0)) = .int (if c then 1 else 0) := by split <;> rfl
set_option maxRecDepth 100000 in
set_option maxHeartbeats 4000000 in
theorem e7_struckAt (G : GT) (σ : Sg) (c : Int32) (n : Nat) (hn : σ.1 51 8 = nI n) (h8 : n ≤ 8) : Evi G mX7_struckAt [.ref 50, .int c] σ (oI (p_strk (σ.1 51) n c)) (σ) := by
  refine Ev.ofL (m := 4) (L := [some (.ref 50), some (.int c), none, none, none, none]) rfl (Nat.le_of_ble_eq_true rfl) rfl rfl ?_
  refine w_iconst dX7_struckAt_0 ic_m1 ?_
  refine w_istore_n dX7_struckAt_1 (by decide) rfl rfl ?_
  dsimp only [List.set]
  refine w_iconst dX7_struckAt_2 ic_0 ?_
  refine w_istore_n dX7_struckAt_3 (by decide) rfl rfl ?_
  dsimp only [List.set]
  refine w_iconst dX7_struckAt_4 ic_0 ?_
  refine w_istore dX7_struckAt_5 (by decide) rfl rfl ?_
  dsimp only [List.set]
  have lp : ∀ (m : Nat) (r : Nat) (x : Option Value), n - r < m → r ≤ n → WP G mX7_struckAt 7 [some (.ref 50), some (.int c), some (.int (oI (p_best (σ.1 51) c r).1)), some (.int (p_best (σ.1 51) c r).2), some (.int (nI r)), x] [] (σ) (fun v σ' => v = some (.int (oI (p_strk (σ.1 51) n c))) ∧ σ' = (σ)) := by
    intro m
    induction m with
    | zero => intro r x hm; exact absurd hm (Nat.not_lt_zero _)
    | succ m ih =>
      intro r x hm hr
      refine w_iload dX7_struckAt_7 rfl ?_
      refine w_aload_n dX7_struckAt_9 rfl ?_
      refine w_getR (t := 51) dX7_struckAt_10 fl_X7_7 rfl (by decide) (by decide) rfl ?_
      refine w_bipush dX7_struckAt_13 bp_8 ?_
      refine w_iald (j := 8) dX7_struckAt_15 rfl (by decide) rfl (by decide) ?_
      refine w2_icmp_ge (t := 60) dX7_struckAt_16 (by decide) (fun c1 => ?_) (fun c1 => ?_)
      · skip
        rw [hn] at c1
        have hge := nlt_nI (by omega) (by omega) c1
        have hen : r = n := by omega
        subst hen
        refine w_iload_n dX7_struckAt_60 rfl ?_
        refine w_iret dX7_struckAt_61 rfl ?_
        exact ⟨rfl, rfl⟩
      · skip
        rw [hn] at c1
        have hlt := lt_nI (by omega) (by omega) c1
        refine w_aload_n dX7_struckAt_19 rfl ?_
        refine w_iload dX7_struckAt_20 rfl ?_
        refine w_iload_n dX7_struckAt_22 rfl ?_
        refine w_callVi dX7_struckAt_23 ml_X7_90 mv_X7_draws rfl rfl (by decide) rfl (e7_draws G _ (r) _ (by omega)) rfl rfl (Nat.le_of_ble_eq_true rfl) ?_
        refine w_istore dX7_struckAt_26 (by decide) rfl rfl ?_
        dsimp only [List.set]
        refine w_iload dX7_struckAt_28 rfl ?_
        refine w_iload_n dX7_struckAt_30 rfl ?_
        refine w2_icmp_le (t := 39) dX7_struckAt_31 (by decide) (fun c2 => ?_) (fun c2 => ?_)
        · skip
          refine w_iload_n dX7_struckAt_39 rfl ?_
          refine w_istore_n dX7_struckAt_40 (by decide) rfl rfl ?_
          dsimp only [List.set]
          have cc := c2
          refine w_iload dX7_struckAt_41 rfl ?_
          refine w_iload_n dX7_struckAt_43 rfl ?_
          refine w2_icmp_le (t := 52) dX7_struckAt_44 (by decide) (fun c3 => ?_) (fun c3 => absurd c3 c2)
          refine w_iload_n dX7_struckAt_52 rfl ?_
          refine w_istore_n dX7_struckAt_53 (by decide) rfl rfl ?_
          dsimp only [List.set]
          refine w_iincN (a := r) (b := 1) dX7_struckAt_54 rfl ic_1 (by decide) rfl rfl ?_
          dsimp only [List.set]
          refine w_goto (t := 7) dX7_struckAt_57 (by decide) ?_
          have q := ih (r + 1) (some (.int (p_draws (σ.1 51) r c))) (by omega) (by omega)
          simp only [p_best, cc, if_true, if_false] at q
          exact q
        · skip
          refine w_iload dX7_struckAt_34 rfl ?_
          refine w_goto (t := 40) dX7_struckAt_36 (by decide) ?_
          refine w_istore_n dX7_struckAt_40 (by decide) rfl rfl ?_
          dsimp only [List.set]
          have cc := c2
          refine w_iload dX7_struckAt_41 rfl ?_
          refine w_iload_n dX7_struckAt_43 rfl ?_
          refine w2_icmp_le (t := 52) dX7_struckAt_44 (by decide) (fun c4 => absurd c2 c4) (fun c4 => ?_)
          refine w_iload dX7_struckAt_47 rfl ?_
          refine w_goto (t := 53) dX7_struckAt_49 (by decide) ?_
          refine w_istore_n dX7_struckAt_53 (by decide) rfl rfl ?_
          dsimp only [List.set]
          refine w_iincN (a := r) (b := 1) dX7_struckAt_54 rfl ic_1 (by decide) rfl rfl ?_
          dsimp only [List.set]
          refine w_goto (t := 7) dX7_struckAt_57 (by decide) ?_
          have q := ih (r + 1) (some (.int (p_draws (σ.1 51) r c))) (by omega) (by omega)
          simp only [p_best, cc, if_true, if_false] at q
          exact q
  exact lp (n + 1) 0 none (by omega) (by omega)
set_option maxRecDepth 100000 in
set_option maxHeartbeats 4000000 in
theorem e7_doesBreak (G : GT) (σ : Sg) : Evi G mX7_doesBreak [.ref 50] σ (p_breaks (σ.1 51)) (σ) := by
  refine Ev.ofL (m := 0) (L := [some (.ref 50)]) rfl (Nat.le_of_ble_eq_true rfl) rfl rfl ?_
  refine w_aload_n dX7_doesBreak_0 rfl ?_
  refine w_getR (t := 51) dX7_doesBreak_1 fl_X7_7 rfl (by decide) (by decide) rfl ?_
  refine w_iconst dX7_doesBreak_4 ic_1 ?_
  refine w_iald (j := 1) dX7_doesBreak_5 rfl (by decide) rfl (by decide) ?_
  refine w_aload_n dX7_doesBreak_6 rfl ?_
  refine w_getR (t := 51) dX7_doesBreak_7 fl_X7_7 rfl (by decide) (by decide) rfl ?_
  refine w_iconst dX7_doesBreak_10 ic_4 ?_
  refine w_iald (j := 4) dX7_doesBreak_11 rfl (by decide) rfl (by decide) ?_
  refine w_icmp_lt (t := 19) dX7_doesBreak_12 (by decide) (fun c1 => ?_) (fun c1 => ?_)
  · skip
    refine w_iconst dX7_doesBreak_19 ic_0 ?_
    refine w_zret dX7_doesBreak_20 rfl rfl ?_
    exact ⟨by simp [p_breaks, c1], rfl⟩
  · skip
    refine w_iconst dX7_doesBreak_15 ic_1 ?_
    refine w_goto (t := 20) dX7_doesBreak_16 (by decide) ?_
    refine w_zret dX7_doesBreak_20 rfl rfl ?_
    exact ⟨by simp [p_breaks, c1], rfl⟩
set_option maxRecDepth 100000 in
set_option maxHeartbeats 4000000 in
theorem e7_bolt (G : GT) (σ : Sg) (n : Nat) (hn : σ.1 51 8 = nI n) (h8 : n ≤ 8) : Evv G mX7_bolt [.ref 50] σ (setR σ (p_bolt (σ.1 51) n)) := by
  refine Ev.ofL (m := 2) (L := [some (.ref 50), none, none]) rfl (Nat.le_of_ble_eq_true rfl) rfl rfl ?_
  refine w_aload_n dX7_bolt_0 rfl ?_
  refine w_aload_n dX7_bolt_1 rfl ?_
  refine w_getR (t := 51) dX7_bolt_2 fl_X7_7 rfl (by decide) (by decide) rfl ?_
  refine w_iconst dX7_bolt_5 ic_0 ?_
  refine w_iald (j := 0) dX7_bolt_6 rfl (by decide) rfl (by decide) ?_
  refine w_callVi dX7_bolt_7 ml_X7_101 mv_X7_struckAt rfl rfl (by decide) rfl (e7_struckAt G _ _ n hn h8) rfl rfl (Nat.le_of_ble_eq_true rfl) ?_
  try simp only [wI_51, setR_setR, setR_51]
  rcases hs : p_strk (σ.1 51) n (σ.1 51 0) with _ | k
  · skip
    refine w_istore_n dX7_bolt_10 (by decide) rfl rfl ?_
    dsimp only [List.set]
    refine w_iload_n dX7_bolt_11 rfl ?_
    refine w2_if_ge (t := 19) dX7_bolt_12 (by decide) (fun c1 => absurd (by decide) c1) (fun c1 => ?_)
    refine w_iconst dX7_bolt_15 ic_0 ?_
    refine w_goto (t := 30) dX7_bolt_16 (by decide) ?_
    refine w_istore_n dX7_bolt_30 (by decide) rfl rfl ?_
    dsimp only [List.set]
    refine w_iload_n dX7_bolt_31 rfl ?_
    refine w_if_lt (t := 77) dX7_bolt_32 (by decide) (fun c2 => ?_) (fun c2 => absurd (by decide) c2)
    refine w_iload_n dX7_bolt_77 rfl ?_
    refine w_if_ne (t := 108) dX7_bolt_78 (by decide) (fun c3 => absurd rfl c3) (fun c3 => ?_)
    refine w_aload_n dX7_bolt_81 rfl ?_
    refine w_getR (t := 51) dX7_bolt_82 fl_X7_7 rfl (by decide) (by decide) rfl ?_
    refine w_bipush dX7_bolt_85 bp_6 ?_
    refine w_aload_n dX7_bolt_87 rfl ?_
    refine w_getR (t := 51) dX7_bolt_88 fl_X7_7 rfl (by decide) (by decide) rfl ?_
    refine w_bipush dX7_bolt_91 bp_6 ?_
    refine w_iald (j := 6) dX7_bolt_93 rfl (by decide) rfl (by decide) ?_
    refine w_aload_n dX7_bolt_94 rfl ?_
    refine w_getR (t := 51) dX7_bolt_95 fl_X7_7 rfl (by decide) (by decide) rfl ?_
    refine w_iconst dX7_bolt_98 ic_1 ?_
    refine w_iald (j := 1) dX7_bolt_99 rfl (by decide) rfl (by decide) ?_
    refine w_iadd dX7_bolt_100 ?_
    refine w_iconst dX7_bolt_101 ic_0 ?_
    refine w_ldc dX7_bolt_102 kc_X7_104 ?_
    refine w_callSi dX7_bolt_104 ml_X7_73 ms_X7_held rfl (e7_held G _ _ _ _) rfl rfl (Nat.le_of_ble_eq_true rfl) ?_
    try simp only [wI_51, setR_setR, setR_51]
    refine w_iast (j := 6) dX7_bolt_107 rfl (by decide) rfl (by decide) ?_
    try simp only [wI_51, setR_setR, setR_51]
    refine w_aload_n dX7_bolt_108 rfl ?_
    refine w_getR (t := 51) dX7_bolt_109 fl_X7_7 rfl (by decide) (by decide) rfl ?_
    refine w_iconst dX7_bolt_112 ic_1 ?_
    refine w_iconst dX7_bolt_113 ic_0 ?_
    refine w_iast (j := 1) dX7_bolt_114 rfl (by decide) rfl (by decide) ?_
    try simp only [wI_51, setR_setR, setR_51]
    refine w_vret dX7_bolt_115 rfl ?_
    exact ⟨rfl, by simp only [p_bolt, p_boltO, hs]⟩
  · skip
    have hk := p_strk_lt hs
    change WP G mX7_bolt 10 _ [.int (nI k)] _ _
    refine w_istore_n dX7_bolt_10 (by decide) rfl rfl ?_
    dsimp only [List.set]
    refine w_iload_n dX7_bolt_11 rfl ?_
    refine w2_if_ge (t := 19) dX7_bolt_12 (by decide) (fun c4 => ?_) (fun c4 => absurd c4 (nI_pos (by omega)))
    refine w_aload_n dX7_bolt_19 rfl ?_
    refine w_iload_n dX7_bolt_20 rfl ?_
    refine w_aload_n dX7_bolt_21 rfl ?_
    refine w_getR (t := 51) dX7_bolt_22 fl_X7_7 rfl (by decide) (by decide) rfl ?_
    refine w_iconst dX7_bolt_25 ic_1 ?_
    refine w_iald (j := 1) dX7_bolt_26 rfl (by decide) rfl (by decide) ?_
    refine w_callVi dX7_bolt_27 ml_X7_93 mv_X7_owes rfl rfl (by decide) rfl (e7_owes G _ (k) _ (by omega)) rfl rfl (Nat.le_of_ble_eq_true rfl) ?_
    try simp only [wI_51, setR_setR, setR_51]
    refine w_istore_n dX7_bolt_30 (by decide) rfl rfl ?_
    dsimp only [List.set]
    refine w_iload_n dX7_bolt_31 rfl ?_
    refine w_if_lt (t := 77) dX7_bolt_32 (by decide) (fun c5 => absurd c5 (nI_pos (by omega))) (fun c5 => ?_)
    refine w_aload_n dX7_bolt_35 rfl ?_
    refine w_iload_n dX7_bolt_36 rfl ?_
    refine w_bipush dX7_bolt_37 bp_6 ?_
    refine w_aload_n dX7_bolt_39 rfl ?_
    refine w_iload_n dX7_bolt_40 rfl ?_
    refine w_bipush dX7_bolt_41 bp_6 ?_
    refine w_callVi dX7_bolt_43 ml_X7_69 mv_X7_its rfl rfl (by decide) rfl (e7_its G _ (k) (6) (by omega) (by omega)) rfl rfl (Nat.le_of_ble_eq_true rfl) ?_
    try simp only [wI_51, setR_setR, setR_51]
    refine w_iconst dX7_bolt_46 ic_1 ?_
    refine w_iadd dX7_bolt_47 ?_
    refine w_iconst dX7_bolt_48 ic_0 ?_
    refine w_ldc dX7_bolt_49 kc_X7_104 ?_
    refine w_callSi dX7_bolt_51 ml_X7_73 ms_X7_held rfl (e7_held G _ _ _ _) rfl rfl (Nat.le_of_ble_eq_true rfl) ?_
    try simp only [wI_51, setR_setR, setR_51]
    refine w_callVv dX7_bolt_54 ml_X7_57 mv_X7_puts rfl rfl (by decide) rfl (e7_puts G _ (k) (6) _ (by omega) (by omega)) rfl rfl (Nat.le_of_ble_eq_true rfl) ?_
    try simp only [wI_51, setR_setR, setR_51]
    refine w_aload_n dX7_bolt_57 rfl ?_
    refine w_iload_n dX7_bolt_58 rfl ?_
    refine w_iconst dX7_bolt_59 ic_5 ?_
    refine w_aload_n dX7_bolt_60 rfl ?_
    refine w_iload_n dX7_bolt_61 rfl ?_
    refine w_iconst dX7_bolt_62 ic_5 ?_
    refine w_callVi dX7_bolt_63 ml_X7_69 mv_X7_its rfl rfl (by decide) rfl (e7_its G _ (k) (5) (by omega) (by omega)) rfl rfl (Nat.le_of_ble_eq_true rfl) ?_
    try simp only [wI_51, setR_setR, setR_51]
    refine w_iload_n dX7_bolt_66 rfl ?_
    refine w_iadd dX7_bolt_67 ?_
    refine w_iconst dX7_bolt_68 ic_0 ?_
    refine w_ldc dX7_bolt_69 kc_X7_104 ?_
    refine w_callSi dX7_bolt_71 ml_X7_73 ms_X7_held rfl (e7_held G _ _ _ _) rfl rfl (Nat.le_of_ble_eq_true rfl) ?_
    try simp only [wI_51, setR_setR, setR_51]
    refine w_callVv dX7_bolt_74 ml_X7_57 mv_X7_puts rfl rfl (by decide) rfl (e7_puts G _ (k) (5) _ (by omega) (by omega)) rfl rfl (Nat.le_of_ble_eq_true rfl) ?_
    try simp only [wI_51, setR_setR, setR_51]
    refine w_iload_n dX7_bolt_77 rfl ?_
    refine w_if_ne (t := 108) dX7_bolt_78 (by decide) (fun c6 => ?_) (fun c6 => ?_)
    · skip
      refine w_aload_n dX7_bolt_108 rfl ?_
      refine w_getR (t := 51) dX7_bolt_109 fl_X7_7 rfl (by decide) (by decide) rfl ?_
      refine w_iconst dX7_bolt_112 ic_1 ?_
      refine w_iconst dX7_bolt_113 ic_0 ?_
      refine w_iast (j := 1) dX7_bolt_114 rfl (by decide) rfl (by decide) ?_
      try simp only [wI_51, setR_setR, setR_51]
      refine w_vret dX7_bolt_115 rfl ?_
      exact ⟨rfl, by simp only [p_bolt, p_boltO, hs, c6, if_true, if_false]⟩
    · skip
      refine w_aload_n dX7_bolt_81 rfl ?_
      refine w_getR (t := 51) dX7_bolt_82 fl_X7_7 rfl (by decide) (by decide) rfl ?_
      refine w_bipush dX7_bolt_85 bp_6 ?_
      refine w_aload_n dX7_bolt_87 rfl ?_
      refine w_getR (t := 51) dX7_bolt_88 fl_X7_7 rfl (by decide) (by decide) rfl ?_
      refine w_bipush dX7_bolt_91 bp_6 ?_
      refine w_iald (j := 6) dX7_bolt_93 rfl (by decide) rfl (by decide) ?_
      refine w_aload_n dX7_bolt_94 rfl ?_
      refine w_getR (t := 51) dX7_bolt_95 fl_X7_7 rfl (by decide) (by decide) rfl ?_
      refine w_iconst dX7_bolt_98 ic_1 ?_
      refine w_iald (j := 1) dX7_bolt_99 rfl (by decide) rfl (by decide) ?_
      refine w_iadd dX7_bolt_100 ?_
      refine w_iconst dX7_bolt_101 ic_0 ?_
      refine w_ldc dX7_bolt_102 kc_X7_104 ?_
      refine w_callSi dX7_bolt_104 ml_X7_73 ms_X7_held rfl (e7_held G _ _ _ _) rfl rfl (Nat.le_of_ble_eq_true rfl) ?_
      try simp only [wI_51, setR_setR, setR_51]
      refine w_iast (j := 6) dX7_bolt_107 rfl (by decide) rfl (by decide) ?_
      try simp only [wI_51, setR_setR, setR_51]
      refine w_aload_n dX7_bolt_108 rfl ?_
      refine w_getR (t := 51) dX7_bolt_109 fl_X7_7 rfl (by decide) (by decide) rfl ?_
      refine w_iconst dX7_bolt_112 ic_1 ?_
      refine w_iconst dX7_bolt_113 ic_0 ?_
      refine w_iast (j := 1) dX7_bolt_114 rfl (by decide) rfl (by decide) ?_
      try simp only [wI_51, setR_setR, setR_51]
      refine w_vret dX7_bolt_115 rfl ?_
      exact ⟨rfl, by simp only [p_bolt, p_boltO, hs, c6, if_true, if_false]⟩
set_option maxRecDepth 100000 in
set_option maxHeartbeats 4000000 in
theorem e7_oneHour (G : GT) (σ : Sg) (n : Nat) (hn : σ.1 51 8 = nI n) (h8 : n ≤ 8) : Evv G mX7_oneHour [.ref 50] σ (setR σ (p_hour (σ.1 51) n)) := by
  refine Ev.ofL (m := 0) (L := [some (.ref 50)]) rfl (Nat.le_of_ble_eq_true rfl) rfl rfl ?_
  refine w_aload_n dX7_oneHour_0 rfl ?_
  refine w_callVi dX7_oneHour_1 ml_X7_105 mv_X7_doesBreak rfl rfl (by decide) rfl (e7_doesBreak G _) rfl rfl (Nat.le_of_ble_eq_true rfl) ?_
  try simp only [wI_51, setR_setR, setR_51]
  refine w_if_eq (t := 11) dX7_oneHour_4 (by decide) (fun c1 => ?_) (fun c1 => ?_)
  · skip
    refine w_aload_n dX7_oneHour_11 rfl ?_
    refine w_getR (t := 51) dX7_oneHour_12 fl_X7_7 rfl (by decide) (by decide) rfl ?_
    refine w_iconst dX7_oneHour_15 ic_0 ?_
    refine w_iald (j := 0) dX7_oneHour_16 rfl (by decide) rfl (by decide) ?_
    refine w_aload_n dX7_oneHour_17 rfl ?_
    refine w_getR (t := 51) dX7_oneHour_18 fl_X7_7 rfl (by decide) (by decide) rfl ?_
    refine w_iconst dX7_oneHour_21 ic_2 ?_
    refine w_iald (j := 2) dX7_oneHour_22 rfl (by decide) rfl (by decide) ?_
    refine w_iadd dX7_oneHour_23 ?_
    refine w_callSi dX7_oneHour_24 ml_X7_49 ms_X7_isPlace rfl (e7_isPlace G _ _) rfl rfl (Nat.le_of_ble_eq_true rfl) ?_
    try simp only [wI_51, setR_setR, setR_51]
    refine w_if_eq (t := 48) dX7_oneHour_27 (by decide) (fun c2 => ?_) (fun c2 => ?_)
    · skip
      refine w_aload_n dX7_oneHour_48 rfl ?_
      refine w_getR (t := 51) dX7_oneHour_49 fl_X7_7 rfl (by decide) (by decide) rfl ?_
      refine w_iconst dX7_oneHour_52 ic_2 ?_
      refine w_aload_n dX7_oneHour_53 rfl ?_
      refine w_getR (t := 51) dX7_oneHour_54 fl_X7_7 rfl (by decide) (by decide) rfl ?_
      refine w_iconst dX7_oneHour_57 ic_2 ?_
      refine w_iald (j := 2) dX7_oneHour_58 rfl (by decide) rfl (by decide) ?_
      refine w_ineg dX7_oneHour_59 ?_
      refine w_iast (j := 2) dX7_oneHour_60 rfl (by decide) rfl (by decide) ?_
      try simp only [wI_51, setR_setR, setR_51]
      refine w_aload_n dX7_oneHour_61 rfl ?_
      refine w_getR (t := 51) dX7_oneHour_62 fl_X7_7 rfl (by decide) (by decide) rfl ?_
      refine w_iconst dX7_oneHour_65 ic_1 ?_
      refine w_aload_n dX7_oneHour_66 rfl ?_
      refine w_getR (t := 51) dX7_oneHour_67 fl_X7_7 rfl (by decide) (by decide) rfl ?_
      refine w_iconst dX7_oneHour_70 ic_1 ?_
      refine w_iald (j := 1) dX7_oneHour_71 rfl (by decide) rfl (by decide) ?_
      refine w_aload_n dX7_oneHour_72 rfl ?_
      refine w_getR (t := 51) dX7_oneHour_73 fl_X7_7 rfl (by decide) (by decide) rfl ?_
      refine w_iconst dX7_oneHour_76 ic_3 ?_
      refine w_iald (j := 3) dX7_oneHour_77 rfl (by decide) rfl (by decide) ?_
      refine w_iadd dX7_oneHour_78 ?_
      refine w_iconst dX7_oneHour_79 ic_0 ?_
      refine w_bipush dX7_oneHour_80 bp_99 ?_
      refine w_callSi dX7_oneHour_82 ml_X7_73 ms_X7_held rfl (e7_held G _ _ _ _) rfl rfl (Nat.le_of_ble_eq_true rfl) ?_
      try simp only [wI_51, setR_setR, setR_51]
      refine w_iast (j := 1) dX7_oneHour_85 rfl (by decide) rfl (by decide) ?_
      try simp only [wI_51, setR_setR, setR_51]
      refine w_aload_n dX7_oneHour_86 rfl ?_
      refine w_getR (t := 51) dX7_oneHour_87 fl_X7_7 rfl (by decide) (by decide) rfl ?_
      refine w_iconst dX7_oneHour_90 ic_5 ?_
      refine w_dup2 dX7_oneHour_91 rfl rfl ?_
      refine w_iald (j := 5) dX7_oneHour_92 rfl (by decide) rfl (by decide) ?_
      refine w_iconst dX7_oneHour_93 ic_1 ?_
      refine w_iadd dX7_oneHour_94 ?_
      refine w_iast (j := 5) dX7_oneHour_95 rfl (by decide) rfl (by decide) ?_
      try simp only [wI_51, setR_setR, setR_51]
      refine w_vret dX7_oneHour_96 rfl ?_
      exact ⟨rfl, by simp only [p_hour, p_rest, p_grow, p_drift, c1, c2, if_true, if_false]⟩
    · skip
      refine w_aload_n dX7_oneHour_30 rfl ?_
      refine w_getR (t := 51) dX7_oneHour_31 fl_X7_7 rfl (by decide) (by decide) rfl ?_
      refine w_iconst dX7_oneHour_34 ic_0 ?_
      refine w_dup2 dX7_oneHour_35 rfl rfl ?_
      refine w_iald (j := 0) dX7_oneHour_36 rfl (by decide) rfl (by decide) ?_
      refine w_aload_n dX7_oneHour_37 rfl ?_
      refine w_getR (t := 51) dX7_oneHour_38 fl_X7_7 rfl (by decide) (by decide) rfl ?_
      refine w_iconst dX7_oneHour_41 ic_2 ?_
      refine w_iald (j := 2) dX7_oneHour_42 rfl (by decide) rfl (by decide) ?_
      refine w_iadd dX7_oneHour_43 ?_
      refine w_iast (j := 0) dX7_oneHour_44 rfl (by decide) rfl (by decide) ?_
      try simp only [wI_51, setR_setR, setR_51]
      refine w_goto (t := 61) dX7_oneHour_45 (by decide) ?_
      refine w_aload_n dX7_oneHour_61 rfl ?_
      refine w_getR (t := 51) dX7_oneHour_62 fl_X7_7 rfl (by decide) (by decide) rfl ?_
      refine w_iconst dX7_oneHour_65 ic_1 ?_
      refine w_aload_n dX7_oneHour_66 rfl ?_
      refine w_getR (t := 51) dX7_oneHour_67 fl_X7_7 rfl (by decide) (by decide) rfl ?_
      refine w_iconst dX7_oneHour_70 ic_1 ?_
      refine w_iald (j := 1) dX7_oneHour_71 rfl (by decide) rfl (by decide) ?_
      refine w_aload_n dX7_oneHour_72 rfl ?_
      refine w_getR (t := 51) dX7_oneHour_73 fl_X7_7 rfl (by decide) (by decide) rfl ?_
      refine w_iconst dX7_oneHour_76 ic_3 ?_
      refine w_iald (j := 3) dX7_oneHour_77 rfl (by decide) rfl (by decide) ?_
      refine w_iadd dX7_oneHour_78 ?_
      refine w_iconst dX7_oneHour_79 ic_0 ?_
      refine w_bipush dX7_oneHour_80 bp_99 ?_
      refine w_callSi dX7_oneHour_82 ml_X7_73 ms_X7_held rfl (e7_held G _ _ _ _) rfl rfl (Nat.le_of_ble_eq_true rfl) ?_
      try simp only [wI_51, setR_setR, setR_51]
      refine w_iast (j := 1) dX7_oneHour_85 rfl (by decide) rfl (by decide) ?_
      try simp only [wI_51, setR_setR, setR_51]
      refine w_aload_n dX7_oneHour_86 rfl ?_
      refine w_getR (t := 51) dX7_oneHour_87 fl_X7_7 rfl (by decide) (by decide) rfl ?_
      refine w_iconst dX7_oneHour_90 ic_5 ?_
      refine w_dup2 dX7_oneHour_91 rfl rfl ?_
      refine w_iald (j := 5) dX7_oneHour_92 rfl (by decide) rfl (by decide) ?_
      refine w_iconst dX7_oneHour_93 ic_1 ?_
      refine w_iadd dX7_oneHour_94 ?_
      refine w_iast (j := 5) dX7_oneHour_95 rfl (by decide) rfl (by decide) ?_
      try simp only [wI_51, setR_setR, setR_51]
      refine w_vret dX7_oneHour_96 rfl ?_
      exact ⟨rfl, by simp only [p_hour, p_rest, p_grow, p_drift, c1, c2, if_true, if_false]⟩
  · skip
    refine w_aload_n dX7_oneHour_7 rfl ?_
    refine w_callVv dX7_oneHour_8 ml_X7_109 mv_X7_bolt rfl rfl (by decide) rfl (e7_bolt G _ n hn h8) rfl rfl (Nat.le_of_ble_eq_true rfl) ?_
    try simp only [wI_51, setR_setR, setR_51]
    refine w_aload_n dX7_oneHour_11 rfl ?_
    refine w_getR (t := 51) dX7_oneHour_12 fl_X7_7 rfl (by decide) (by decide) rfl ?_
    refine w_iconst dX7_oneHour_15 ic_0 ?_
    refine w_iald (j := 0) dX7_oneHour_16 rfl (by decide) rfl (by decide) ?_
    refine w_aload_n dX7_oneHour_17 rfl ?_
    refine w_getR (t := 51) dX7_oneHour_18 fl_X7_7 rfl (by decide) (by decide) rfl ?_
    refine w_iconst dX7_oneHour_21 ic_2 ?_
    refine w_iald (j := 2) dX7_oneHour_22 rfl (by decide) rfl (by decide) ?_
    refine w_iadd dX7_oneHour_23 ?_
    refine w_callSi dX7_oneHour_24 ml_X7_49 ms_X7_isPlace rfl (e7_isPlace G _ _) rfl rfl (Nat.le_of_ble_eq_true rfl) ?_
    try simp only [wI_51, setR_setR, setR_51]
    refine w_if_eq (t := 48) dX7_oneHour_27 (by decide) (fun c3 => ?_) (fun c3 => ?_)
    · skip
      refine w_aload_n dX7_oneHour_48 rfl ?_
      refine w_getR (t := 51) dX7_oneHour_49 fl_X7_7 rfl (by decide) (by decide) rfl ?_
      refine w_iconst dX7_oneHour_52 ic_2 ?_
      refine w_aload_n dX7_oneHour_53 rfl ?_
      refine w_getR (t := 51) dX7_oneHour_54 fl_X7_7 rfl (by decide) (by decide) rfl ?_
      refine w_iconst dX7_oneHour_57 ic_2 ?_
      refine w_iald (j := 2) dX7_oneHour_58 rfl (by decide) rfl (by decide) ?_
      refine w_ineg dX7_oneHour_59 ?_
      refine w_iast (j := 2) dX7_oneHour_60 rfl (by decide) rfl (by decide) ?_
      try simp only [wI_51, setR_setR, setR_51]
      refine w_aload_n dX7_oneHour_61 rfl ?_
      refine w_getR (t := 51) dX7_oneHour_62 fl_X7_7 rfl (by decide) (by decide) rfl ?_
      refine w_iconst dX7_oneHour_65 ic_1 ?_
      refine w_aload_n dX7_oneHour_66 rfl ?_
      refine w_getR (t := 51) dX7_oneHour_67 fl_X7_7 rfl (by decide) (by decide) rfl ?_
      refine w_iconst dX7_oneHour_70 ic_1 ?_
      refine w_iald (j := 1) dX7_oneHour_71 rfl (by decide) rfl (by decide) ?_
      refine w_aload_n dX7_oneHour_72 rfl ?_
      refine w_getR (t := 51) dX7_oneHour_73 fl_X7_7 rfl (by decide) (by decide) rfl ?_
      refine w_iconst dX7_oneHour_76 ic_3 ?_
      refine w_iald (j := 3) dX7_oneHour_77 rfl (by decide) rfl (by decide) ?_
      refine w_iadd dX7_oneHour_78 ?_
      refine w_iconst dX7_oneHour_79 ic_0 ?_
      refine w_bipush dX7_oneHour_80 bp_99 ?_
      refine w_callSi dX7_oneHour_82 ml_X7_73 ms_X7_held rfl (e7_held G _ _ _ _) rfl rfl (Nat.le_of_ble_eq_true rfl) ?_
      try simp only [wI_51, setR_setR, setR_51]
      refine w_iast (j := 1) dX7_oneHour_85 rfl (by decide) rfl (by decide) ?_
      try simp only [wI_51, setR_setR, setR_51]
      refine w_aload_n dX7_oneHour_86 rfl ?_
      refine w_getR (t := 51) dX7_oneHour_87 fl_X7_7 rfl (by decide) (by decide) rfl ?_
      refine w_iconst dX7_oneHour_90 ic_5 ?_
      refine w_dup2 dX7_oneHour_91 rfl rfl ?_
      refine w_iald (j := 5) dX7_oneHour_92 rfl (by decide) rfl (by decide) ?_
      refine w_iconst dX7_oneHour_93 ic_1 ?_
      refine w_iadd dX7_oneHour_94 ?_
      refine w_iast (j := 5) dX7_oneHour_95 rfl (by decide) rfl (by decide) ?_
      try simp only [wI_51, setR_setR, setR_51]
      refine w_vret dX7_oneHour_96 rfl ?_
      exact ⟨rfl, by simp only [p_hour, p_rest, p_grow, p_drift, c1, c3, if_true, if_false]⟩
    · skip
      refine w_aload_n dX7_oneHour_30 rfl ?_
      refine w_getR (t := 51) dX7_oneHour_31 fl_X7_7 rfl (by decide) (by decide) rfl ?_
      refine w_iconst dX7_oneHour_34 ic_0 ?_
      refine w_dup2 dX7_oneHour_35 rfl rfl ?_
      refine w_iald (j := 0) dX7_oneHour_36 rfl (by decide) rfl (by decide) ?_
      refine w_aload_n dX7_oneHour_37 rfl ?_
      refine w_getR (t := 51) dX7_oneHour_38 fl_X7_7 rfl (by decide) (by decide) rfl ?_
      refine w_iconst dX7_oneHour_41 ic_2 ?_
      refine w_iald (j := 2) dX7_oneHour_42 rfl (by decide) rfl (by decide) ?_
      refine w_iadd dX7_oneHour_43 ?_
      refine w_iast (j := 0) dX7_oneHour_44 rfl (by decide) rfl (by decide) ?_
      try simp only [wI_51, setR_setR, setR_51]
      refine w_goto (t := 61) dX7_oneHour_45 (by decide) ?_
      refine w_aload_n dX7_oneHour_61 rfl ?_
      refine w_getR (t := 51) dX7_oneHour_62 fl_X7_7 rfl (by decide) (by decide) rfl ?_
      refine w_iconst dX7_oneHour_65 ic_1 ?_
      refine w_aload_n dX7_oneHour_66 rfl ?_
      refine w_getR (t := 51) dX7_oneHour_67 fl_X7_7 rfl (by decide) (by decide) rfl ?_
      refine w_iconst dX7_oneHour_70 ic_1 ?_
      refine w_iald (j := 1) dX7_oneHour_71 rfl (by decide) rfl (by decide) ?_
      refine w_aload_n dX7_oneHour_72 rfl ?_
      refine w_getR (t := 51) dX7_oneHour_73 fl_X7_7 rfl (by decide) (by decide) rfl ?_
      refine w_iconst dX7_oneHour_76 ic_3 ?_
      refine w_iald (j := 3) dX7_oneHour_77 rfl (by decide) rfl (by decide) ?_
      refine w_iadd dX7_oneHour_78 ?_
      refine w_iconst dX7_oneHour_79 ic_0 ?_
      refine w_bipush dX7_oneHour_80 bp_99 ?_
      refine w_callSi dX7_oneHour_82 ml_X7_73 ms_X7_held rfl (e7_held G _ _ _ _) rfl rfl (Nat.le_of_ble_eq_true rfl) ?_
      try simp only [wI_51, setR_setR, setR_51]
      refine w_iast (j := 1) dX7_oneHour_85 rfl (by decide) rfl (by decide) ?_
      try simp only [wI_51, setR_setR, setR_51]
      refine w_aload_n dX7_oneHour_86 rfl ?_
      refine w_getR (t := 51) dX7_oneHour_87 fl_X7_7 rfl (by decide) (by decide) rfl ?_
      refine w_iconst dX7_oneHour_90 ic_5 ?_
      refine w_dup2 dX7_oneHour_91 rfl rfl ?_
      refine w_iald (j := 5) dX7_oneHour_92 rfl (by decide) rfl (by decide) ?_
      refine w_iconst dX7_oneHour_93 ic_1 ?_
      refine w_iadd dX7_oneHour_94 ?_
      refine w_iast (j := 5) dX7_oneHour_95 rfl (by decide) rfl (by decide) ?_
      try simp only [wI_51, setR_setR, setR_51]
      refine w_vret dX7_oneHour_96 rfl ?_
      exact ⟨rfl, by simp only [p_hour, p_rest, p_grow, p_drift, c1, c3, if_true, if_false]⟩
set_option maxRecDepth 100000 in
set_option maxHeartbeats 4000000 in
theorem e7_passes (G : GT) (σ : Sg) (q : Nat) (hq : q < 2 ^ 31) (n : Nat) (hn : σ.1 51 8 = nI n) (h8 : n ≤ 8) : Evv G mX7_passes [.ref 50, .int (nI q)] σ (setR σ (p_pass (σ.1 51) n q)) := by
  refine Ev.ofL (m := 1) (L := [some (.ref 50), some (.int (nI q)), none]) rfl (Nat.le_of_ble_eq_true rfl) rfl rfl ?_
  refine w_iconst dX7_passes_0 ic_0 ?_
  refine w_istore_n dX7_passes_1 (by decide) rfl rfl ?_
  dsimp only [List.set]
  have lp : ∀ (m : Nat) (i : Nat), q - i < m → i ≤ q → WP G mX7_passes 2 [some (.ref 50), some (.int (nI q)), some (.int (nI i))] [] (setR σ (p_pass (σ.1 51) n i)) (fun v σ' => v = none ∧ σ' = (setR σ (p_pass (σ.1 51) n q))) := by
    intro m
    induction m with
    | zero => intro i hm; exact absurd hm (Nat.not_lt_zero _)
    | succ m ih =>
      intro i hm hi
      refine w_iload_n dX7_passes_2 rfl ?_
      refine w_iload_n dX7_passes_3 rfl ?_
      refine w2_icmp_ge (t := 17) dX7_passes_4 (by decide) (fun c1 => ?_) (fun c1 => ?_)
      · skip
        have hge := nlt_nI (by omega) (by omega) c1
        have hen : i = q := by omega
        subst hen
        refine w_vret dX7_passes_17 rfl ?_
        exact ⟨rfl, rfl⟩
      · skip
        have hlt := lt_nI (by omega) (by omega) c1
        refine w_aload_n dX7_passes_7 rfl ?_
        refine w_callVv dX7_passes_8 ml_X7_112 mv_X7_oneHour rfl rfl (by decide) rfl (e7_oneHour G _ n (by rw [setR_51, p_pass_8]; exact hn) h8) rfl rfl (Nat.le_of_ble_eq_true rfl) ?_
        try simp only [wI_51, setR_setR, setR_51]
        refine w_iincN (a := i) (b := 1) dX7_passes_11 rfl ic_1 (by decide) rfl rfl ?_
        dsimp only [List.set]
        refine w_goto (t := 2) dX7_passes_14 (by decide) ?_
        exact ih (i + 1) (by omega) (by omega)
  have q0 := lp (q + 1) 0 (by omega) (by omega)
  simp only [p_pass, setR_self] at q0
  exact q0
set_option maxRecDepth 100000 in
set_option maxHeartbeats 4000000 in
theorem e7_sumOf (G : GT) (σ : Sg) (w : Nat) (hw : w < 7) (n : Nat) (hn : σ.1 51 8 = nI n) (h8 : n ≤ 8) : Evi G mX7_sumOf [.ref 50, .int (nI w)] σ (p_sum (σ.1 51) w n) (σ) := by
  refine Ev.ofL (m := 2) (L := [some (.ref 50), some (.int (nI w)), none, none]) rfl (Nat.le_of_ble_eq_true rfl) rfl rfl ?_
  refine w_iconst dX7_sumOf_0 ic_0 ?_
  refine w_istore_n dX7_sumOf_1 (by decide) rfl rfl ?_
  dsimp only [List.set]
  refine w_iconst dX7_sumOf_2 ic_0 ?_
  refine w_istore_n dX7_sumOf_3 (by decide) rfl rfl ?_
  dsimp only [List.set]
  have lp : ∀ (m : Nat) (r : Nat), n - r < m → r ≤ n → WP G mX7_sumOf 4 [some (.ref 50), some (.int (nI w)), some (.int (p_sum (σ.1 51) w r)), some (.int (nI r))] [] (σ) (fun v σ' => v = some (.int (p_sum (σ.1 51) w n)) ∧ σ' = (σ)) := by
    intro m
    induction m with
    | zero => intro r hm; exact absurd hm (Nat.not_lt_zero _)
    | succ m ih =>
      intro r hm hr
      refine w_iload_n dX7_sumOf_4 rfl ?_
      refine w_aload_n dX7_sumOf_5 rfl ?_
      refine w_getR (t := 51) dX7_sumOf_6 fl_X7_7 rfl (by decide) (by decide) rfl ?_
      refine w_bipush dX7_sumOf_9 bp_8 ?_
      refine w_iald (j := 8) dX7_sumOf_11 rfl (by decide) rfl (by decide) ?_
      refine w2_icmp_ge (t := 30) dX7_sumOf_12 (by decide) (fun c1 => ?_) (fun c1 => ?_)
      · skip
        rw [hn] at c1
        have hge := nlt_nI (by omega) (by omega) c1
        have hen : r = n := by omega
        subst hen
        refine w_iload_n dX7_sumOf_30 rfl ?_
        refine w_iret dX7_sumOf_31 rfl ?_
        exact ⟨rfl, rfl⟩
      · skip
        rw [hn] at c1
        have hlt := lt_nI (by omega) (by omega) c1
        refine w_iload_n dX7_sumOf_15 rfl ?_
        refine w_aload_n dX7_sumOf_16 rfl ?_
        refine w_iload_n dX7_sumOf_17 rfl ?_
        refine w_iload_n dX7_sumOf_18 rfl ?_
        refine w_callVi dX7_sumOf_19 ml_X7_69 mv_X7_its rfl rfl (by decide) rfl (e7_its G _ (r) (w) (by omega) (by omega)) rfl rfl (Nat.le_of_ble_eq_true rfl) ?_
        refine w_iadd dX7_sumOf_22 ?_
        refine w_istore_n dX7_sumOf_23 (by decide) rfl rfl ?_
        dsimp only [List.set]
        refine w_iincN (a := r) (b := 1) dX7_sumOf_24 rfl ic_1 (by decide) rfl rfl ?_
        dsimp only [List.set]
        refine w_goto (t := 4) dX7_sumOf_27 (by decide) ?_
        exact ih (r + 1) (by omega) (by omega)
  exact lp (n + 1) 0 (by omega) (by omega)
set_option maxRecDepth 100000 in
set_option maxHeartbeats 4000000 in
theorem e7_paidAll (G : GT) (σ : Sg) (n : Nat) (hn : σ.1 51 8 = nI n) (h8 : n ≤ 8) : Evi G mX7_paidAll [.ref 50] σ (p_paidSum (σ.1 51) n) (σ) := by
  refine Ev.ofL (m := 2) (L := [some (.ref 50), none, none]) rfl (Nat.le_of_ble_eq_true rfl) rfl rfl ?_
  refine w_iconst dX7_paidAll_0 ic_0 ?_
  refine w_istore_n dX7_paidAll_1 (by decide) rfl rfl ?_
  dsimp only [List.set]
  refine w_iconst dX7_paidAll_2 ic_0 ?_
  refine w_istore_n dX7_paidAll_3 (by decide) rfl rfl ?_
  dsimp only [List.set]
  have lp : ∀ (m : Nat) (r : Nat), n - r < m → r ≤ n → WP G mX7_paidAll 4 [some (.ref 50), some (.int (p_paidSum (σ.1 51) r)), some (.int (nI r))] [] (σ) (fun v σ' => v = some (.int (p_paidSum (σ.1 51) n)) ∧ σ' = (σ)) := by
    intro m
    induction m with
    | zero => intro r hm; exact absurd hm (Nat.not_lt_zero _)
    | succ m ih =>
      intro r hm hr
      refine w_iload_n dX7_paidAll_4 rfl ?_
      refine w_aload_n dX7_paidAll_5 rfl ?_
      refine w_getR (t := 51) dX7_paidAll_6 fl_X7_7 rfl (by decide) (by decide) rfl ?_
      refine w_bipush dX7_paidAll_9 bp_8 ?_
      refine w_iald (j := 8) dX7_paidAll_11 rfl (by decide) rfl (by decide) ?_
      refine w2_icmp_ge (t := 29) dX7_paidAll_12 (by decide) (fun c1 => ?_) (fun c1 => ?_)
      · skip
        rw [hn] at c1
        have hge := nlt_nI (by omega) (by omega) c1
        have hen : r = n := by omega
        subst hen
        refine w_iload_n dX7_paidAll_29 rfl ?_
        refine w_iret dX7_paidAll_30 rfl ?_
        exact ⟨rfl, rfl⟩
      · skip
        rw [hn] at c1
        have hlt := lt_nI (by omega) (by omega) c1
        refine w_iload_n dX7_paidAll_15 rfl ?_
        refine w_aload_n dX7_paidAll_16 rfl ?_
        refine w_iload_n dX7_paidAll_17 rfl ?_
        refine w_callVi dX7_paidAll_18 ml_X7_81 mv_X7_paidMany rfl rfl (by decide) rfl (e7_paidMany G _ (r) (by omega)) rfl rfl (Nat.le_of_ble_eq_true rfl) ?_
        refine w_iadd dX7_paidAll_21 ?_
        refine w_istore_n dX7_paidAll_22 (by decide) rfl rfl ?_
        dsimp only [List.set]
        refine w_iincN (a := r) (b := 1) dX7_paidAll_23 rfl ic_1 (by decide) rfl rfl ?_
        dsimp only [List.set]
        refine w_goto (t := 4) dX7_paidAll_26 (by decide) ?_
        exact ih (r + 1) (by omega) (by omega)
  exact lp (n + 1) 0 (by omega) (by omega)
set_option maxRecDepth 100000 in
set_option maxHeartbeats 4000000 in
theorem e7_drawAll (G : GT) (σ : Sg) (n : Nat) (hn : σ.1 51 8 = nI n) (h8 : n ≤ 8) : Evi G mX7_drawAll [.ref 50] σ (p_drawSum (σ.1 51) (σ.1 51 0) n) (σ) := by
  refine Ev.ofL (m := 2) (L := [some (.ref 50), none, none]) rfl (Nat.le_of_ble_eq_true rfl) rfl rfl ?_
  refine w_iconst dX7_drawAll_0 ic_0 ?_
  refine w_istore_n dX7_drawAll_1 (by decide) rfl rfl ?_
  dsimp only [List.set]
  refine w_iconst dX7_drawAll_2 ic_0 ?_
  refine w_istore_n dX7_drawAll_3 (by decide) rfl rfl ?_
  dsimp only [List.set]
  have lp : ∀ (m : Nat) (r : Nat), n - r < m → r ≤ n → WP G mX7_drawAll 4 [some (.ref 50), some (.int (p_drawSum (σ.1 51) (σ.1 51 0) r)), some (.int (nI r))] [] (σ) (fun v σ' => v = some (.int (p_drawSum (σ.1 51) (σ.1 51 0) n)) ∧ σ' = (σ)) := by
    intro m
    induction m with
    | zero => intro r hm; exact absurd hm (Nat.not_lt_zero _)
    | succ m ih =>
      intro r hm hr
      refine w_iload_n dX7_drawAll_4 rfl ?_
      refine w_aload_n dX7_drawAll_5 rfl ?_
      refine w_getR (t := 51) dX7_drawAll_6 fl_X7_7 rfl (by decide) (by decide) rfl ?_
      refine w_bipush dX7_drawAll_9 bp_8 ?_
      refine w_iald (j := 8) dX7_drawAll_11 rfl (by decide) rfl (by decide) ?_
      refine w2_icmp_ge (t := 35) dX7_drawAll_12 (by decide) (fun c1 => ?_) (fun c1 => ?_)
      · skip
        rw [hn] at c1
        have hge := nlt_nI (by omega) (by omega) c1
        have hen : r = n := by omega
        subst hen
        refine w_iload_n dX7_drawAll_35 rfl ?_
        refine w_iret dX7_drawAll_36 rfl ?_
        exact ⟨rfl, rfl⟩
      · skip
        rw [hn] at c1
        have hlt := lt_nI (by omega) (by omega) c1
        refine w_iload_n dX7_drawAll_15 rfl ?_
        refine w_aload_n dX7_drawAll_16 rfl ?_
        refine w_iload_n dX7_drawAll_17 rfl ?_
        refine w_aload_n dX7_drawAll_18 rfl ?_
        refine w_getR (t := 51) dX7_drawAll_19 fl_X7_7 rfl (by decide) (by decide) rfl ?_
        refine w_iconst dX7_drawAll_22 ic_0 ?_
        refine w_iald (j := 0) dX7_drawAll_23 rfl (by decide) rfl (by decide) ?_
        refine w_callVi dX7_drawAll_24 ml_X7_90 mv_X7_draws rfl rfl (by decide) rfl (e7_draws G _ (r) _ (by omega)) rfl rfl (Nat.le_of_ble_eq_true rfl) ?_
        refine w_iadd dX7_drawAll_27 ?_
        refine w_istore_n dX7_drawAll_28 (by decide) rfl rfl ?_
        dsimp only [List.set]
        refine w_iincN (a := r) (b := 1) dX7_drawAll_29 rfl ic_1 (by decide) rfl rfl ?_
        dsimp only [List.set]
        refine w_goto (t := 4) dX7_drawAll_32 (by decide) ?_
        exact ih (r + 1) (by omega) (by omega)
  exact lp (n + 1) 0 (by omega) (by omega)
set_option maxRecDepth 100000 in
set_option maxHeartbeats 4000000 in
theorem e7_paidOnes (G : GT) (σ : Sg) (n : Nat) (hn : σ.1 51 8 = nI n) (h8 : n ≤ 8) : Evi G mX7_paidOnes [.ref 50] σ (p_paidSet (σ.1 51) n) (σ) := by
  refine Ev.ofL (m := 2) (L := [some (.ref 50), none, none]) rfl (Nat.le_of_ble_eq_true rfl) rfl rfl ?_
  refine w_iconst dX7_paidOnes_0 ic_0 ?_
  refine w_istore_n dX7_paidOnes_1 (by decide) rfl rfl ?_
  dsimp only [List.set]
  refine w_iconst dX7_paidOnes_2 ic_0 ?_
  refine w_istore_n dX7_paidOnes_3 (by decide) rfl rfl ?_
  dsimp only [List.set]
  have lp : ∀ (m : Nat) (r : Nat), n - r < m → r ≤ n → WP G mX7_paidOnes 4 [some (.ref 50), some (.int (p_paidSet (σ.1 51) r)), some (.int (nI r))] [] (σ) (fun v σ' => v = some (.int (p_paidSet (σ.1 51) n)) ∧ σ' = (σ)) := by
    intro m
    induction m with
    | zero => intro r hm; exact absurd hm (Nat.not_lt_zero _)
    | succ m ih =>
      intro r hm hr
      refine w_iload_n dX7_paidOnes_4 rfl ?_
      refine w_aload_n dX7_paidOnes_5 rfl ?_
      refine w_getR (t := 51) dX7_paidOnes_6 fl_X7_7 rfl (by decide) (by decide) rfl ?_
      refine w_bipush dX7_paidOnes_9 bp_8 ?_
      refine w_iald (j := 8) dX7_paidOnes_11 rfl (by decide) rfl (by decide) ?_
      refine w2_icmp_ge (t := 39) dX7_paidOnes_12 (by decide) (fun c1 => ?_) (fun c1 => ?_)
      · skip
        rw [hn] at c1
        have hge := nlt_nI (by omega) (by omega) c1
        have hen : r = n := by omega
        subst hen
        refine w_iload_n dX7_paidOnes_39 rfl ?_
        refine w_iret dX7_paidOnes_40 rfl ?_
        exact ⟨rfl, rfl⟩
      · skip
        rw [hn] at c1
        have hlt := lt_nI (by omega) (by omega) c1
        refine w_iload_n dX7_paidOnes_15 rfl ?_
        refine w_aload_n dX7_paidOnes_16 rfl ?_
        refine w_iload_n dX7_paidOnes_17 rfl ?_
        refine w_callVi dX7_paidOnes_18 ml_X7_84 mv_X7_isPaid rfl rfl (by decide) rfl (e7_isPaid G _ (r) (by omega)) rfl rfl (Nat.le_of_ble_eq_true rfl) ?_
        refine w_if_eq (t := 30) dX7_paidOnes_21 (by decide) (fun c2 => ?_) (fun c2 => ?_)
        · skip
          refine w_iconst dX7_paidOnes_30 ic_0 ?_
          have cc := c2
          refine w_ior dX7_paidOnes_31 ?_
          refine w_istore_n dX7_paidOnes_32 (by decide) rfl rfl ?_
          dsimp only [List.set]
          refine w_iincN (a := r) (b := 1) dX7_paidOnes_33 rfl ic_1 (by decide) rfl rfl ?_
          dsimp only [List.set]
          refine w_goto (t := 4) dX7_paidOnes_36 (by decide) ?_
          have q := ih (r + 1) (by omega) (by omega)
          simp only [p_paidSet, cc, if_true, if_false] at q
          exact q
        · skip
          refine w_iconst dX7_paidOnes_24 ic_1 ?_
          refine w_iload_n dX7_paidOnes_25 rfl ?_
          refine w_ishl dX7_paidOnes_26 ?_
          refine w_goto (t := 31) dX7_paidOnes_27 (by decide) ?_
          have cc := c2
          refine w_ior dX7_paidOnes_31 ?_
          refine w_istore_n dX7_paidOnes_32 (by decide) rfl rfl ?_
          dsimp only [List.set]
          refine w_iincN (a := r) (b := 1) dX7_paidOnes_33 rfl ic_1 (by decide) rfl rfl ?_
          dsimp only [List.set]
          refine w_goto (t := 4) dX7_paidOnes_36 (by decide) ?_
          have q := ih (r + 1) (by omega) (by omega)
          simp only [p_paidSet, cc, if_true, if_false] at q
          exact q
  exact lp (n + 1) 0 (by omega) (by omega)
end
section
/-! frames of the reference's calls; its observable state -/
def cpN (σ : Sg) (a b i : Nat) : Sg := (fun c j => if c = b ∧ j < i then σ.1 a j else σ.1 c j, σ.2.1, σ.2.2)
theorem cpN_0 (σ : Sg) (a b : Nat) : cpN σ a b 0 = σ := by
  obtain ⟨x, y, z⟩ := σ
  unfold cpN
  simp
theorem cpN_a {σ : Sg} {a b i j : Nat} (h : a ≠ b) : (cpN σ a b i).1 a j = σ.1 a j := by simp [cpN, h]
theorem cpN_ne {σ : Sg} {a b i c j : Nat} (h : c ≠ b) : (cpN σ a b i).1 c j = σ.1 c j := by simp [cpN, h]
theorem cpN_b {σ : Sg} {a b i j : Nat} (h : j < i) : (cpN σ a b i).1 b j = σ.1 a j := by simp [cpN, h]
theorem cpN_b' {σ : Sg} {a b i j : Nat} (h : ¬ j < i) : (cpN σ a b i).1 b j = σ.1 b j := by simp [cpN, h]
theorem cpN_s {σ : Sg} {a b i : Nat} {v : Int32} (hv : v = σ.1 a i) : wI (cpN σ a b i) b i v = cpN σ a b (i + 1) := by
  unfold wI cpN
  simp only [Prod.mk.injEq, and_true]
  funext c j
  by_cases h : c = b
  · by_cases h2 : j = i
    · subst h2
      simp [h, hv]
    · by_cases h3 : j < i
      · simp [h, h2, h3, Nat.lt_succ_of_lt h3]
      · have h4 : ¬ j < i + 1 := by omega
        simp [h, h2, h3, h4]
  · simp [h]
/-- the fields of the reference that nobody asks for -/
def scrF (j : Nat) : Bool := [3, 4, 5, 6, 8, 11, 12, 13, 15, 16].contains j
/-- all but the row and what nobody asks for is as it was -/
def Mr (σ σ' : Sg) : Prop := (∀ c j, c ≠ 51 → c ≠ 53 → c ≠ 54 → c ≠ 61 → (c = 50 → scrF j = false) → σ'.1 c j = σ.1 c j) ∧ (∀ c j, c ≠ 59 → (c = 50 → j ≠ 14) → σ'.2.1 c j = σ.2.1 c j) ∧ σ'.2.2 = σ.2.2
theorem Mr.rfl {σ : Sg} : Mr σ σ := ⟨fun _ _ _ _ _ _ _ => Eq.refl _, fun _ _ _ _ => Eq.refl _, Eq.refl _⟩
theorem Mr.trans {a b c : Sg} (h : Mr a b) (k : Mr b c) : Mr a c := ⟨fun x j h1 h2 h3 h4 h5 => (k.1 x j h1 h2 h3 h4 h5).trans (h.1 x j h1 h2 h3 h4 h5), fun x j h1 h2 => (k.2.1 x j h1 h2).trans (h.2.1 x j h1 h2), k.2.2.trans h.2.2⟩
theorem Mr.setR {σ : Sg} {f : Nat → Int32} : Mr σ (setR σ f) := ⟨fun _ _ h _ _ _ _ => setR_ne h, fun _ _ _ _ => Eq.refl _, Eq.refl _⟩
theorem Mr.cp {σ : Sg} {a b : Nat} {i : Nat} (h : b = 51 ∨ b = 53 ∨ b = 54 ∨ b = 61) : Mr σ (cpN σ a b i) := ⟨fun c j h1 h2 h3 h4 _ => cpN_ne (by rcases h with rfl | rfl | rfl | rfl <;> assumption), fun _ _ _ _ => Eq.refl _, Eq.refl _⟩
theorem Mr.fld {σ : Sg} {k : Nat} {v : Int32} (h : scrF k = true) : Mr σ (wI σ 50 k v) := ⟨fun c j h1 h2 h3 h4 h5 => by
  by_cases hc : c = 50
  · refine wI_k (fun e => ?_)
    have := h5 hc
    rw [e, h] at this
    cases this
  · exact wI_c hc, fun _ _ _ _ => Eq.refl _, Eq.refl _⟩
theorem Mr.wR {σ : Sg} {k : Nat} {v : Int32} : Mr σ (wI σ 51 k v) := by rw [wI_51]; exact Mr.setR
/-- the same, and the row too -/
def Mq (σ σ' : Sg) : Prop := σ'.1 51 = σ.1 51 ∧ Mr σ σ'
theorem Mq.rfl {σ : Sg} : Mq σ σ := ⟨Eq.refl _, Mr.rfl⟩
theorem Mq.trans {a b c : Sg} (h : Mq a b) (k : Mq b c) : Mq a c := ⟨k.1.trans h.1, h.2.trans k.2⟩
theorem p_boltO_65 (f : Nat → Int32) {j : Nat} (hj : 65 ≤ j) : ∀ o, (∀ k, o = some k → k < 8) → p_boltO f o j = f j
  | none, _ => by rw [p_boltO, updN (by omega), updN (by omega)]
  | some k, h => by
    have := h k (Eq.refl _)
    simp only [p_boltO]
    rw [updN (by omega)]
    split
    · rw [updN (by omega), updN (by omega), updN (by omega)]
    · rw [updN (by omega), updN (by omega)]
theorem p_hour_65 (f : Nat → Int32) {n : Nat} (h8 : n ≤ 8) {j : Nat} (hj : 65 ≤ j) : p_hour f n j = f j := by
  unfold p_hour
  rw [p_rest_ge _ (by omega)]
  split
  · rfl
  · exact p_boltO_65 f hj _ (fun k hk => by have := p_strk_lt hk; omega)
theorem p_pass_65 (f : Nat → Int32) {n : Nat} (h8 : n ≤ 8) {j : Nat} (hj : 65 ≤ j) : ∀ i, p_pass f n i j = f j
  | 0 => rfl
  | i + 1 => by rw [p_pass, p_hour_65 _ h8 hj, p_pass_65 f h8 hj i]
/-- the row put back -/
theorem back51 {σ τ : Sg} (h1 : ∀ j, j < 65 → τ.1 53 j = σ.1 51 j) (h2 : ∀ j, 65 ≤ j → τ.1 51 j = σ.1 51 j) : (cpN τ 53 51 65).1 51 = σ.1 51 := by
  funext j
  rcases Nat.lt_or_ge j 65 with h | h
  · rw [cpN_b h, h1 j h]
  · rw [cpN_b' (by omega), h2 j h]
/-- the next hour in which it breaks, from hour i on, within m hours -/
def p_find (f : Nat → Int32) (n : Nat) : Nat → Nat → Nat
  | 0, i => i
  | m + 1, i => if p_breaks (p_pass f n i) = 0 then p_find f n m (i + 1) else i
theorem p_find_le (f : Nat → Int32) (n : Nat) : ∀ m i, p_find f n m i ≤ i + m
  | 0, i => Nat.le_refl _
  | m + 1, i => by
    unfold p_find
    split
    · have := p_find_le f n m (i + 1); omega
    · omega
/-- the next bolt: in how many hours (100: none) -/
def p_nx (f : Nat → Int32) (n : Nat) : Nat := p_find f n 100 0
theorem p_nx_le (f : Nat → Int32) (n : Nat) : p_nx f n ≤ 100 := by have := p_find_le f n 100 0; unfold p_nx; omega
/-- the row as the next bolt strikes -/
def p_nf (f : Nat → Int32) (n : Nat) : Nat → Int32 := p_pass f n (p_nx f n)
def p_clk (f : Nat → Int32) (n k : Nat) : Nat → Int32
  | 0 => 0
  | i + 1 => p_clk f n k i ||| (if p_breaks (p_pass f n i) = 0 then (0 : Int32) else if oI (p_strk (p_pass f n i) n (p_pass f n i 0)) = nI k then (1 : Int32) <<< (p_clock (p_pass f n i) &&& 31) else 0)
end
section
set_option maxRecDepth 100000 in
set_option maxHeartbeats 4000000 in
theorem e7_finds (G : GT) (σ : Sg) (x : Int32) (j : Nat) (hj : j < 7) (hx : (-1000000001) - x = nI j) : Evi G mX7_finds [.ref 50, .int x] σ (x) (wI σ 52 j (σ.1 52 j + 1)) := by
  refine Ev.ofL (m := 0) (L := [some (.ref 50), some (.int x)]) rfl (Nat.le_of_ble_eq_true rfl) rfl rfl ?_
  refine w_aload_n dX7_finds_0 rfl ?_
  refine w_getR (t := 52) dX7_finds_1 fl_X7_13 rfl (by decide) (by decide) rfl ?_
  refine w_ldc dX7_finds_4 kc_X7_44 ?_
  refine w_iload_n dX7_finds_6 rfl ?_
  refine w_isub dX7_finds_7 ?_
  refine w_dup2 dX7_finds_8 rfl rfl ?_
  refine w_iald (j := j) dX7_finds_9 rfl (by decide) hx (show j < 7 by omega) ?_
  refine w_iconst dX7_finds_10 ic_1 ?_
  refine w_iadd dX7_finds_11 ?_
  refine w_iast (j := j) dX7_finds_12 rfl (by decide) hx (show j < 7 by omega) ?_
  refine w_iload_n dX7_finds_13 rfl ?_
  refine w_iret dX7_finds_14 rfl ?_
  exact ⟨rfl, rfl⟩
set_option maxRecDepth 100000 in
set_option maxHeartbeats 4000000 in
theorem e7_move1 (G : GT) (σ : Sg) (c : Nat) (hk : kd c = 8) (hl : ln c = 65) (h62 : c < 62) (hc : c ≠ 51) : Evv G mX7_moveAll [.ref 50, .int 1, .ref c] σ (cpN σ 51 c 65) := by
  refine Ev.ofL (m := 1) (L := [some (.ref 50), some (.int 1), some (.ref c), none]) rfl (Nat.le_of_ble_eq_true rfl) rfl rfl ?_
  refine w_iconst dX7_moveAll_0 ic_0 ?_
  refine w_istore_n dX7_moveAll_1 (by decide) rfl rfl ?_
  dsimp only [List.set]
  have lp : ∀ (m : Nat) (i : Nat), 65 - i < m → i ≤ 65 → WP G mX7_moveAll 2 [some (.ref 50), some (.int 1), some (.ref c), some (.int (nI i))] [] (cpN σ 51 c i) (fun v σ' => v = none ∧ σ' = (cpN σ 51 c 65)) := by
    intro m
    induction m with
    | zero => intro i hm; exact absurd hm (Nat.not_lt_zero _)
    | succ m ih =>
      intro i hm hi
      refine w_iload_n dX7_moveAll_2 rfl ?_
      refine w_bipush dX7_moveAll_3 bp_65 ?_
      refine w2_icmp_ge (t := 39) dX7_moveAll_5 (by decide) (fun c1 => ?_) (fun c1 => ?_)
      · skip
        have hge := nlt_nI (n := 65) (by omega) (by omega) c1
        have hen : i = 65 := by omega
        subst hen
        refine w_vret dX7_moveAll_39 rfl ?_
        exact ⟨rfl, rfl⟩
      · skip
        have hlt := lt_nI (n := 65) (by omega) (by omega) c1
        refine w_iload_n dX7_moveAll_8 rfl ?_
        refine w_if_eq (t := 24) dX7_moveAll_9 (by decide) (fun c2 => absurd c2 (by decide)) (fun c2 => ?_)
        refine w_aload_n dX7_moveAll_12 rfl ?_
        refine w_iload_n dX7_moveAll_13 rfl ?_
        refine w_aload_n dX7_moveAll_14 rfl ?_
        refine w_getR (t := 51) dX7_moveAll_15 fl_X7_7 rfl (by decide) (by decide) rfl ?_
        refine w_iload_n dX7_moveAll_18 rfl ?_
        refine w_iald (j := i) dX7_moveAll_19 rfl (by decide) rfl (show i < 65 by omega) ?_
        refine w_iast (j := i) dX7_moveAll_20 hk h62 rfl (by rw [hl]; omega) ?_
        refine w_goto (t := 33) dX7_moveAll_21 (by decide) ?_
        refine w_iincN (a := i) (b := 1) dX7_moveAll_33 rfl ic_1 (by decide) rfl rfl ?_
        dsimp only [List.set]
        refine w_goto (t := 2) dX7_moveAll_36 (by decide) ?_
        rw [cpN_s (cpN_a hc.symm)]
        exact ih (i + 1) (by omega) (by omega)
  have q0 := lp 66 0 (by omega) (by omega)
  rw [cpN_0] at q0
  exact q0
set_option maxRecDepth 100000 in
set_option maxHeartbeats 4000000 in
theorem e7_move0 (G : GT) (σ : Sg) (c : Nat) (hk : kd c = 8) (hl : ln c = 65) (h62 : c < 62) (hc : c ≠ 51) : Evv G mX7_moveAll [.ref 50, .int 0, .ref c] σ (cpN σ c 51 65) := by
  refine Ev.ofL (m := 1) (L := [some (.ref 50), some (.int 0), some (.ref c), none]) rfl (Nat.le_of_ble_eq_true rfl) rfl rfl ?_
  refine w_iconst dX7_moveAll_0 ic_0 ?_
  refine w_istore_n dX7_moveAll_1 (by decide) rfl rfl ?_
  dsimp only [List.set]
  have lp : ∀ (m : Nat) (i : Nat), 65 - i < m → i ≤ 65 → WP G mX7_moveAll 2 [some (.ref 50), some (.int 0), some (.ref c), some (.int (nI i))] [] (cpN σ c 51 i) (fun v σ' => v = none ∧ σ' = (cpN σ c 51 65)) := by
    intro m
    induction m with
    | zero => intro i hm; exact absurd hm (Nat.not_lt_zero _)
    | succ m ih =>
      intro i hm hi
      refine w_iload_n dX7_moveAll_2 rfl ?_
      refine w_bipush dX7_moveAll_3 bp_65 ?_
      refine w2_icmp_ge (t := 39) dX7_moveAll_5 (by decide) (fun c1 => ?_) (fun c1 => ?_)
      · skip
        have hge := nlt_nI (n := 65) (by omega) (by omega) c1
        have hen : i = 65 := by omega
        subst hen
        refine w_vret dX7_moveAll_39 rfl ?_
        exact ⟨rfl, rfl⟩
      · skip
        have hlt := lt_nI (n := 65) (by omega) (by omega) c1
        refine w_iload_n dX7_moveAll_8 rfl ?_
        refine w_if_eq (t := 24) dX7_moveAll_9 (by decide) (fun c2 => ?_) (fun c2 => absurd rfl c2)
        refine w_aload_n dX7_moveAll_24 rfl ?_
        refine w_getR (t := 51) dX7_moveAll_25 fl_X7_7 rfl (by decide) (by decide) rfl ?_
        refine w_iload_n dX7_moveAll_28 rfl ?_
        refine w_aload_n dX7_moveAll_29 rfl ?_
        refine w_iload_n dX7_moveAll_30 rfl ?_
        refine w_iald (j := i) dX7_moveAll_31 hk h62 rfl (by rw [hl]; omega) ?_
        refine w_iast (j := i) dX7_moveAll_32 rfl (by decide) rfl (show i < 65 by omega) ?_
        refine w_iincN (a := i) (b := 1) dX7_moveAll_33 rfl ic_1 (by decide) rfl rfl ?_
        dsimp only [List.set]
        refine w_goto (t := 2) dX7_moveAll_36 (by decide) ?_
        rw [cpN_s (cpN_a hc)]
        exact ih (i + 1) (by omega) (by omega)
  have q0 := lp 66 0 (by omega) (by omega)
  rw [cpN_0] at q0
  exact q0
set_option maxRecDepth 100000 in
set_option maxHeartbeats 4000000 in
theorem e7_onOf (G : GT) (σ : Sg) (k q w : Nat) (hk : k < 8) (hq : q < 2 ^ 31) (hw : w < 7) (n : Nat) (hn : σ.1 51 8 = nI n) (h8 : n ≤ 8) : Ev G mX7_onOf [.ref 50, .int (nI k), .int (nI q), .int (nI w)] σ (fun v σ' => v = some (.int (p_pass (σ.1 51) n q (9 + 7 * k + w))) ∧ Mq σ σ') := by
  refine Ev.ofL (m := 1) (L := [some (.ref 50), some (.int (nI k)), some (.int (nI q)), some (.int (nI w)), none]) rfl (Nat.le_of_ble_eq_true rfl) rfl rfl ?_
  refine w_aload_n dX7_onOf_0 rfl ?_
  refine w_iconst dX7_onOf_1 ic_1 ?_
  refine w_aload_n dX7_onOf_2 rfl ?_
  refine w_getR (t := 53) dX7_onOf_3 fl_X7_16 rfl (by decide) (by decide) rfl ?_
  refine w_callVv dX7_onOf_6 ml_X7_126 mv_X7_moveAll rfl rfl (by decide) rfl (e7_move1 G _ 53 rfl rfl (by decide) (by decide)) rfl rfl (Nat.le_of_ble_eq_true rfl) ?_
  refine w_aload_n dX7_onOf_9 rfl ?_
  refine w_iload_n dX7_onOf_10 rfl ?_
  refine w_callVv dX7_onOf_11 ml_X7_116 mv_X7_passes rfl rfl (by decide) rfl (e7_passes G _ q hq n (by rw [cpN_ne (by decide)]; exact hn) h8) rfl rfl (Nat.le_of_ble_eq_true rfl) ?_
  refine w_aload_n dX7_onOf_14 rfl ?_
  refine w_iload_n dX7_onOf_15 rfl ?_
  refine w_iload_n dX7_onOf_16 rfl ?_
  refine w_callVi dX7_onOf_17 ml_X7_69 mv_X7_its rfl rfl (by decide) rfl (e7_its G _ (k) (w) (by omega) (by omega)) rfl rfl (Nat.le_of_ble_eq_true rfl) ?_
  refine w_topi (fun v hv => ?_)
  refine w_istore dX7_onOf_20 (by decide) rfl rfl ?_
  dsimp only [List.set]
  refine w_aload_n dX7_onOf_22 rfl ?_
  refine w_iconst dX7_onOf_23 ic_0 ?_
  refine w_aload_n dX7_onOf_24 rfl ?_
  refine w_getR (t := 53) dX7_onOf_25 fl_X7_16 rfl (by decide) (by decide) rfl ?_
  refine w_callVv dX7_onOf_28 ml_X7_126 mv_X7_moveAll rfl rfl (by decide) rfl (e7_move0 G _ 53 rfl rfl (by decide) (by decide)) rfl rfl (Nat.le_of_ble_eq_true rfl) ?_
  refine w_iload dX7_onOf_31 rfl ?_
  refine w_iret dX7_onOf_33 rfl ?_
  have e51 : (cpN σ 51 53 65).1 51 = σ.1 51 := funext fun j => cpN_ne (by decide)
  refine ⟨by rw [hv, setR_51, e51], back51 (fun j h => ?_) (fun j h => ?_), (Mr.cp (by decide)).trans (Mr.setR.trans (Mr.cp (by decide)))⟩
  · rw [setR_ne (by decide), cpN_b h]
  · rw [setR_51, e51, p_pass_65 _ h8 h]
def p_dn (f : Nat → Int32) (a j : Nat) : Nat → Int32 := fun i => if a ≤ i ∧ i < j then f (i + 7) else f i
theorem p_dn_0 (f : Nat → Int32) (a : Nat) : p_dn f a a = f := by
  funext i
  unfold p_dn
  rw [if_neg (by omega)]
theorem p_dn_s (f : Nat → Int32) {a j : Nat} (h : a ≤ j) : upd (p_dn f a j) j (p_dn f a j (j + 7)) = p_dn f a (j + 1) := by
  funext i
  unfold upd
  by_cases hi : i = j
  · subst hi
    rw [if_pos rfl]
    unfold p_dn
    rw [if_neg (by omega), if_pos (by omega)]
  · rw [if_neg hi]
    unfold p_dn
    by_cases h2 : a ≤ i ∧ i < j
    · rw [if_pos h2, if_pos (by omega)]
    · rw [if_neg h2, if_neg (by omega)]
theorem p_dn_8 (f : Nat → Int32) {a j : Nat} (h : 9 ≤ a) : p_dn f a j 8 = f 8 := by
  unfold p_dn
  rw [if_neg (by omega)]
theorem p_dn_end (f : Nat → Int32) {n r : Nat} (hf : f 8 = nI n) (hn : r < n) : upd (p_dn f (9 + 7 * r) (9 + 7 * (n - 1))) 8 (p_dn f (9 + 7 * r) (9 + 7 * (n - 1)) 8 - 1) = p_down f n r := by
  funext i
  unfold upd p_down
  by_cases hi : i = 8
  · rw [if_pos hi, if_pos hi, p_dn_8 f (by omega), hf]
    obtain ⟨m, rfl⟩ : ∃ m, n = m + 1 := ⟨n - 1, by omega⟩
    exact nI_pred m
  · rw [if_neg hi, if_neg hi]
    rfl
set_option maxRecDepth 100000 in
set_option maxHeartbeats 4000000 in
theorem e7_comesDown (G : GT) (σ : Sg) (n k : Nat) (hk : k < n) (hn : σ.1 51 8 = nI n) (h8 : n ≤ 8) : Evv G mX7_comesDown [.ref 50, .int (nI k)] σ (setR σ (p_down (σ.1 51) n k)) := by
  refine Ev.ofL (m := 1) (L := [some (.ref 50), some (.int (nI k)), none]) rfl (Nat.le_of_ble_eq_true rfl) rfl rfl ?_
  refine w_bipush dX7_comesDown_0 bp_9 ?_
  refine w_bipush dX7_comesDown_2 bp_7 ?_
  refine w_iload_n dX7_comesDown_4 rfl ?_
  refine w_imulN (a := 7) (b := k) dX7_comesDown_5 ?_
  refine w_iaddN (a := 9) (b := 7 * k) dX7_comesDown_6 ?_
  refine w_istore_n dX7_comesDown_7 (by decide) rfl rfl ?_
  dsimp only [List.set]
  have lp : ∀ (m : Nat) (j : Nat), 9 + 7 * (n - 1) - j < m → j ≤ 9 + 7 * (n - 1) → 9 + 7 * k ≤ j → WP G mX7_comesDown 8 [some (.ref 50), some (.int (nI k)), some (.int (nI j))] [] (setR σ (p_dn (σ.1 51) (9 + 7 * k) j)) (fun v σ' => v = none ∧ σ' = (setR σ (p_down (σ.1 51) n k))) := by
    intro m
    induction m with
    | zero => intro j hm; exact absurd hm (Nat.not_lt_zero _)
    | succ m ih =>
      intro j hm hj hj2
      refine w_iload_n dX7_comesDown_8 rfl ?_
      refine w_bipush dX7_comesDown_9 bp_9 ?_
      refine w_bipush dX7_comesDown_11 bp_7 ?_
      refine w_aload_n dX7_comesDown_13 rfl ?_
      refine w_getR (t := 51) dX7_comesDown_14 fl_X7_7 rfl (by decide) (by decide) rfl ?_
      refine w_bipush dX7_comesDown_17 bp_8 ?_
      refine w_iald (j := 8) dX7_comesDown_19 rfl (by decide) rfl (by decide) ?_
      refine w_iconst dX7_comesDown_20 ic_1 ?_
      refine w_isub dX7_comesDown_21 ?_
      simp only [setR_51]
      refine w_eqi (y := nI (n - 1)) (by rw [p_dn_8 _ (by omega), hn]; obtain ⟨m0, rfl⟩ : ∃ m0, n = m0 + 1 := ⟨n - 1, by omega⟩; exact nI_pred m0) ?_
      · skip
        refine w_imulN (a := 7) (b := (n - 1)) dX7_comesDown_22 ?_
        refine w_iaddN (a := 9) (b := 7 * ((n - 1))) dX7_comesDown_23 ?_
        refine w2_icmp_ge (t := 48) dX7_comesDown_24 (by decide) (fun c1 => ?_) (fun c1 => ?_)
        · skip
          have hge := nlt_nI (by omega) (by omega) c1
          have hen : j = 9 + 7 * (n - 1) := by omega
          subst hen
          refine w_aload_n dX7_comesDown_48 rfl ?_
          refine w_getR (t := 51) dX7_comesDown_49 fl_X7_7 rfl (by decide) (by decide) rfl ?_
          refine w_bipush dX7_comesDown_52 bp_8 ?_
          refine w_dup2 dX7_comesDown_54 rfl rfl ?_
          refine w_iald (j := 8) dX7_comesDown_55 rfl (by decide) rfl (by decide) ?_
          refine w_iconst dX7_comesDown_56 ic_1 ?_
          refine w_isub dX7_comesDown_57 ?_
          refine w_iast (j := 8) dX7_comesDown_58 rfl (by decide) rfl (by decide) ?_
          try simp only [wI_51, setR_setR, setR_51]
          refine w_vret dX7_comesDown_59 rfl ?_
          exact ⟨rfl, by rw [p_dn_end _ hn hk]⟩
        · skip
          have hlt := lt_nI (by omega) (by omega) c1
          refine w_aload_n dX7_comesDown_27 rfl ?_
          refine w_getR (t := 51) dX7_comesDown_28 fl_X7_7 rfl (by decide) (by decide) rfl ?_
          refine w_iload_n dX7_comesDown_31 rfl ?_
          refine w_aload_n dX7_comesDown_32 rfl ?_
          refine w_getR (t := 51) dX7_comesDown_33 fl_X7_7 rfl (by decide) (by decide) rfl ?_
          refine w_iload_n dX7_comesDown_36 rfl ?_
          refine w_bipush dX7_comesDown_37 bp_7 ?_
          refine w_iaddN (a := j) (b := 7) dX7_comesDown_39 ?_
          refine w_iald (j := j + 7) dX7_comesDown_40 rfl (by decide) rfl (show j + 7 < 65 by omega) ?_
          refine w_iast (j := j) dX7_comesDown_41 rfl (by decide) rfl (show j < 65 by omega) ?_
          try simp only [wI_51, setR_setR, setR_51]
          refine w_iincN (a := j) (b := 1) dX7_comesDown_42 rfl ic_1 (by decide) rfl rfl ?_
          dsimp only [List.set]
          refine w_goto (t := 8) dX7_comesDown_45 (by decide) ?_
          rw [p_dn_s (σ.1 51) hj2]
          exact ih (j + 1) (by omega) (by omega) (by omega)
  have q0 := lp (9 + 7 * (n - 1) + 1) (9 + 7 * k) (by omega) (by omega) (by omega)
  rw [p_dn_0, setR_self] at q0
  exact q0
set_option maxRecDepth 100000 in
set_option maxHeartbeats 4000000 in
theorem e7_addRod (G : GT) (σ : Sg) (x1 x2 x3 x4 x5 : Int32) (n : Nat) (hn : σ.1 51 8 = nI n) (h8 : n < 8) : Evv G mX7_addRod [.ref 50, .int x1, .int x2, .int x3, .int x4, .int x5] σ (setR σ (p_add (σ.1 51) n x1 x2 x3 x4 x5)) := by
  refine Ev.ofL (m := 1) (L := [some (.ref 50), some (.int x1), some (.int x2), some (.int x3), some (.int x4), some (.int x5), none]) rfl (Nat.le_of_ble_eq_true rfl) rfl rfl ?_
  refine w_aload_n dX7_addRod_0 rfl ?_
  refine w_getR (t := 51) dX7_addRod_1 fl_X7_7 rfl (by decide) (by decide) rfl ?_
  refine w_bipush dX7_addRod_4 bp_8 ?_
  refine w_iald (j := 8) dX7_addRod_6 rfl (by decide) rfl (by decide) ?_
  refine w_eqi hn ?_
  · skip
    refine w_istore dX7_addRod_7 (by decide) rfl rfl ?_
    dsimp only [List.set]
    refine w_aload_n dX7_addRod_9 rfl ?_
    refine w_iload dX7_addRod_10 rfl ?_
    refine w_iconst dX7_addRod_12 ic_0 ?_
    refine w_iload_n dX7_addRod_13 rfl ?_
    refine w_callVv dX7_addRod_14 ml_X7_57 mv_X7_puts rfl rfl (by decide) rfl (e7_puts0 G _ (n) _ (by omega)) rfl rfl (Nat.le_of_ble_eq_true rfl) ?_
    try simp only [wI_51, setR_setR, setR_51]
    refine w_aload_n dX7_addRod_17 rfl ?_
    refine w_iload dX7_addRod_18 rfl ?_
    refine w_iconst dX7_addRod_20 ic_1 ?_
    refine w_iload_n dX7_addRod_21 rfl ?_
    refine w_callVv dX7_addRod_22 ml_X7_57 mv_X7_puts rfl rfl (by decide) rfl (e7_puts G _ (n) (1) _ (by omega) (by omega)) rfl rfl (Nat.le_of_ble_eq_true rfl) ?_
    try simp only [wI_51, setR_setR, setR_51]
    refine w_aload_n dX7_addRod_25 rfl ?_
    refine w_iload dX7_addRod_26 rfl ?_
    refine w_iconst dX7_addRod_28 ic_2 ?_
    refine w_iload_n dX7_addRod_29 rfl ?_
    refine w_callVv dX7_addRod_30 ml_X7_57 mv_X7_puts rfl rfl (by decide) rfl (e7_puts G _ (n) (2) _ (by omega) (by omega)) rfl rfl (Nat.le_of_ble_eq_true rfl) ?_
    try simp only [wI_51, setR_setR, setR_51]
    refine w_aload_n dX7_addRod_33 rfl ?_
    refine w_iload dX7_addRod_34 rfl ?_
    refine w_iconst dX7_addRod_36 ic_3 ?_
    refine w_iload dX7_addRod_37 rfl ?_
    refine w_callVv dX7_addRod_39 ml_X7_57 mv_X7_puts rfl rfl (by decide) rfl (e7_puts G _ (n) (3) _ (by omega) (by omega)) rfl rfl (Nat.le_of_ble_eq_true rfl) ?_
    try simp only [wI_51, setR_setR, setR_51]
    refine w_aload_n dX7_addRod_42 rfl ?_
    refine w_iload dX7_addRod_43 rfl ?_
    refine w_iconst dX7_addRod_45 ic_4 ?_
    refine w_iload dX7_addRod_46 rfl ?_
    refine w_callVv dX7_addRod_48 ml_X7_57 mv_X7_puts rfl rfl (by decide) rfl (e7_puts G _ (n) (4) _ (by omega) (by omega)) rfl rfl (Nat.le_of_ble_eq_true rfl) ?_
    try simp only [wI_51, setR_setR, setR_51]
    refine w_aload_n dX7_addRod_51 rfl ?_
    refine w_iload dX7_addRod_52 rfl ?_
    refine w_iconst dX7_addRod_54 ic_5 ?_
    refine w_iconst dX7_addRod_55 ic_0 ?_
    refine w_callVv dX7_addRod_56 ml_X7_57 mv_X7_puts rfl rfl (by decide) rfl (e7_puts G _ (n) (5) _ (by omega) (by omega)) rfl rfl (Nat.le_of_ble_eq_true rfl) ?_
    try simp only [wI_51, setR_setR, setR_51]
    refine w_aload_n dX7_addRod_59 rfl ?_
    refine w_iload dX7_addRod_60 rfl ?_
    refine w_bipush dX7_addRod_62 bp_6 ?_
    refine w_iconst dX7_addRod_64 ic_0 ?_
    refine w_callVv dX7_addRod_65 ml_X7_57 mv_X7_puts rfl rfl (by decide) rfl (e7_puts G _ (n) (6) _ (by omega) (by omega)) rfl rfl (Nat.le_of_ble_eq_true rfl) ?_
    try simp only [wI_51, setR_setR, setR_51]
    refine w_aload_n dX7_addRod_68 rfl ?_
    refine w_getR (t := 51) dX7_addRod_69 fl_X7_7 rfl (by decide) (by decide) rfl ?_
    refine w_bipush dX7_addRod_72 bp_8 ?_
    refine w_dup2 dX7_addRod_74 rfl rfl ?_
    refine w_iald (j := 8) dX7_addRod_75 rfl (by decide) rfl (by decide) ?_
    refine w_iconst dX7_addRod_76 ic_1 ?_
    refine w_iadd dX7_addRod_77 ?_
    refine w_iast (j := 8) dX7_addRod_78 rfl (by decide) rfl (by decide) ?_
    try simp only [wI_51, setR_setR, setR_51]
    refine w_vret dX7_addRod_79 rfl ?_
    refine ⟨rfl, ?_⟩
    unfold p_add
    simp only [updN (show (8 : Nat) ≠ 9 + 7 * n + 6 by omega), updN (show (8 : Nat) ≠ 9 + 7 * n + 5 by omega), updN (show (8 : Nat) ≠ 9 + 7 * n + 4 by omega), updN (show (8 : Nat) ≠ 9 + 7 * n + 3 by omega), updN (show (8 : Nat) ≠ 9 + 7 * n + 2 by omega), updN (show (8 : Nat) ≠ 9 + 7 * n + 1 by omega), updN (show (8 : Nat) ≠ 9 + 7 * n by omega), hn, nI_1]
end
