section
-- ===== PART A: goes FIRST, ahead of the names: the tables' words, and 'selects' of the private methods out of them =====
/-- a private method of a class that the tables say can be made, by its rows of tables_1 -/
def lw_okq (q : MethodName × Nat) : Prop := (q.1.cls ≠ "java/lang/invoke/MethodHandle" ∧ q.1.cls ≠ "java/lang/invoke/VarHandle") ∧ Cond.instantiable q.1.cls q.2 ∈ tables_1 ∧ Cond.privateMethod q.1 ∈ tables_1 ∧ Cond.instanceMethod q.1 ∈ tables_1
theorem lw_p0 : lw_okq (⟨"KiteBarges$Text", "readLine", "()Z"⟩, 10) := ⟨⟨by decide +kernel, by decide +kernel⟩, List.mem_of_getElem? (i := 84) (by decide +kernel), List.mem_of_getElem? (i := 287) (by decide +kernel), List.mem_of_getElem? (i := 288) (by decide +kernel)⟩
theorem lw_p1 : lw_okq (⟨"KiteBarges$Text", "readToken", "()V"⟩, 10) := ⟨⟨by decide +kernel, by decide +kernel⟩, List.mem_of_getElem? (i := 84) (by decide +kernel), List.mem_of_getElem? (i := 291) (by decide +kernel), List.mem_of_getElem? (i := 292) (by decide +kernel)⟩
theorem lw_p2 : lw_okq (⟨"KiteBarges$Text", "kindAt", "(I)I"⟩, 10) := ⟨⟨by decide +kernel, by decide +kernel⟩, List.mem_of_getElem? (i := 84) (by decide +kernel), List.mem_of_getElem? (i := 295) (by decide +kernel), List.mem_of_getElem? (i := 296) (by decide +kernel)⟩
theorem lw_p3 : lw_okq (⟨"KiteBarges$Text", "wordOfLine", "()I"⟩, 10) := ⟨⟨by decide +kernel, by decide +kernel⟩, List.mem_of_getElem? (i := 84) (by decide +kernel), List.mem_of_getElem? (i := 299) (by decide +kernel), List.mem_of_getElem? (i := 300) (by decide +kernel)⟩
theorem lw_p4 : lw_okq (⟨"KiteBarges$Text", "tokenIs", "(Ljava/lang/String;)Z"⟩, 10) := ⟨⟨by decide +kernel, by decide +kernel⟩, List.mem_of_getElem? (i := 84) (by decide +kernel), List.mem_of_getElem? (i := 304) (by decide +kernel), List.mem_of_getElem? (i := 305) (by decide +kernel)⟩
theorem lw_p5 : lw_okq (⟨"KiteBarges$Text", "readNumber", "(II)Z"⟩, 10) := ⟨⟨by decide +kernel, by decide +kernel⟩, List.mem_of_getElem? (i := 84) (by decide +kernel), List.mem_of_getElem? (i := 363) (by decide +kernel), List.mem_of_getElem? (i := 364) (by decide +kernel)⟩
theorem lw_p6 : lw_okq (⟨"KiteBarges$Text", "addNumber", "(I)Z"⟩, 10) := ⟨⟨by decide +kernel, by decide +kernel⟩, List.mem_of_getElem? (i := 84) (by decide +kernel), List.mem_of_getElem? (i := 367) (by decide +kernel), List.mem_of_getElem? (i := 368) (by decide +kernel)⟩
theorem lw_p7 : lw_okq (⟨"KiteBarges$Text", "readKite", "()Z"⟩, 10) := ⟨⟨by decide +kernel, by decide +kernel⟩, List.mem_of_getElem? (i := 84) (by decide +kernel), List.mem_of_getElem? (i := 371) (by decide +kernel), List.mem_of_getElem? (i := 372) (by decide +kernel)⟩
theorem lw_p8 : lw_okq (⟨"KiteBarges$Text", "kiteOfToken", "()I"⟩, 10) := ⟨⟨by decide +kernel, by decide +kernel⟩, List.mem_of_getElem? (i := 84) (by decide +kernel), List.mem_of_getElem? (i := 375) (by decide +kernel), List.mem_of_getElem? (i := 376) (by decide +kernel)⟩
theorem lw_p9 : lw_okq (⟨"KiteBarges$River", "tellWind", "([I)V"⟩, 12) := ⟨⟨by decide +kernel, by decide +kernel⟩, List.mem_of_getElem? (i := 25) (by decide +kernel), List.mem_of_getElem? (i := 388) (by decide +kernel), List.mem_of_getElem? (i := 389) (by decide +kernel)⟩
theorem lw_p10 : lw_okq (⟨"KiteBarges$River", "tellBarge", "([I)V"⟩, 12) := ⟨⟨by decide +kernel, by decide +kernel⟩, List.mem_of_getElem? (i := 25) (by decide +kernel), List.mem_of_getElem? (i := 392) (by decide +kernel), List.mem_of_getElem? (i := 393) (by decide +kernel)⟩
theorem lw_p11 : lw_okq (⟨"KiteBarges$River", "addReach", "(III)V"⟩, 12) := ⟨⟨by decide +kernel, by decide +kernel⟩, List.mem_of_getElem? (i := 25) (by decide +kernel), List.mem_of_getElem? (i := 396) (by decide +kernel), List.mem_of_getElem? (i := 397) (by decide +kernel)⟩
theorem lw_p12 : lw_okq (⟨"KiteBarges$Planner", "search", "(IIILKiteBarges$Line;)V"⟩, 10) := ⟨⟨by decide +kernel, by decide +kernel⟩, List.mem_of_getElem? (i := 155) (by decide +kernel), List.mem_of_getElem? (i := 534) (by decide +kernel), List.mem_of_getElem? (i := 535) (by decide +kernel)⟩
theorem lw_p13 : lw_okq (⟨"KiteBarges$Planner", "settle", "(II)Z"⟩, 10) := ⟨⟨by decide +kernel, by decide +kernel⟩, List.mem_of_getElem? (i := 155) (by decide +kernel), List.mem_of_getElem? (i := 539) (by decide +kernel), List.mem_of_getElem? (i := 540) (by decide +kernel)⟩
theorem lw_p14 : lw_okq (⟨"KiteBarges$Planner", "spread", "(IIILKiteBarges$Line;)V"⟩, 10) := ⟨⟨by decide +kernel, by decide +kernel⟩, List.mem_of_getElem? (i := 155) (by decide +kernel), List.mem_of_getElem? (i := 543) (by decide +kernel), List.mem_of_getElem? (i := 544) (by decide +kernel)⟩
theorem lw_p15 : lw_okq (⟨"KiteBarges$Planner", "offer", "(IIJ)V"⟩, 10) := ⟨⟨by decide +kernel, by decide +kernel⟩, List.mem_of_getElem? (i := 155) (by decide +kernel), List.mem_of_getElem? (i := 556) (by decide +kernel), List.mem_of_getElem? (i := 557) (by decide +kernel)⟩
def lw_privs_1 : List (MethodName × Nat) := [(⟨"KiteBarges$Text", "readLine", "()Z"⟩, 10), (⟨"KiteBarges$Text", "readToken", "()V"⟩, 10), (⟨"KiteBarges$Text", "kindAt", "(I)I"⟩, 10), (⟨"KiteBarges$Text", "wordOfLine", "()I"⟩, 10), (⟨"KiteBarges$Text", "tokenIs", "(Ljava/lang/String;)Z"⟩, 10), (⟨"KiteBarges$Text", "readNumber", "(II)Z"⟩, 10), (⟨"KiteBarges$Text", "addNumber", "(I)Z"⟩, 10), (⟨"KiteBarges$Text", "readKite", "()Z"⟩, 10), (⟨"KiteBarges$Text", "kiteOfToken", "()I"⟩, 10), (⟨"KiteBarges$River", "tellWind", "([I)V"⟩, 12), (⟨"KiteBarges$River", "tellBarge", "([I)V"⟩, 12), (⟨"KiteBarges$River", "addReach", "(III)V"⟩, 12), (⟨"KiteBarges$Planner", "search", "(IIILKiteBarges$Line;)V"⟩, 10), (⟨"KiteBarges$Planner", "settle", "(II)Z"⟩, 10), (⟨"KiteBarges$Planner", "spread", "(IIILKiteBarges$Line;)V"⟩, 10), (⟨"KiteBarges$Planner", "offer", "(IIJ)V"⟩, 10)]
theorem lw_r1 : ∀ q ∈ lw_privs_1, lw_okq q := List.forall_mem_cons.mpr ⟨lw_p0, List.forall_mem_cons.mpr ⟨lw_p1, List.forall_mem_cons.mpr ⟨lw_p2, List.forall_mem_cons.mpr ⟨lw_p3, List.forall_mem_cons.mpr ⟨lw_p4, List.forall_mem_cons.mpr ⟨lw_p5, List.forall_mem_cons.mpr ⟨lw_p6, List.forall_mem_cons.mpr ⟨lw_p7, List.forall_mem_cons.mpr ⟨lw_p8, List.forall_mem_cons.mpr ⟨lw_p9, List.forall_mem_cons.mpr ⟨lw_p10, List.forall_mem_cons.mpr ⟨lw_p11, List.forall_mem_cons.mpr ⟨lw_p12, List.forall_mem_cons.mpr ⟨lw_p13, List.forall_mem_cons.mpr ⟨lw_p14, List.forall_mem_cons.mpr ⟨lw_p15, fun _ h => absurd h List.not_mem_nil⟩⟩⟩⟩⟩⟩⟩⟩⟩⟩⟩⟩⟩⟩⟩⟩
theorem lw_p16 : lw_okq (⟨"KiteBarges$Planner", "swap", "()V"⟩, 10) := ⟨⟨by decide +kernel, by decide +kernel⟩, List.mem_of_getElem? (i := 155) (by decide +kernel), List.mem_of_getElem? (i := 560) (by decide +kernel), List.mem_of_getElem? (i := 561) (by decide +kernel)⟩
theorem lw_p17 : lw_okq (⟨"KiteBarges$Planner", "layerIn", "(II)I"⟩, 10) := ⟨⟨by decide +kernel, by decide +kernel⟩, List.mem_of_getElem? (i := 155) (by decide +kernel), List.mem_of_getElem? (i := 568) (by decide +kernel), List.mem_of_getElem? (i := 569) (by decide +kernel)⟩
theorem lw_p18 : lw_okq (⟨"KiteBarges$Planner", "draw", "(II)V"⟩, 10) := ⟨⟨by decide +kernel, by decide +kernel⟩, List.mem_of_getElem? (i := 155) (by decide +kernel), List.mem_of_getElem? (i := 580) (by decide +kernel), List.mem_of_getElem? (i := 581) (by decide +kernel)⟩
theorem lw_p19 : lw_okq (⟨"KiteBarges", "oddsRefused", "(IIIII)I"⟩, 7) := ⟨⟨by decide +kernel, by decide +kernel⟩, List.mem_of_getElem? (i := 17) (by decide +kernel), List.mem_of_getElem? (i := 588) (by decide +kernel), List.mem_of_getElem? (i := 589) (by decide +kernel)⟩
theorem lw_p20 : lw_okq (⟨"KiteBarges$Lulls", "findPlaces", "(II)V"⟩, 8) := ⟨⟨by decide +kernel, by decide +kernel⟩, List.mem_of_getElem? (i := 213) (by decide +kernel), List.mem_of_getElem? (i := 626) (by decide +kernel), List.mem_of_getElem? (i := 627) (by decide +kernel)⟩
theorem lw_p21 : lw_okq (⟨"KiteBarges$Lulls", "findNext", "(III)V"⟩, 8) := ⟨⟨by decide +kernel, by decide +kernel⟩, List.mem_of_getElem? (i := 213) (by decide +kernel), List.mem_of_getElem? (i := 631) (by decide +kernel), List.mem_of_getElem? (i := 632) (by decide +kernel)⟩
theorem lw_p22 : lw_okq (⟨"KiteBarges$Lulls", "valuePlace", "(IIII)V"⟩, 8) := ⟨⟨by decide +kernel, by decide +kernel⟩, List.mem_of_getElem? (i := 213) (by decide +kernel), List.mem_of_getElem? (i := 638) (by decide +kernel), List.mem_of_getElem? (i := 639) (by decide +kernel)⟩
theorem lw_p23 : lw_okq (⟨"KiteBarges$Lulls", "swap", "()V"⟩, 8) := ⟨⟨by decide +kernel, by decide +kernel⟩, List.mem_of_getElem? (i := 213) (by decide +kernel), List.mem_of_getElem? (i := 650) (by decide +kernel), List.mem_of_getElem? (i := 651) (by decide +kernel)⟩
theorem lw_p24 : lw_okq (⟨"KiteBarges$Lulls", "bestRow", "(IIII)J"⟩, 8) := ⟨⟨by decide +kernel, by decide +kernel⟩, List.mem_of_getElem? (i := 213) (by decide +kernel), List.mem_of_getElem? (i := 663) (by decide +kernel), List.mem_of_getElem? (i := 664) (by decide +kernel)⟩
theorem lw_p25 : lw_okq (⟨"KiteBarges", "passages", "(I)I"⟩, 7) := ⟨⟨by decide +kernel, by decide +kernel⟩, List.mem_of_getElem? (i := 17) (by decide +kernel), List.mem_of_getElem? (i := 689) (by decide +kernel), List.mem_of_getElem? (i := 690) (by decide +kernel)⟩
theorem lw_p26 : lw_okq (⟨"KiteBargesModel", "begin", "()V"⟩, 28) := ⟨⟨by decide +kernel, by decide +kernel⟩, List.mem_of_getElem? (i := 705) (by decide +kernel), List.mem_of_getElem? (i := 711) (by decide +kernel), List.mem_of_getElem? (i := 712) (by decide +kernel)⟩
theorem lw_p27 : lw_okq (⟨"KiteBargesModel", "start", "()I"⟩, 28) := ⟨⟨by decide +kernel, by decide +kernel⟩, List.mem_of_getElem? (i := 705) (by decide +kernel), List.mem_of_getElem? (i := 715) (by decide +kernel), List.mem_of_getElem? (i := 716) (by decide +kernel)⟩
theorem lw_p28 : lw_okq (⟨"KiteBargesModel", "isRead", "()Z"⟩, 28) := ⟨⟨by decide +kernel, by decide +kernel⟩, List.mem_of_getElem? (i := 705) (by decide +kernel), List.mem_of_getElem? (i := 820) (by decide +kernel), List.mem_of_getElem? (i := 821) (by decide +kernel)⟩
theorem lw_p29 : lw_okq (⟨"KiteBargesModel", "isLine", "(I)Z"⟩, 28) := ⟨⟨by decide +kernel, by decide +kernel⟩, List.mem_of_getElem? (i := 705) (by decide +kernel), List.mem_of_getElem? (i := 824) (by decide +kernel), List.mem_of_getElem? (i := 825) (by decide +kernel)⟩
theorem lw_p30 : lw_okq (⟨"KiteBargesModel", "nextToken", "()V"⟩, 28) := ⟨⟨by decide +kernel, by decide +kernel⟩, List.mem_of_getElem? (i := 705) (by decide +kernel), List.mem_of_getElem? (i := 828) (by decide +kernel), List.mem_of_getElem? (i := 829) (by decide +kernel)⟩
theorem lw_p31 : lw_okq (⟨"KiteBargesModel", "isReachLine", "(I)Z"⟩, 28) := ⟨⟨by decide +kernel, by decide +kernel⟩, List.mem_of_getElem? (i := 705) (by decide +kernel), List.mem_of_getElem? (i := 846) (by decide +kernel), List.mem_of_getElem? (i := 847) (by decide +kernel)⟩
def lw_privs_2 : List (MethodName × Nat) := [(⟨"KiteBarges$Planner", "swap", "()V"⟩, 10), (⟨"KiteBarges$Planner", "layerIn", "(II)I"⟩, 10), (⟨"KiteBarges$Planner", "draw", "(II)V"⟩, 10), (⟨"KiteBarges", "oddsRefused", "(IIIII)I"⟩, 7), (⟨"KiteBarges$Lulls", "findPlaces", "(II)V"⟩, 8), (⟨"KiteBarges$Lulls", "findNext", "(III)V"⟩, 8), (⟨"KiteBarges$Lulls", "valuePlace", "(IIII)V"⟩, 8), (⟨"KiteBarges$Lulls", "swap", "()V"⟩, 8), (⟨"KiteBarges$Lulls", "bestRow", "(IIII)J"⟩, 8), (⟨"KiteBarges", "passages", "(I)I"⟩, 7), (⟨"KiteBargesModel", "begin", "()V"⟩, 28), (⟨"KiteBargesModel", "start", "()I"⟩, 28), (⟨"KiteBargesModel", "isRead", "()Z"⟩, 28), (⟨"KiteBargesModel", "isLine", "(I)Z"⟩, 28), (⟨"KiteBargesModel", "nextToken", "()V"⟩, 28), (⟨"KiteBargesModel", "isReachLine", "(I)Z"⟩, 28)]
theorem lw_r2 : ∀ q ∈ lw_privs_2, lw_okq q := List.forall_mem_cons.mpr ⟨lw_p16, List.forall_mem_cons.mpr ⟨lw_p17, List.forall_mem_cons.mpr ⟨lw_p18, List.forall_mem_cons.mpr ⟨lw_p19, List.forall_mem_cons.mpr ⟨lw_p20, List.forall_mem_cons.mpr ⟨lw_p21, List.forall_mem_cons.mpr ⟨lw_p22, List.forall_mem_cons.mpr ⟨lw_p23, List.forall_mem_cons.mpr ⟨lw_p24, List.forall_mem_cons.mpr ⟨lw_p25, List.forall_mem_cons.mpr ⟨lw_p26, List.forall_mem_cons.mpr ⟨lw_p27, List.forall_mem_cons.mpr ⟨lw_p28, List.forall_mem_cons.mpr ⟨lw_p29, List.forall_mem_cons.mpr ⟨lw_p30, List.forall_mem_cons.mpr ⟨lw_p31, fun _ h => absurd h List.not_mem_nil⟩⟩⟩⟩⟩⟩⟩⟩⟩⟩⟩⟩⟩⟩⟩⟩
theorem lw_p32 : lw_okq (⟨"KiteBargesModel", "fails", "()Z"⟩, 28) := ⟨⟨by decide +kernel, by decide +kernel⟩, List.mem_of_getElem? (i := 705) (by decide +kernel), List.mem_of_getElem? (i := 850) (by decide +kernel), List.mem_of_getElem? (i := 851) (by decide +kernel)⟩
theorem lw_p33 : lw_okq (⟨"KiteBargesModel", "isNumber", "(III)Z"⟩, 28) := ⟨⟨by decide +kernel, by decide +kernel⟩, List.mem_of_getElem? (i := 705) (by decide +kernel), List.mem_of_getElem? (i := 854) (by decide +kernel), List.mem_of_getElem? (i := 855) (by decide +kernel)⟩
theorem lw_p34 : lw_okq (⟨"KiteBargesModel", "isWind", "(I)Z"⟩, 28) := ⟨⟨by decide +kernel, by decide +kernel⟩, List.mem_of_getElem? (i := 705) (by decide +kernel), List.mem_of_getElem? (i := 858) (by decide +kernel), List.mem_of_getElem? (i := 859) (by decide +kernel)⟩
theorem lw_p35 : lw_okq (⟨"KiteBargesModel", "isKite", "(I)Z"⟩, 28) := ⟨⟨by decide +kernel, by decide +kernel⟩, List.mem_of_getElem? (i := 705) (by decide +kernel), List.mem_of_getElem? (i := 862) (by decide +kernel), List.mem_of_getElem? (i := 863) (by decide +kernel)⟩
theorem lw_p36 : lw_okq (⟨"KiteBargesModel", "doLine", "(I)V"⟩, 28) := ⟨⟨by decide +kernel, by decide +kernel⟩, List.mem_of_getElem? (i := 705) (by decide +kernel), List.mem_of_getElem? (i := 875) (by decide +kernel), List.mem_of_getElem? (i := 876) (by decide +kernel)⟩
theorem lw_p37 : lw_okq (⟨"KiteBargesModel", "isReach", "(I)Z"⟩, 28) := ⟨⟨by decide +kernel, by decide +kernel⟩, List.mem_of_getElem? (i := 705) (by decide +kernel), List.mem_of_getElem? (i := 883) (by decide +kernel), List.mem_of_getElem? (i := 884) (by decide +kernel)⟩
theorem lw_p38 : lw_okq (⟨"KiteBargesModel", "isBarge", "(I)Z"⟩, 28) := ⟨⟨by decide +kernel, by decide +kernel⟩, List.mem_of_getElem? (i := 705) (by decide +kernel), List.mem_of_getElem? (i := 901) (by decide +kernel), List.mem_of_getElem? (i := 902) (by decide +kernel)⟩
theorem lw_p39 : lw_okq (⟨"KiteBargesModel", "cordOf", "(I)I"⟩, 28) := ⟨⟨by decide +kernel, by decide +kernel⟩, List.mem_of_getElem? (i := 705) (by decide +kernel), List.mem_of_getElem? (i := 908) (by decide +kernel), List.mem_of_getElem? (i := 909) (by decide +kernel)⟩
theorem lw_p40 : lw_okq (⟨"KiteBargesModel", "yardsOf", "(IIII)I"⟩, 28) := ⟨⟨by decide +kernel, by decide +kernel⟩, List.mem_of_getElem? (i := 705) (by decide +kernel), List.mem_of_getElem? (i := 923) (by decide +kernel), List.mem_of_getElem? (i := 924) (by decide +kernel)⟩
theorem lw_p41 : lw_okq (⟨"KiteBargesModel", "goes", "(IIII)I"⟩, 28) := ⟨⟨by decide +kernel, by decide +kernel⟩, List.mem_of_getElem? (i := 705) (by decide +kernel), List.mem_of_getElem? (i := 938) (by decide +kernel), List.mem_of_getElem? (i := 939) (by decide +kernel)⟩
theorem lw_p42 : lw_okq (⟨"KiteBargesModel", "isSoonest", "(II)Z"⟩, 28) := ⟨⟨by decide +kernel, by decide +kernel⟩, List.mem_of_getElem? (i := 705) (by decide +kernel), List.mem_of_getElem? (i := 965) (by decide +kernel), List.mem_of_getElem? (i := 966) (by decide +kernel)⟩
theorem lw_p43 : lw_okq (⟨"KiteBargesModel", "noOther", "()V"⟩, 28) := ⟨⟨by decide +kernel, by decide +kernel⟩, List.mem_of_getElem? (i := 705) (by decide +kernel), List.mem_of_getElem? (i := 969) (by decide +kernel), List.mem_of_getElem? (i := 970) (by decide +kernel)⟩
theorem lw_p44 : lw_okq (⟨"KiteBargesModel", "findPlan", "(II)Z"⟩, 28) := ⟨⟨by decide +kernel, by decide +kernel⟩, List.mem_of_getElem? (i := 705) (by decide +kernel), List.mem_of_getElem? (i := 973) (by decide +kernel), List.mem_of_getElem? (i := 974) (by decide +kernel)⟩
theorem lw_p45 : lw_okq (⟨"KiteBargesModel", "layLeft", "(II)V"⟩, 28) := ⟨⟨by decide +kernel, by decide +kernel⟩, List.mem_of_getElem? (i := 705) (by decide +kernel), List.mem_of_getElem? (i := 977) (by decide +kernel), List.mem_of_getElem? (i := 978) (by decide +kernel)⟩
theorem lw_p46 : lw_okq (⟨"KiteBargesModel", "isPlace", "(I)Z"⟩, 28) := ⟨⟨by decide +kernel, by decide +kernel⟩, List.mem_of_getElem? (i := 705) (by decide +kernel), List.mem_of_getElem? (i := 982) (by decide +kernel), List.mem_of_getElem? (i := 983) (by decide +kernel)⟩
theorem lw_p47 : lw_okq (⟨"KiteBargesModel", "through", "(IIIII)I"⟩, 28) := ⟨⟨by decide +kernel, by decide +kernel⟩, List.mem_of_getElem? (i := 705) (by decide +kernel), List.mem_of_getElem? (i := 986) (by decide +kernel), List.mem_of_getElem? (i := 987) (by decide +kernel)⟩
def lw_privs_3 : List (MethodName × Nat) := [(⟨"KiteBargesModel", "fails", "()Z"⟩, 28), (⟨"KiteBargesModel", "isNumber", "(III)Z"⟩, 28), (⟨"KiteBargesModel", "isWind", "(I)Z"⟩, 28), (⟨"KiteBargesModel", "isKite", "(I)Z"⟩, 28), (⟨"KiteBargesModel", "doLine", "(I)V"⟩, 28), (⟨"KiteBargesModel", "isReach", "(I)Z"⟩, 28), (⟨"KiteBargesModel", "isBarge", "(I)Z"⟩, 28), (⟨"KiteBargesModel", "cordOf", "(I)I"⟩, 28), (⟨"KiteBargesModel", "yardsOf", "(IIII)I"⟩, 28), (⟨"KiteBargesModel", "goes", "(IIII)I"⟩, 28), (⟨"KiteBargesModel", "isSoonest", "(II)Z"⟩, 28), (⟨"KiteBargesModel", "noOther", "()V"⟩, 28), (⟨"KiteBargesModel", "findPlan", "(II)Z"⟩, 28), (⟨"KiteBargesModel", "layLeft", "(II)V"⟩, 28), (⟨"KiteBargesModel", "isPlace", "(I)Z"⟩, 28), (⟨"KiteBargesModel", "through", "(IIIII)I"⟩, 28)]
theorem lw_r3 : ∀ q ∈ lw_privs_3, lw_okq q := List.forall_mem_cons.mpr ⟨lw_p32, List.forall_mem_cons.mpr ⟨lw_p33, List.forall_mem_cons.mpr ⟨lw_p34, List.forall_mem_cons.mpr ⟨lw_p35, List.forall_mem_cons.mpr ⟨lw_p36, List.forall_mem_cons.mpr ⟨lw_p37, List.forall_mem_cons.mpr ⟨lw_p38, List.forall_mem_cons.mpr ⟨lw_p39, List.forall_mem_cons.mpr ⟨lw_p40, List.forall_mem_cons.mpr ⟨lw_p41, List.forall_mem_cons.mpr ⟨lw_p42, List.forall_mem_cons.mpr ⟨lw_p43, List.forall_mem_cons.mpr ⟨lw_p44, List.forall_mem_cons.mpr ⟨lw_p45, List.forall_mem_cons.mpr ⟨lw_p46, List.forall_mem_cons.mpr ⟨lw_p47, fun _ h => absurd h List.not_mem_nil⟩⟩⟩⟩⟩⟩⟩⟩⟩⟩⟩⟩⟩⟩⟩⟩
theorem lw_p48 : lw_okq (⟨"KiteBargesModel", "tell", "(ZI)I"⟩, 28) := ⟨⟨by decide +kernel, by decide +kernel⟩, List.mem_of_getElem? (i := 705) (by decide +kernel), List.mem_of_getElem? (i := 990) (by decide +kernel), List.mem_of_getElem? (i := 991) (by decide +kernel)⟩
theorem lw_p49 : lw_okq (⟨"KiteBargesModel", "byRow", "(IIII)J"⟩, 28) := ⟨⟨by decide +kernel, by decide +kernel⟩, List.mem_of_getElem? (i := 705) (by decide +kernel), List.mem_of_getElem? (i := 1005) (by decide +kernel), List.mem_of_getElem? (i := 1006) (by decide +kernel)⟩
theorem lw_p50 : lw_okq (⟨"KiteBargesModel", "sightOf", "(III)J"⟩, 28) := ⟨⟨by decide +kernel, by decide +kernel⟩, List.mem_of_getElem? (i := 705) (by decide +kernel), List.mem_of_getElem? (i := 1019) (by decide +kernel), List.mem_of_getElem? (i := 1020) (by decide +kernel)⟩
theorem lw_p51 : lw_okq (⟨"KiteBargesModel", "blindOf", "(III)J"⟩, 28) := ⟨⟨by decide +kernel, by decide +kernel⟩, List.mem_of_getElem? (i := 705) (by decide +kernel), List.mem_of_getElem? (i := 1027) (by decide +kernel), List.mem_of_getElem? (i := 1028) (by decide +kernel)⟩
theorem lw_p52 : lw_okq (⟨"KiteBargesModel", "firstOf", "(III)I"⟩, 28) := ⟨⟨by decide +kernel, by decide +kernel⟩, List.mem_of_getElem? (i := 705) (by decide +kernel), List.mem_of_getElem? (i := 1039) (by decide +kernel), List.mem_of_getElem? (i := 1040) (by decide +kernel)⟩
def lw_privs_4 : List (MethodName × Nat) := [(⟨"KiteBargesModel", "tell", "(ZI)I"⟩, 28), (⟨"KiteBargesModel", "byRow", "(IIII)J"⟩, 28), (⟨"KiteBargesModel", "sightOf", "(III)J"⟩, 28), (⟨"KiteBargesModel", "blindOf", "(III)J"⟩, 28), (⟨"KiteBargesModel", "firstOf", "(III)I"⟩, 28)]
theorem lw_r4 : ∀ q ∈ lw_privs_4, lw_okq q := List.forall_mem_cons.mpr ⟨lw_p48, List.forall_mem_cons.mpr ⟨lw_p49, List.forall_mem_cons.mpr ⟨lw_p50, List.forall_mem_cons.mpr ⟨lw_p51, List.forall_mem_cons.mpr ⟨lw_p52, fun _ h => absurd h List.not_mem_nil⟩⟩⟩⟩⟩
def lw_privs : List (MethodName × Nat) := lw_privs_1 ++ (lw_privs_2 ++ (lw_privs_3 ++ (lw_privs_4)))
def lw_tbl : List Cond := k2_sels lw_privs ++ tables_1
theorem lw_privs_ok : ∀ q ∈ lw_privs, lw_okq q := by
  show ∀ q ∈ lw_privs_1 ++ (lw_privs_2 ++ (lw_privs_3 ++ (lw_privs_4))), lw_okq q
  exact List.forall_mem_append.mpr ⟨lw_r1, List.forall_mem_append.mpr ⟨lw_r2, List.forall_mem_append.mpr ⟨lw_r3, lw_r4⟩⟩⟩
end
section
def RX0 : String := "KiteBarges$Fleet"
def TX0 : u_T := fun k => match k with
  | 0 => ("KiteBarges$Fleet", "hours", "I", false)
  | 1 => ("KiteBarges$Fleet", "place", "[I", true)
  | 2 => ("KiteBarges$Fleet", "layer", "[I", true)
  | 3 => ("KiteBarges$Fleet", "lastLayer", "[I", true)
  | 4 => ("KiteBarges$Fleet", "run", "[I", true)
  | _ => ("KiteBarges$Fleet", "stayed", "[I", true)
def tyX0 : Nat → FieldType := fun k => match k with
  | 0 => .int
  | 1 => .array .int
  | 2 => .array .int
  | 3 => .array .int
  | 4 => .array .int
  | _ => .array .int
theorem nmX0 : ∀ a, a < 6 → ∀ b, b < 6 → a ≠ b → (TX0 a).2.1 ≠ (TX0 b).2.1 := by decide +kernel
theorem tyX0_ok : ∀ k, k < 6 → parseFieldDescriptor (TX0 k).2.2.1 = some (tyX0 k) := by decide +kernel
abbrev cX0_init : ByteArray := prog_2_method_1_code
def yX0_init : MethodName := ⟨RX0, "<init>", "()V"⟩
abbrev cX0_begin : ByteArray := prog_2_method_2_code
def yX0_begin : MethodName := ⟨RX0, "begin", "(I)V"⟩
abbrev cX0_copyFrom : ByteArray := prog_2_method_3_code
def yX0_copyFrom : MethodName := ⟨RX0, "copyFrom", "(LKiteBarges$Fleet;)V"⟩
abbrev cX0_change : ByteArray := prog_2_method_4_code
def yX0_change : MethodName := ⟨RX0, "change", "(II)I"⟩
abbrev cX0_passHour : ByteArray := prog_2_method_5_code
def yX0_passHour : MethodName := ⟨RX0, "passHour", "(LKiteBarges$River;I)V"⟩
abbrev cX0_areKnotted : ByteArray := prog_2_method_6_code
def yX0_areKnotted : MethodName := ⟨RX0, "areKnotted", "(II)Z"⟩
def RX1 : String := "KiteBarges$Line"
def TX1 : u_T := fun k => match k with
  | 0 => ("KiteBarges$Line", "place", "[I", true)
  | _ => ("KiteBarges$Line", "layer", "[I", true)
def tyX1 : Nat → FieldType := fun k => match k with
  | 0 => .array .int
  | _ => .array .int
theorem nmX1 : ∀ a, a < 2 → ∀ b, b < 2 → a ≠ b → (TX1 a).2.1 ≠ (TX1 b).2.1 := by decide +kernel
theorem tyX1_ok : ∀ k, k < 2 → parseFieldDescriptor (TX1 k).2.2.1 = some (tyX1 k) := by decide +kernel
abbrev cX1_init : ByteArray := prog_3_method_1_code
def yX1_init : MethodName := ⟨RX1, "<init>", "()V"⟩
def RX2 : String := "KiteBarges$Lulls"
def TX2 : u_T := fun k => match k with
  | 0 => ("KiteBarges$Lulls", "river", "LKiteBarges$River;", true)
  | 1 => ("KiteBarges$Lulls", "placeAt", "[I", true)
  | 2 => ("KiteBarges$Lulls", "chanceOf", "[J", true)
  | 3 => ("KiteBarges$Lulls", "values", "[J", false)
  | 4 => ("KiteBarges$Lulls", "laterValues", "[J", false)
  | 5 => ("KiteBarges$Lulls", "hoursTo", "[I", true)
  | 6 => ("KiteBarges$Lulls", "ifLull", "[J", true)
  | _ => ("KiteBarges$Lulls", "ifWind", "[J", true)
def tyX2 : Nat → FieldType := fun k => match k with
  | 0 => .object "KiteBarges$River"
  | 1 => .array .int
  | 2 => .array .long
  | 3 => .array .long
  | 4 => .array .long
  | 5 => .array .int
  | 6 => .array .long
  | _ => .array .long
theorem nmX2 : ∀ a, a < 8 → ∀ b, b < 8 → a ≠ b → (TX2 a).2.1 ≠ (TX2 b).2.1 := by decide +kernel
theorem tyX2_ok : ∀ k, k < 8 → parseFieldDescriptor (TX2 k).2.2.1 = some (tyX2 k) := by decide +kernel
abbrev cX2_init : ByteArray := prog_4_method_1_code
def yX2_init : MethodName := ⟨RX2, "<init>", "(LKiteBarges$River;)V"⟩
abbrev cX2_start : ByteArray := prog_4_method_2_code
def yX2_start : MethodName := ⟨RX2, "start", "(II)V"⟩
abbrev cX2_branch : ByteArray := prog_4_method_3_code
def yX2_branch : MethodName := ⟨RX2, "branch", "(III)V"⟩
abbrev cX2_thereAfter : ByteArray := prog_4_method_4_code
def yX2_thereAfter : MethodName := ⟨RX2, "thereAfter", "(I)J"⟩
abbrev cX2_bestBlind : ByteArray := prog_4_method_5_code
def yX2_bestBlind : MethodName := ⟨RX2, "bestBlind", "(III)J"⟩
abbrev cX2_bestRow : ByteArray := prog_4_method_6_code
def yX2_bestRow : MethodName := ⟨RX2, "bestRow", "(IIII)J"⟩
abbrev cX2_bestSeeing : ByteArray := prog_4_method_7_code
def yX2_bestSeeing : MethodName := ⟨RX2, "bestSeeing", "(III)J"⟩
abbrev cX2_findPlaces : ByteArray := prog_4_method_8_code
def yX2_findPlaces : MethodName := ⟨RX2, "findPlaces", "(II)V"⟩
abbrev cX2_findNext : ByteArray := prog_4_method_9_code
def yX2_findNext : MethodName := ⟨RX2, "findNext", "(III)V"⟩
abbrev cX2_valuePlace : ByteArray := prog_4_method_10_code
def yX2_valuePlace : MethodName := ⟨RX2, "valuePlace", "(IIII)V"⟩
abbrev cX2_greatest : ByteArray := prog_4_method_11_code
def yX2_greatest : MethodName := ⟨RX2, "greatest", "([JII)J"⟩
abbrev cX2_swap : ByteArray := prog_4_method_12_code
def yX2_swap : MethodName := ⟨RX2, "swap", "()V"⟩
def RX3 : String := "KiteBarges$Planner"
def TX3 : u_T := fun k => match k with
  | 0 => ("KiteBarges$Planner", "hoursOf", "[I", true)
  | 1 => ("KiteBarges$Planner", "river", "LKiteBarges$River;", true)
  | 2 => ("KiteBarges$Planner", "runOf", "[I", true)
  | 3 => ("KiteBarges$Planner", "rowOf", "[J", true)
  | 4 => ("KiteBarges$Planner", "nobody", "LKiteBarges$Line;", true)
  | 5 => ("KiteBarges$Planner", "drawn", "LKiteBarges$Line;", true)
  | 6 => ("KiteBarges$Planner", "runs", "[I", false)
  | 7 => ("KiteBarges$Planner", "rows", "[J", false)
  | 8 => ("KiteBarges$Planner", "nextRuns", "[I", false)
  | _ => ("KiteBarges$Planner", "nextRows", "[J", false)
def tyX3 : Nat → FieldType := fun k => match k with
  | 0 => .array .int
  | 1 => .object "KiteBarges$River"
  | 2 => .array .int
  | 3 => .array .long
  | 4 => .object "KiteBarges$Line"
  | 5 => .object "KiteBarges$Line"
  | 6 => .array .int
  | 7 => .array .long
  | 8 => .array .int
  | _ => .array .long
theorem nmX3 : ∀ a, a < 10 → ∀ b, b < 10 → a ≠ b → (TX3 a).2.1 ≠ (TX3 b).2.1 := by decide +kernel
theorem tyX3_ok : ∀ k, k < 10 → parseFieldDescriptor (TX3 k).2.2.1 = some (tyX3 k) := by decide +kernel
abbrev cX3_init : ByteArray := prog_5_method_1_code
def yX3_init : MethodName := ⟨RX3, "<init>", "(LKiteBarges$River;)V"⟩
abbrev cX3_forget : ByteArray := prog_5_method_2_code
def yX3_forget : MethodName := ⟨RX3, "forget", "()V"⟩
abbrev cX3_soonestOf : ByteArray := prog_5_method_3_code
def yX3_soonestOf : MethodName := ⟨RX3, "soonestOf", "(II)I"⟩
abbrev cX3_clearOf : ByteArray := prog_5_method_4_code
def yX3_clearOf : MethodName := ⟨RX3, "clearOf", "(III)I"⟩
abbrev cX3_answerOf : ByteArray := prog_5_method_5_code
def yX3_answerOf : MethodName := ⟨RX3, "answerOf", "(II)I"⟩
abbrev cX3_layerKept : ByteArray := prog_5_method_6_code
def yX3_layerKept : MethodName := ⟨RX3, "layerKept", "(II)I"⟩
abbrev cX3_hourIn : ByteArray := prog_5_method_7_code
def yX3_hourIn : MethodName := ⟨RX3, "hourIn", "(IIII)I"⟩
abbrev cX3_layerIn : ByteArray := prog_5_method_8_code
def yX3_layerIn : MethodName := ⟨RX3, "layerIn", "(II)I"⟩
abbrev cX3_draw : ByteArray := prog_5_method_9_code
def yX3_draw : MethodName := ⟨RX3, "draw", "(II)V"⟩
abbrev cX3_search : ByteArray := prog_5_method_10_code
def yX3_search : MethodName := ⟨RX3, "search", "(IIILKiteBarges$Line;)V"⟩
abbrev cX3_spread : ByteArray := prog_5_method_11_code
def yX3_spread : MethodName := ⟨RX3, "spread", "(IIILKiteBarges$Line;)V"⟩
abbrev cX3_offer : ByteArray := prog_5_method_12_code
def yX3_offer : MethodName := ⟨RX3, "offer", "(IIJ)V"⟩
abbrev cX3_swap : ByteArray := prog_5_method_13_code
def yX3_swap : MethodName := ⟨RX3, "swap", "()V"⟩
abbrev cX3_settle : ByteArray := prog_5_method_14_code
def yX3_settle : MethodName := ⟨RX3, "settle", "(II)Z"⟩
def RX4 : String := "KiteBarges$River"
def TX4 : u_T := fun k => match k with
  | 0 => ("KiteBarges$River", "reaches", "I", false)
  | 1 => ("KiteBarges$River", "still", "I", false)
  | 2 => ("KiteBarges$River", "way", "[I", true)
  | 3 => ("KiteBarges$River", "yardsLong", "[I", true)
  | 4 => ("KiteBarges$River", "kind", "[I", true)
  | 5 => ("KiteBarges$River", "windWay", "[I", true)
  | 6 => ("KiteBarges$River", "strength", "[I", true)
  | 7 => ("KiteBarges$River", "told", "[Z", true)
  | 8 => ("KiteBarges$River", "weight", "[I", true)
  | 9 => ("KiteBarges$River", "cordLong", "[I", true)
  | 10 => ("KiteBarges$River", "kite", "[I", true)
  | _ => ("KiteBarges$River", "freight", "[I", true)
def tyX4 : Nat → FieldType := fun k => match k with
  | 0 => .int
  | 1 => .int
  | 2 => .array .int
  | 3 => .array .int
  | 4 => .array .int
  | 5 => .array .int
  | 6 => .array .int
  | 7 => .array .boolean
  | 8 => .array .int
  | 9 => .array .int
  | 10 => .array .int
  | _ => .array .int
theorem nmX4 : ∀ a, a < 12 → ∀ b, b < 12 → a ≠ b → (TX4 a).2.1 ≠ (TX4 b).2.1 := by decide +kernel
theorem tyX4_ok : ∀ k, k < 12 → parseFieldDescriptor (TX4 k).2.2.1 = some (tyX4 k) := by decide +kernel
abbrev cX4_init : ByteArray := prog_6_method_1_code
def yX4_init : MethodName := ⟨RX4, "<init>", "()V"⟩
abbrev cX4_hasReach : ByteArray := prog_6_method_2_code
def yX4_hasReach : MethodName := ⟨RX4, "hasReach", "(I)Z"⟩
abbrev cX4_hasBarge : ByteArray := prog_6_method_3_code
def yX4_hasBarge : MethodName := ⟨RX4, "hasBarge", "(I)Z"⟩
abbrev cX4_cordOf : ByteArray := prog_6_method_4_code
def yX4_cordOf : MethodName := ⟨RX4, "cordOf", "(I)I"⟩
abbrev cX4_begin : ByteArray := prog_6_method_5_code
def yX4_begin : MethodName := ⟨RX4, "begin", "()I"⟩
abbrev cX4_toldBits : ByteArray := prog_6_method_6_code
def yX4_toldBits : MethodName := ⟨RX4, "toldBits", "()I"⟩
abbrev cX4_wholeLength : ByteArray := prog_6_method_7_code
def yX4_wholeLength : MethodName := ⟨RX4, "wholeLength", "()I"⟩
abbrev cX4_tell : ByteArray := prog_6_method_8_code
def yX4_tell : MethodName := ⟨RX4, "tell", "(I[I)V"⟩
abbrev cX4_addReach : ByteArray := prog_6_method_9_code
def yX4_addReach : MethodName := ⟨RX4, "addReach", "(III)V"⟩
abbrev cX4_tellWind : ByteArray := prog_6_method_10_code
def yX4_tellWind : MethodName := ⟨RX4, "tellWind", "([I)V"⟩
abbrev cX4_tellBarge : ByteArray := prog_6_method_11_code
def yX4_tellBarge : MethodName := ⟨RX4, "tellBarge", "([I)V"⟩
abbrev cX4_pulled : ByteArray := prog_6_method_12_code
def yX4_pulled : MethodName := ⟨RX4, "pulled", "(III)I"⟩
abbrev cX4_stepOf : ByteArray := prog_6_method_13_code
def yX4_stepOf : MethodName := ⟨RX4, "stepOf", "(IIII)I"⟩
abbrev cX4_moved : ByteArray := prog_6_method_14_code
def yX4_moved : MethodName := ⟨RX4, "moved", "(IIII)I"⟩
def RX5 : String := "KiteBarges$Text"
def TX5 : u_T := fun k => match k with
  | 0 => ("KiteBarges$Text", "length", "I", false)
  | 1 => ("KiteBarges$Text", "lines", "I", false)
  | 2 => ("KiteBarges$Text", "bytes", "[I", true)
  | 3 => ("KiteBarges$Text", "tokenKind", "I", false)
  | 4 => ("KiteBarges$Text", "place", "I", false)
  | 5 => ("KiteBarges$Text", "end", "I", false)
  | 6 => ("KiteBarges$Text", "word", "I", false)
  | 7 => ("KiteBarges$Text", "filled", "I", false)
  | 8 => ("KiteBarges$Text", "numbers", "[I", true)
  | _ => ("KiteBarges$Text", "reaches", "I", false)
def tyX5 : Nat → FieldType := fun k => match k with
  | 0 => .int
  | 1 => .int
  | 2 => .array .int
  | 3 => .int
  | 4 => .int
  | 5 => .int
  | 6 => .int
  | 7 => .int
  | 8 => .array .int
  | _ => .int
theorem nmX5 : ∀ a, a < 10 → ∀ b, b < 10 → a ≠ b → (TX5 a).2.1 ≠ (TX5 b).2.1 := by decide +kernel
theorem tyX5_ok : ∀ k, k < 10 → parseFieldDescriptor (TX5 k).2.2.1 = some (tyX5 k) := by decide +kernel
abbrev cX5_init : ByteArray := prog_7_method_1_code
def yX5_init : MethodName := ⟨RX5, "<init>", "()V"⟩
abbrev cX5_append : ByteArray := prog_7_method_2_code
def yX5_append : MethodName := ⟨RX5, "append", "(JI)Z"⟩
abbrev cX5_read : ByteArray := prog_7_method_3_code
def yX5_read : MethodName := ⟨RX5, "read", "(LKiteBarges$River;Z)I"⟩
abbrev cX5_readLine : ByteArray := prog_7_method_4_code
def yX5_readLine : MethodName := ⟨RX5, "readLine", "()Z"⟩
abbrev cX5_wordOfLine : ByteArray := prog_7_method_5_code
def yX5_wordOfLine : MethodName := ⟨RX5, "wordOfLine", "()I"⟩
abbrev cX5_kiteOfToken : ByteArray := prog_7_method_6_code
def yX5_kiteOfToken : MethodName := ⟨RX5, "kiteOfToken", "()I"⟩
abbrev cX5_readKite : ByteArray := prog_7_method_7_code
def yX5_readKite : MethodName := ⟨RX5, "readKite", "()Z"⟩
abbrev cX5_readNumber : ByteArray := prog_7_method_8_code
def yX5_readNumber : MethodName := ⟨RX5, "readNumber", "(II)Z"⟩
abbrev cX5_addNumber : ByteArray := prog_7_method_9_code
def yX5_addNumber : MethodName := ⟨RX5, "addNumber", "(I)Z"⟩
abbrev cX5_readToken : ByteArray := prog_7_method_10_code
def yX5_readToken : MethodName := ⟨RX5, "readToken", "()V"⟩
abbrev cX5_kindAt : ByteArray := prog_7_method_11_code
def yX5_kindAt : MethodName := ⟨RX5, "kindAt", "(I)I"⟩
abbrev cX5_tokenIs : ByteArray := prog_7_method_12_code
def yX5_tokenIs : MethodName := ⟨RX5, "tokenIs", "(Ljava/lang/String;)Z"⟩
def RX6 : String := "KiteBarges"
def TX6 : u_T := fun k => match k with
  | 0 => ("KiteBarges", "river", "LKiteBarges$River;", true)
  | 1 => ("KiteBarges", "text", "LKiteBarges$Text;", true)
  | 2 => ("KiteBarges", "fleet", "LKiteBarges$Fleet;", true)
  | 3 => ("KiteBarges", "kept", "[LKiteBarges$Fleet;", true)
  | 4 => ("KiteBarges", "isKept", "[Z", true)
  | 5 => ("KiteBarges", "planner", "LKiteBarges$Planner;", true)
  | _ => ("KiteBarges", "lulls", "LKiteBarges$Lulls;", true)
def tyX6 : Nat → FieldType := fun k => match k with
  | 0 => .object "KiteBarges$River"
  | 1 => .object "KiteBarges$Text"
  | 2 => .object "KiteBarges$Fleet"
  | 3 => .array (.object "KiteBarges$Fleet")
  | 4 => .array .boolean
  | 5 => .object "KiteBarges$Planner"
  | _ => .object "KiteBarges$Lulls"
theorem nmX6 : ∀ a, a < 7 → ∀ b, b < 7 → a ≠ b → (TX6 a).2.1 ≠ (TX6 b).2.1 := by decide +kernel
theorem tyX6_ok : ∀ k, k < 7 → parseFieldDescriptor (TX6 k).2.2.1 = some (tyX6 k) := by decide +kernel
abbrev cX6_init : ByteArray := prog_1_method_1_code
def yX6_init : MethodName := ⟨RX6, "<init>", "()V"⟩
abbrev cX6_write : ByteArray := prog_1_method_2_code
def yX6_write : MethodName := ⟨RX6, "write", "(JI)I"⟩
abbrev cX6_erase : ByteArray := prog_1_method_3_code
def yX6_erase : MethodName := ⟨RX6, "erase", "()I"⟩
abbrev cX6_fault : ByteArray := prog_1_method_4_code
def yX6_fault : MethodName := ⟨RX6, "fault", "()I"⟩
abbrev cX6_river : ByteArray := prog_1_method_5_code
def yX6_river : MethodName := ⟨RX6, "river", "()I"⟩
abbrev cX6_reach : ByteArray := prog_1_method_6_code
def yX6_reach : MethodName := ⟨RX6, "reach", "(II)I"⟩
abbrev cX6_wind : ByteArray := prog_1_method_7_code
def yX6_wind : MethodName := ⟨RX6, "wind", "(III)I"⟩
abbrev cX6_barge : ByteArray := prog_1_method_8_code
def yX6_barge : MethodName := ⟨RX6, "barge", "(II)I"⟩
abbrev cX6_as : ByteArray := prog_1_method_9_code
def yX6_as : MethodName := ⟨RX6, "as", "(II)I"⟩
abbrev cX6_yards : ByteArray := prog_1_method_10_code
def yX6_yards : MethodName := ⟨RX6, "yards", "(IIII)I"⟩
abbrev cX6_cord : ByteArray := prog_1_method_11_code
def yX6_cord : MethodName := ⟨RX6, "cord", "(II)I"⟩
abbrev cX6_go : ByteArray := prog_1_method_12_code
def yX6_go : MethodName := ⟨RX6, "go", "(I)I"⟩
abbrev cX6_at : ByteArray := prog_1_method_13_code
def yX6_at : MethodName := ⟨RX6, "at", "(II)I"⟩
abbrev cX6_knots : ByteArray := prog_1_method_14_code
def yX6_knots : MethodName := ⟨RX6, "knots", "(I)I"⟩
abbrev cX6_keep : ByteArray := prog_1_method_15_code
def yX6_keep : MethodName := ⟨RX6, "keep", "(I)I"⟩
abbrev cX6_back : ByteArray := prog_1_method_16_code
def yX6_back : MethodName := ⟨RX6, "back", "(I)I"⟩
abbrev cX6_soonest : ByteArray := prog_1_method_17_code
def yX6_soonest : MethodName := ⟨RX6, "soonest", "(III)I"⟩
abbrev cX6_clear : ByteArray := prog_1_method_18_code
def yX6_clear : MethodName := ⟨RX6, "clear", "(III)I"⟩
abbrev cX6_odds : ByteArray := prog_1_method_19_code
def yX6_odds : MethodName := ⟨RX6, "odds", "(IIII)J"⟩
abbrev cX6_sight : ByteArray := prog_1_method_20_code
def yX6_sight : MethodName := ⟨RX6, "sight", "(IIII)J"⟩
abbrev cX6_blind : ByteArray := prog_1_method_21_code
def yX6_blind : MethodName := ⟨RX6, "blind", "(IIII)J"⟩
abbrev cX6_worth : ByteArray := prog_1_method_22_code
def yX6_worth : MethodName := ⟨RX6, "worth", "(IIII)J"⟩
abbrev cX6_found : ByteArray := prog_1_method_23_code
def yX6_found : MethodName := ⟨RX6, "found", "(II)I"⟩
abbrev cX6_first : ByteArray := prog_1_method_24_code
def yX6_first : MethodName := ⟨RX6, "first", "(III)I"⟩
abbrev cX6_books : ByteArray := prog_1_method_25_code
def yX6_books : MethodName := ⟨RX6, "books", "(II)I"⟩
abbrev cX6_count : ByteArray := prog_1_method_26_code
def yX6_count : MethodName := ⟨RX6, "count", "(I)I"⟩
abbrev cX6_isLayer : ByteArray := prog_1_method_27_code
def yX6_isLayer : MethodName := ⟨RX6, "isLayer", "(I)Z"⟩
abbrev cX6_isHour : ByteArray := prog_1_method_28_code
def yX6_isHour : MethodName := ⟨RX6, "isHour", "(I)Z"⟩
abbrev cX6_isKnot : ByteArray := prog_1_method_29_code
def yX6_isKnot : MethodName := ⟨RX6, "isKnot", "(IIII)Z"⟩
abbrev cX6_oddsRefused : ByteArray := prog_1_method_30_code
def yX6_oddsRefused : MethodName := ⟨RX6, "oddsRefused", "(IIIII)I"⟩
abbrev cX6_lowestTerms : ByteArray := prog_1_method_31_code
def yX6_lowestTerms : MethodName := ⟨RX6, "lowestTerms", "(JII)J"⟩
abbrev cX6_passages : ByteArray := prog_1_method_32_code
def yX6_passages : MethodName := ⟨RX6, "passages", "(I)I"⟩
def RX7 : String := "KiteBargesModel"
def TX7 : u_T := fun k => match k with
  | 0 => ("KiteBargesModel", "reaches", "I", false)
  | 1 => ("KiteBargesModel", "reach", "[I", true)
  | 2 => ("KiteBargesModel", "wind", "[I", true)
  | 3 => ("KiteBargesModel", "still", "I", false)
  | 4 => ("KiteBargesModel", "told", "I", false)
  | 5 => ("KiteBargesModel", "barge", "[I", true)
  | 6 => ("KiteBargesModel", "bytes", "I", false)
  | 7 => ("KiteBargesModel", "text", "[I", true)
  | 8 => ("KiteBargesModel", "position", "I", false)
  | 9 => ("KiteBargesModel", "tokenAt", "I", false)
  | 10 => ("KiteBargesModel", "token", "J", false)
  | 11 => ("KiteBargesModel", "digits", "I", false)
  | 12 => ("KiteBargesModel", "number", "I", false)
  | 13 => ("KiteBargesModel", "faultAt", "I", false)
  | 14 => ("KiteBargesModel", "readMany", "I", false)
  | 15 => ("KiteBargesModel", "readReaches", "I", false)
  | 16 => ("KiteBargesModel", "read", "[I", true)
  | 17 => ("KiteBargesModel", "now", "[I", true)
  | 18 => ("KiteBargesModel", "image", "[I", true)
  | 19 => ("KiteBargesModel", "isKept", "[Z", true)
  | 20 => ("KiteBargesModel", "left", "[I", true)
  | 21 => ("KiteBargesModel", "planHours", "I", false)
  | 22 => ("KiteBargesModel", "planRun", "I", false)
  | 23 => ("KiteBargesModel", "planLayer", "[I", true)
  | 24 => ("KiteBargesModel", "planPlace", "[I", true)
  | 25 => ("KiteBargesModel", "otherPlace", "[I", true)
  | 26 => ("KiteBargesModel", "otherLayer", "[I", true)
  | _ => ("KiteBargesModel", "chance", "[J", true)
def tyX7 : Nat → FieldType := fun k => match k with
  | 0 => .int
  | 1 => .array .int
  | 2 => .array .int
  | 3 => .int
  | 4 => .int
  | 5 => .array .int
  | 6 => .int
  | 7 => .array .int
  | 8 => .int
  | 9 => .int
  | 10 => .long
  | 11 => .int
  | 12 => .int
  | 13 => .int
  | 14 => .int
  | 15 => .int
  | 16 => .array .int
  | 17 => .array .int
  | 18 => .array .int
  | 19 => .array .boolean
  | 20 => .array .int
  | 21 => .int
  | 22 => .int
  | 23 => .array .int
  | 24 => .array .int
  | 25 => .array .int
  | 26 => .array .int
  | _ => .array .long
theorem nmX7 : ∀ a, a < 28 → ∀ b, b < 28 → a ≠ b → (TX7 a).2.1 ≠ (TX7 b).2.1 := by decide +kernel
theorem tyX7_ok : ∀ k, k < 28 → parseFieldDescriptor (TX7 k).2.2.1 = some (tyX7 k) := by decide +kernel
abbrev cX7_init : ByteArray := prog_9_method_1_code
def yX7_init : MethodName := ⟨RX7, "<init>", "()V"⟩
abbrev cX7_in : ByteArray := prog_9_method_2_code
def yX7_in : MethodName := ⟨RX7, "in", "(III)Z"⟩
abbrev cX7_has : ByteArray := prog_9_method_3_code
def yX7_has : MethodName := ⟨RX7, "has", "(II)Z"⟩
abbrev cX7_off : ByteArray := prog_9_method_4_code
def yX7_off : MethodName := ⟨RX7, "off", "(II)I"⟩
abbrev cX7_isBarge : ByteArray := prog_9_method_5_code
def yX7_isBarge : MethodName := ⟨RX7, "isBarge", "(I)Z"⟩
abbrev cX7_write : ByteArray := prog_9_method_6_code
def yX7_write : MethodName := ⟨RX7, "write", "(JI)I"⟩
abbrev cX7_erase : ByteArray := prog_9_method_7_code
def yX7_erase : MethodName := ⟨RX7, "erase", "()I"⟩
abbrev cX7_nextToken : ByteArray := prog_9_method_8_code
def yX7_nextToken : MethodName := ⟨RX7, "nextToken", "()V"⟩
abbrev cX7_fails : ByteArray := prog_9_method_9_code
def yX7_fails : MethodName := ⟨RX7, "fails", "()Z"⟩
abbrev cX7_isNumber : ByteArray := prog_9_method_10_code
def yX7_isNumber : MethodName := ⟨RX7, "isNumber", "(III)Z"⟩
abbrev cX7_isKite : ByteArray := prog_9_method_11_code
def yX7_isKite : MethodName := ⟨RX7, "isKite", "(I)Z"⟩
abbrev cX7_isReachLine : ByteArray := prog_9_method_12_code
def yX7_isReachLine : MethodName := ⟨RX7, "isReachLine", "(I)Z"⟩
abbrev cX7_isWind : ByteArray := prog_9_method_13_code
def yX7_isWind : MethodName := ⟨RX7, "isWind", "(I)Z"⟩
abbrev cX7_isLine : ByteArray := prog_9_method_14_code
def yX7_isLine : MethodName := ⟨RX7, "isLine", "(I)Z"⟩
abbrev cX7_isRead : ByteArray := prog_9_method_15_code
def yX7_isRead : MethodName := ⟨RX7, "isRead", "()Z"⟩
abbrev cX7_fault : ByteArray := prog_9_method_16_code
def yX7_fault : MethodName := ⟨RX7, "fault", "()I"⟩
abbrev cX7_doLine : ByteArray := prog_9_method_17_code
def yX7_doLine : MethodName := ⟨RX7, "doLine", "(I)V"⟩
abbrev cX7_start : ByteArray := prog_9_method_18_code
def yX7_start : MethodName := ⟨RX7, "start", "()I"⟩
abbrev cX7_begin : ByteArray := prog_9_method_19_code
def yX7_begin : MethodName := ⟨RX7, "begin", "()V"⟩
abbrev cX7_river : ByteArray := prog_9_method_20_code
def yX7_river : MethodName := ⟨RX7, "river", "()I"⟩
abbrev cX7_isReach : ByteArray := prog_9_method_21_code
def yX7_isReach : MethodName := ⟨RX7, "isReach", "(I)Z"⟩
abbrev cX7_isLayer : ByteArray := prog_9_method_22_code
def yX7_isLayer : MethodName := ⟨RX7, "isLayer", "(I)Z"⟩
abbrev cX7_isHour : ByteArray := prog_9_method_23_code
def yX7_isHour : MethodName := ⟨RX7, "isHour", "(I)Z"⟩
abbrev cX7_reach : ByteArray := prog_9_method_24_code
def yX7_reach : MethodName := ⟨RX7, "reach", "(II)I"⟩
abbrev cX7_wind : ByteArray := prog_9_method_25_code
def yX7_wind : MethodName := ⟨RX7, "wind", "(III)I"⟩
abbrev cX7_cordOf : ByteArray := prog_9_method_26_code
def yX7_cordOf : MethodName := ⟨RX7, "cordOf", "(I)I"⟩
abbrev cX7_barge : ByteArray := prog_9_method_27_code
def yX7_barge : MethodName := ⟨RX7, "barge", "(II)I"⟩
abbrev cX7_pull : ByteArray := prog_9_method_28_code
def yX7_pull : MethodName := ⟨RX7, "pull", "(III)I"⟩
abbrev cX7_as : ByteArray := prog_9_method_29_code
def yX7_as : MethodName := ⟨RX7, "as", "(II)I"⟩
abbrev cX7_yardsOf : ByteArray := prog_9_method_30_code
def yX7_yardsOf : MethodName := ⟨RX7, "yardsOf", "(IIII)I"⟩
abbrev cX7_yards : ByteArray := prog_9_method_31_code
def yX7_yards : MethodName := ⟨RX7, "yards", "(IIII)I"⟩
abbrev cX7_goes : ByteArray := prog_9_method_32_code
def yX7_goes : MethodName := ⟨RX7, "goes", "(IIII)I"⟩
abbrev cX7_cord : ByteArray := prog_9_method_33_code
def yX7_cord : MethodName := ⟨RX7, "cord", "(II)I"⟩
abbrev cX7_go : ByteArray := prog_9_method_34_code
def yX7_go : MethodName := ⟨RX7, "go", "(I)I"⟩
abbrev cX7_at : ByteArray := prog_9_method_35_code
def yX7_at : MethodName := ⟨RX7, "at", "(II)I"⟩
abbrev cX7_isKnot : ByteArray := prog_9_method_36_code
def yX7_isKnot : MethodName := ⟨RX7, "isKnot", "(IIII)Z"⟩
abbrev cX7_knots : ByteArray := prog_9_method_37_code
def yX7_knots : MethodName := ⟨RX7, "knots", "(I)I"⟩
abbrev cX7_keep : ByteArray := prog_9_method_38_code
def yX7_keep : MethodName := ⟨RX7, "keep", "(I)I"⟩
abbrev cX7_back : ByteArray := prog_9_method_39_code
def yX7_back : MethodName := ⟨RX7, "back", "(I)I"⟩
abbrev cX7_isPlace : ByteArray := prog_9_method_40_code
def yX7_isPlace : MethodName := ⟨RX7, "isPlace", "(I)Z"⟩
abbrev cX7_through : ByteArray := prog_9_method_41_code
def yX7_through : MethodName := ⟨RX7, "through", "(IIIII)I"⟩
abbrev cX7_layLeft : ByteArray := prog_9_method_42_code
def yX7_layLeft : MethodName := ⟨RX7, "layLeft", "(II)V"⟩
abbrev cX7_noOther : ByteArray := prog_9_method_43_code
def yX7_noOther : MethodName := ⟨RX7, "noOther", "()V"⟩
abbrev cX7_findPlan : ByteArray := prog_9_method_44_code
def yX7_findPlan : MethodName := ⟨RX7, "findPlan", "(II)Z"⟩
abbrev cX7_isSoonest : ByteArray := prog_9_method_45_code
def yX7_isSoonest : MethodName := ⟨RX7, "isSoonest", "(II)Z"⟩
abbrev cX7_tell : ByteArray := prog_9_method_46_code
def yX7_tell : MethodName := ⟨RX7, "tell", "(ZI)I"⟩
abbrev cX7_soonest : ByteArray := prog_9_method_47_code
def yX7_soonest : MethodName := ⟨RX7, "soonest", "(III)I"⟩
abbrev cX7_clear : ByteArray := prog_9_method_48_code
def yX7_clear : MethodName := ⟨RX7, "clear", "(III)I"⟩
abbrev cX7_power : ByteArray := prog_9_method_49_code
def yX7_power : MethodName := ⟨RX7, "power", "(II)J"⟩
abbrev cX7_part : ByteArray := prog_9_method_50_code
def yX7_part : MethodName := ⟨RX7, "part", "(JJI)J"⟩
abbrev cX7_areOdds : ByteArray := prog_9_method_51_code
def yX7_areOdds : MethodName := ⟨RX7, "areOdds", "(IIII)Z"⟩
abbrev cX7_byRow : ByteArray := prog_9_method_52_code
def yX7_byRow : MethodName := ⟨RX7, "byRow", "(IIII)J"⟩
abbrev cX7_odds : ByteArray := prog_9_method_53_code
def yX7_odds : MethodName := ⟨RX7, "odds", "(IIII)J"⟩
abbrev cX7_sightOf : ByteArray := prog_9_method_54_code
def yX7_sightOf : MethodName := ⟨RX7, "sightOf", "(III)J"⟩
abbrev cX7_sight : ByteArray := prog_9_method_55_code
def yX7_sight : MethodName := ⟨RX7, "sight", "(IIII)J"⟩
abbrev cX7_blindOf : ByteArray := prog_9_method_56_code
def yX7_blindOf : MethodName := ⟨RX7, "blindOf", "(III)J"⟩
abbrev cX7_blind : ByteArray := prog_9_method_57_code
def yX7_blind : MethodName := ⟨RX7, "blind", "(IIII)J"⟩
abbrev cX7_worth : ByteArray := prog_9_method_58_code
def yX7_worth : MethodName := ⟨RX7, "worth", "(IIII)J"⟩
abbrev cX7_firstOf : ByteArray := prog_9_method_59_code
def yX7_firstOf : MethodName := ⟨RX7, "firstOf", "(III)I"⟩
abbrev cX7_found : ByteArray := prog_9_method_60_code
def yX7_found : MethodName := ⟨RX7, "found", "(II)I"⟩
abbrev cX7_first : ByteArray := prog_9_method_61_code
def yX7_first : MethodName := ⟨RX7, "first", "(III)I"⟩
abbrev cX7_books : ByteArray := prog_9_method_62_code
def yX7_books : MethodName := ⟨RX7, "books", "(II)I"⟩
abbrev cX7_count : ByteArray := prog_9_method_63_code
def yX7_count : MethodName := ⟨RX7, "count", "(I)I"⟩
def RJ9 : String := "java/lang/Math"
abbrev cJ9_abs_0f7a4 : ByteArray := prog_10_method_59_code
def yJ9_abs_0f7a4 : MethodName := ⟨RJ9, "abs", "(I)I"⟩
abbrev cJ9_max_7cf53 : ByteArray := prog_10_method_65_code
def yJ9_max_7cf53 : MethodName := ⟨RJ9, "max", "(II)I"⟩
abbrev cJ9_max_f86c9 : ByteArray := prog_10_method_66_code
def yJ9_max_f86c9 : MethodName := ⟨RJ9, "max", "(JJ)J"⟩
abbrev cJ9_min_7cf53 : ByteArray := prog_10_method_69_code
def yJ9_min_7cf53 : MethodName := ⟨RJ9, "min", "(II)I"⟩
def RJ0 : String := "java/lang/String"
abbrev cJ0_length_8abf5 : ByteArray := prog_11_method_54_code
def yJ0_length_8abf5 : MethodName := ⟨RJ0, "length", "()I"⟩
abbrev cJ0_charAt_5068e : ByteArray := prog_11_method_56_code
def yJ0_charAt_5068e : MethodName := ⟨RJ0, "charAt", "(I)C"⟩
abbrev cJ0_coder_7d493 : ByteArray := prog_11_method_152_code
def yJ0_coder_7d493 : MethodName := ⟨RJ0, "coder", "()B"⟩
abbrev cJ0_isLatin1_aae02 : ByteArray := prog_11_method_154_code
def yJ0_isLatin1_aae02 : MethodName := ⟨RJ0, "isLatin1", "()Z"⟩
abbrev cJ0_checkIndex_df160 : ByteArray := prog_11_method_155_code
def yJ0_checkIndex_df160 : MethodName := ⟨RJ0, "checkIndex", "(II)V"⟩
def RJ1 : String := "java/lang/StringLatin1"
abbrev cJ1_charAt_3b067 : ByteArray := prog_12_method_2_code
def yJ1_charAt_3b067 : MethodName := ⟨RJ1, "charAt", "([BI)C"⟩
def RJ2 : String := "java/lang/StringUTF16"
abbrev cJ2_getChar_3b067 : ByteArray := prog_13_method_5_code
def yJ2_getChar_3b067 : MethodName := ⟨RJ2, "getChar", "([BI)C"⟩
abbrev cJ2_length_9d52b : ByteArray := prog_13_method_6_code
def yJ2_length_9d52b : MethodName := ⟨RJ2, "length", "([B)I"⟩
abbrev cJ2_charAt_3b067 : ByteArray := prog_13_method_83_code
def yJ2_charAt_3b067 : MethodName := ⟨RJ2, "charAt", "([BI)C"⟩
abbrev cJ2_checkIndex_2214a : ByteArray := prog_13_method_91_code
def yJ2_checkIndex_2214a : MethodName := ⟨RJ2, "checkIndex", "(I[B)V"⟩
def RJ10 : String := "java/lang/System"
def RJ7 : String := "java/util/Arrays"
abbrev cJ7_fill_d0a16 : ByteArray := prog_15_method_101_code
def yJ7_fill_d0a16 : MethodName := ⟨RJ7, "fill", "([JJ)V"⟩
abbrev cJ7_fill_53178 : ByteArray := prog_15_method_103_code
def yJ7_fill_53178 : MethodName := ⟨RJ7, "fill", "([II)V"⟩
def RJ3 : String := "jdk/internal/util/Preconditions"
abbrev cJ3_checkIndex_8e157 : ByteArray := prog_16_method_11_code
def yJ3_checkIndex_8e157 : MethodName := ⟨RJ3, "checkIndex", "(IILjava/util/function/BiFunction;)I"⟩
def RL : String := "KiteBargesLaw"
abbrev cL_law : ByteArray := code
def yL_law : MethodName := ⟨RL, "law", "([I)Z"⟩
abbrev vwCl : List vw_C := [(RX0, TX0, 6), (RX1, TX1, 2), (RX2, TX2, 8), (RX3, TX3, 10), (RX4, TX4, 12), (RX5, TX5, 10), (RX6, TX6, 7), (RX7, TX7, 28)]
end
section
theorem dX0_init_0 : decode cX0_init 0 = .ok (.aload_n 0, 1) := by decide +kernel
theorem dX0_init_1 : decode cX0_init 1 = .ok (.invokespecial 3, 3) := by decide +kernel
theorem dX0_init_4 : decode cX0_init 4 = .ok (.aload_n 0, 1) := by decide +kernel
theorem dX0_init_5 : decode cX0_init 5 = .ok (.iconst 0, 1) := by decide +kernel
theorem dX0_init_6 : decode cX0_init 6 = .ok (.putfield 9, 3) := by decide +kernel
theorem dX0_init_9 : decode cX0_init 9 = .ok (.aload_n 0, 1) := by decide +kernel
theorem dX0_init_10 : decode cX0_init 10 = .ok (.iconst 4, 1) := by decide +kernel
theorem dX0_init_11 : decode cX0_init 11 = .ok (.newarray .int, 2) := by decide +kernel
theorem dX0_init_13 : decode cX0_init 13 = .ok (.putfield 15, 3) := by decide +kernel
theorem dX0_init_16 : decode cX0_init 16 = .ok (.aload_n 0, 1) := by decide +kernel
theorem dX0_init_17 : decode cX0_init 17 = .ok (.iconst 4, 1) := by decide +kernel
theorem dX0_init_18 : decode cX0_init 18 = .ok (.newarray .int, 2) := by decide +kernel
theorem dX0_init_20 : decode cX0_init 20 = .ok (.putfield 19, 3) := by decide +kernel
theorem dX0_init_23 : decode cX0_init 23 = .ok (.aload_n 0, 1) := by decide +kernel
theorem dX0_init_24 : decode cX0_init 24 = .ok (.iconst 4, 1) := by decide +kernel
theorem dX0_init_25 : decode cX0_init 25 = .ok (.newarray .int, 2) := by decide +kernel
theorem dX0_init_27 : decode cX0_init 27 = .ok (.putfield 22, 3) := by decide +kernel
theorem dX0_init_30 : decode cX0_init 30 = .ok (.aload_n 0, 1) := by decide +kernel
theorem dX0_init_31 : decode cX0_init 31 = .ok (.iconst 4, 1) := by decide +kernel
theorem dX0_init_32 : decode cX0_init 32 = .ok (.newarray .int, 2) := by decide +kernel
theorem dX0_init_34 : decode cX0_init 34 = .ok (.putfield 25, 3) := by decide +kernel
theorem dX0_init_37 : decode cX0_init 37 = .ok (.aload_n 0, 1) := by decide +kernel
theorem dX0_init_38 : decode cX0_init 38 = .ok (.iconst 4, 1) := by decide +kernel
theorem dX0_init_39 : decode cX0_init 39 = .ok (.newarray .int, 2) := by decide +kernel
theorem dX0_init_41 : decode cX0_init 41 = .ok (.putfield 28, 3) := by decide +kernel
theorem dX0_init_44 : decode cX0_init 44 = .ok (.return_, 1) := by decide +kernel
theorem dX0_begin_0 : decode cX0_begin 0 = .ok (.aload_n 0, 1) := by decide +kernel
theorem dX0_begin_1 : decode cX0_begin 1 = .ok (.iconst 0, 1) := by decide +kernel
theorem dX0_begin_2 : decode cX0_begin 2 = .ok (.putfield 9, 3) := by decide +kernel
theorem dX0_begin_5 : decode cX0_begin 5 = .ok (.aload_n 0, 1) := by decide +kernel
theorem dX0_begin_6 : decode cX0_begin 6 = .ok (.getfield 15, 3) := by decide +kernel
theorem dX0_begin_9 : decode cX0_begin 9 = .ok (.iload_n 1, 1) := by decide +kernel
theorem dX0_begin_10 : decode cX0_begin 10 = .ok (.invokestatic 31, 3) := by decide +kernel
theorem dX0_begin_13 : decode cX0_begin 13 = .ok (.aload_n 0, 1) := by decide +kernel
theorem dX0_begin_14 : decode cX0_begin 14 = .ok (.getfield 19, 3) := by decide +kernel
theorem dX0_begin_17 : decode cX0_begin 17 = .ok (.iconst 0, 1) := by decide +kernel
theorem dX0_begin_18 : decode cX0_begin 18 = .ok (.invokestatic 31, 3) := by decide +kernel
theorem dX0_begin_21 : decode cX0_begin 21 = .ok (.aload_n 0, 1) := by decide +kernel
theorem dX0_begin_22 : decode cX0_begin 22 = .ok (.getfield 22, 3) := by decide +kernel
theorem dX0_begin_25 : decode cX0_begin 25 = .ok (.iconst 0, 1) := by decide +kernel
theorem dX0_begin_26 : decode cX0_begin 26 = .ok (.invokestatic 31, 3) := by decide +kernel
theorem dX0_begin_29 : decode cX0_begin 29 = .ok (.aload_n 0, 1) := by decide +kernel
theorem dX0_begin_30 : decode cX0_begin 30 = .ok (.getfield 25, 3) := by decide +kernel
theorem dX0_begin_33 : decode cX0_begin 33 = .ok (.iconst 0, 1) := by decide +kernel
theorem dX0_begin_34 : decode cX0_begin 34 = .ok (.invokestatic 31, 3) := by decide +kernel
theorem dX0_begin_37 : decode cX0_begin 37 = .ok (.aload_n 0, 1) := by decide +kernel
theorem dX0_begin_38 : decode cX0_begin 38 = .ok (.getfield 28, 3) := by decide +kernel
theorem dX0_begin_41 : decode cX0_begin 41 = .ok (.iconst 0, 1) := by decide +kernel
theorem dX0_begin_42 : decode cX0_begin 42 = .ok (.invokestatic 31, 3) := by decide +kernel
theorem dX0_begin_45 : decode cX0_begin 45 = .ok (.return_, 1) := by decide +kernel
theorem dX0_copyFrom_0 : decode cX0_copyFrom 0 = .ok (.aload_n 0, 1) := by decide +kernel
theorem dX0_copyFrom_1 : decode cX0_copyFrom 1 = .ok (.aload_n 1, 1) := by decide +kernel
theorem dX0_copyFrom_2 : decode cX0_copyFrom 2 = .ok (.getfield 9, 3) := by decide +kernel
theorem dX0_copyFrom_5 : decode cX0_copyFrom 5 = .ok (.putfield 9, 3) := by decide +kernel
theorem dX0_copyFrom_8 : decode cX0_copyFrom 8 = .ok (.aload_n 1, 1) := by decide +kernel
theorem dX0_copyFrom_9 : decode cX0_copyFrom 9 = .ok (.getfield 15, 3) := by decide +kernel
theorem dX0_copyFrom_12 : decode cX0_copyFrom 12 = .ok (.iconst 0, 1) := by decide +kernel
theorem dX0_copyFrom_13 : decode cX0_copyFrom 13 = .ok (.aload_n 0, 1) := by decide +kernel
theorem dX0_copyFrom_14 : decode cX0_copyFrom 14 = .ok (.getfield 15, 3) := by decide +kernel
theorem dX0_copyFrom_17 : decode cX0_copyFrom 17 = .ok (.iconst 0, 1) := by decide +kernel
theorem dX0_copyFrom_18 : decode cX0_copyFrom 18 = .ok (.iconst 4, 1) := by decide +kernel
theorem dX0_copyFrom_19 : decode cX0_copyFrom 19 = .ok (.invokestatic 37, 3) := by decide +kernel
theorem dX0_copyFrom_22 : decode cX0_copyFrom 22 = .ok (.aload_n 1, 1) := by decide +kernel
theorem dX0_copyFrom_23 : decode cX0_copyFrom 23 = .ok (.getfield 19, 3) := by decide +kernel
theorem dX0_copyFrom_26 : decode cX0_copyFrom 26 = .ok (.iconst 0, 1) := by decide +kernel
theorem dX0_copyFrom_27 : decode cX0_copyFrom 27 = .ok (.aload_n 0, 1) := by decide +kernel
theorem dX0_copyFrom_28 : decode cX0_copyFrom 28 = .ok (.getfield 19, 3) := by decide +kernel
theorem dX0_copyFrom_31 : decode cX0_copyFrom 31 = .ok (.iconst 0, 1) := by decide +kernel
theorem dX0_copyFrom_32 : decode cX0_copyFrom 32 = .ok (.iconst 4, 1) := by decide +kernel
theorem dX0_copyFrom_33 : decode cX0_copyFrom 33 = .ok (.invokestatic 37, 3) := by decide +kernel
theorem dX0_copyFrom_36 : decode cX0_copyFrom 36 = .ok (.aload_n 1, 1) := by decide +kernel
theorem dX0_copyFrom_37 : decode cX0_copyFrom 37 = .ok (.getfield 22, 3) := by decide +kernel
theorem dX0_copyFrom_40 : decode cX0_copyFrom 40 = .ok (.iconst 0, 1) := by decide +kernel
theorem dX0_copyFrom_41 : decode cX0_copyFrom 41 = .ok (.aload_n 0, 1) := by decide +kernel
theorem dX0_copyFrom_42 : decode cX0_copyFrom 42 = .ok (.getfield 22, 3) := by decide +kernel
theorem dX0_copyFrom_45 : decode cX0_copyFrom 45 = .ok (.iconst 0, 1) := by decide +kernel
theorem dX0_copyFrom_46 : decode cX0_copyFrom 46 = .ok (.iconst 4, 1) := by decide +kernel
theorem dX0_copyFrom_47 : decode cX0_copyFrom 47 = .ok (.invokestatic 37, 3) := by decide +kernel
theorem dX0_copyFrom_50 : decode cX0_copyFrom 50 = .ok (.aload_n 1, 1) := by decide +kernel
theorem dX0_copyFrom_51 : decode cX0_copyFrom 51 = .ok (.getfield 25, 3) := by decide +kernel
theorem dX0_copyFrom_54 : decode cX0_copyFrom 54 = .ok (.iconst 0, 1) := by decide +kernel
theorem dX0_copyFrom_55 : decode cX0_copyFrom 55 = .ok (.aload_n 0, 1) := by decide +kernel
theorem dX0_copyFrom_56 : decode cX0_copyFrom 56 = .ok (.getfield 25, 3) := by decide +kernel
theorem dX0_copyFrom_59 : decode cX0_copyFrom 59 = .ok (.iconst 0, 1) := by decide +kernel
theorem dX0_copyFrom_60 : decode cX0_copyFrom 60 = .ok (.iconst 4, 1) := by decide +kernel
theorem dX0_copyFrom_61 : decode cX0_copyFrom 61 = .ok (.invokestatic 37, 3) := by decide +kernel
theorem dX0_copyFrom_64 : decode cX0_copyFrom 64 = .ok (.aload_n 1, 1) := by decide +kernel
theorem dX0_copyFrom_65 : decode cX0_copyFrom 65 = .ok (.getfield 28, 3) := by decide +kernel
theorem dX0_copyFrom_68 : decode cX0_copyFrom 68 = .ok (.iconst 0, 1) := by decide +kernel
theorem dX0_copyFrom_69 : decode cX0_copyFrom 69 = .ok (.aload_n 0, 1) := by decide +kernel
theorem dX0_copyFrom_70 : decode cX0_copyFrom 70 = .ok (.getfield 28, 3) := by decide +kernel
theorem dX0_copyFrom_73 : decode cX0_copyFrom 73 = .ok (.iconst 0, 1) := by decide +kernel
theorem dX0_copyFrom_74 : decode cX0_copyFrom 74 = .ok (.iconst 4, 1) := by decide +kernel
theorem dX0_copyFrom_75 : decode cX0_copyFrom 75 = .ok (.invokestatic 37, 3) := by decide +kernel
theorem dX0_copyFrom_78 : decode cX0_copyFrom 78 = .ok (.return_, 1) := by decide +kernel
theorem dX0_change_0 : decode cX0_change 0 = .ok (.iload_n 2, 1) := by decide +kernel
theorem dX0_change_1 : decode cX0_change 1 = .ok (.aload_n 0, 1) := by decide +kernel
theorem dX0_change_2 : decode cX0_change 2 = .ok (.getfield 19, 3) := by decide +kernel
theorem dX0_change_5 : decode cX0_change 5 = .ok (.iload_n 1, 1) := by decide +kernel
theorem dX0_change_6 : decode cX0_change 6 = .ok (.iaload, 1) := by decide +kernel
theorem dX0_change_7 : decode cX0_change 7 = .ok (.isub, 1) := by decide +kernel
theorem dX0_change_8 : decode cX0_change 8 = .ok (.invokestatic 43, 3) := by decide +kernel
theorem dX0_change_11 : decode cX0_change 11 = .ok (.istore_n 3, 1) := by decide +kernel
theorem dX0_change_12 : decode cX0_change 12 = .ok (.aload_n 0, 1) := by decide +kernel
theorem dX0_change_13 : decode cX0_change 13 = .ok (.getfield 19, 3) := by decide +kernel
theorem dX0_change_16 : decode cX0_change 16 = .ok (.iload_n 1, 1) := by decide +kernel
theorem dX0_change_17 : decode cX0_change 17 = .ok (.iload_n 2, 1) := by decide +kernel
theorem dX0_change_18 : decode cX0_change 18 = .ok (.iastore, 1) := by decide +kernel
theorem dX0_change_19 : decode cX0_change 19 = .ok (.aload_n 0, 1) := by decide +kernel
theorem dX0_change_20 : decode cX0_change 20 = .ok (.getfield 25, 3) := by decide +kernel
theorem dX0_change_23 : decode cX0_change 23 = .ok (.iload_n 1, 1) := by decide +kernel
theorem dX0_change_24 : decode cX0_change 24 = .ok (.dup2, 1) := by decide +kernel
theorem dX0_change_25 : decode cX0_change 25 = .ok (.iaload, 1) := by decide +kernel
theorem dX0_change_26 : decode cX0_change 26 = .ok (.iload_n 3, 1) := by decide +kernel
theorem dX0_change_27 : decode cX0_change 27 = .ok (.iadd, 1) := by decide +kernel
theorem dX0_change_28 : decode cX0_change 28 = .ok (.iastore, 1) := by decide +kernel
theorem dX0_change_29 : decode cX0_change 29 = .ok (.iload_n 3, 1) := by decide +kernel
theorem dX0_change_30 : decode cX0_change 30 = .ok (.ireturn, 1) := by decide +kernel
theorem dX0_passHour_0 : decode cX0_passHour 0 = .ok (.iconst 0, 1) := by decide +kernel
theorem dX0_passHour_1 : decode cX0_passHour 1 = .ok (.istore_n 3, 1) := by decide +kernel
theorem dX0_passHour_2 : decode cX0_passHour 2 = .ok (.iload_n 3, 1) := by decide +kernel
theorem dX0_passHour_3 : decode cX0_passHour 3 = .ok (.iconst 4, 1) := by decide +kernel
theorem dX0_passHour_4 : decode cX0_passHour 4 = .ok (.if_icmp .ge 95, 3) := by decide +kernel
theorem dX0_passHour_7 : decode cX0_passHour 7 = .ok (.aload_n 1, 1) := by decide +kernel
theorem dX0_passHour_8 : decode cX0_passHour 8 = .ok (.getfield 49, 3) := by decide +kernel
theorem dX0_passHour_11 : decode cX0_passHour 11 = .ok (.iload_n 3, 1) := by decide +kernel
theorem dX0_passHour_12 : decode cX0_passHour 12 = .ok (.baload, 1) := by decide +kernel
theorem dX0_passHour_13 : decode cX0_passHour 13 = .ok (.ifCond .eq 68, 3) := by decide +kernel
theorem dX0_passHour_16 : decode cX0_passHour 16 = .ok (.aload_n 0, 1) := by decide +kernel
theorem dX0_passHour_17 : decode cX0_passHour 17 = .ok (.getfield 15, 3) := by decide +kernel
theorem dX0_passHour_20 : decode cX0_passHour 20 = .ok (.iload_n 3, 1) := by decide +kernel
theorem dX0_passHour_21 : decode cX0_passHour 21 = .ok (.iaload, 1) := by decide +kernel
theorem dX0_passHour_22 : decode cX0_passHour 22 = .ok (.sipush 160, 3) := by decide +kernel
theorem dX0_passHour_25 : decode cX0_passHour 25 = .ok (.if_icmp .eq 56, 3) := by decide +kernel
theorem dX0_passHour_28 : decode cX0_passHour 28 = .ok (.aload_n 1, 1) := by decide +kernel
theorem dX0_passHour_29 : decode cX0_passHour 29 = .ok (.iload_n 3, 1) := by decide +kernel
theorem dX0_passHour_30 : decode cX0_passHour 30 = .ok (.aload_n 0, 1) := by decide +kernel
theorem dX0_passHour_31 : decode cX0_passHour 31 = .ok (.getfield 15, 3) := by decide +kernel
theorem dX0_passHour_34 : decode cX0_passHour 34 = .ok (.iload_n 3, 1) := by decide +kernel
theorem dX0_passHour_35 : decode cX0_passHour 35 = .ok (.iaload, 1) := by decide +kernel
theorem dX0_passHour_36 : decode cX0_passHour 36 = .ok (.aload_n 0, 1) := by decide +kernel
theorem dX0_passHour_37 : decode cX0_passHour 37 = .ok (.getfield 19, 3) := by decide +kernel
theorem dX0_passHour_40 : decode cX0_passHour 40 = .ok (.iload_n 3, 1) := by decide +kernel
theorem dX0_passHour_41 : decode cX0_passHour 41 = .ok (.iaload, 1) := by decide +kernel
theorem dX0_passHour_42 : decode cX0_passHour 42 = .ok (.iload_n 2, 1) := by decide +kernel
theorem dX0_passHour_43 : decode cX0_passHour 43 = .ok (.invokevirtual 55, 3) := by decide +kernel
theorem dX0_passHour_46 : decode cX0_passHour 46 = .ok (.istore 4, 2) := by decide +kernel
theorem dX0_passHour_48 : decode cX0_passHour 48 = .ok (.aload_n 0, 1) := by decide +kernel
theorem dX0_passHour_49 : decode cX0_passHour 49 = .ok (.getfield 28, 3) := by decide +kernel
theorem dX0_passHour_52 : decode cX0_passHour 52 = .ok (.iload_n 3, 1) := by decide +kernel
theorem dX0_passHour_53 : decode cX0_passHour 53 = .ok (.dup2, 1) := by decide +kernel
theorem dX0_passHour_54 : decode cX0_passHour 54 = .ok (.iaload, 1) := by decide +kernel
theorem dX0_passHour_55 : decode cX0_passHour 55 = .ok (.iload 4, 2) := by decide +kernel
theorem dX0_passHour_57 : decode cX0_passHour 57 = .ok (.aload_n 0, 1) := by decide +kernel
theorem dX0_passHour_58 : decode cX0_passHour 58 = .ok (.getfield 15, 3) := by decide +kernel
theorem dX0_passHour_61 : decode cX0_passHour 61 = .ok (.iload_n 3, 1) := by decide +kernel
theorem dX0_passHour_62 : decode cX0_passHour 62 = .ok (.iaload, 1) := by decide +kernel
theorem dX0_passHour_63 : decode cX0_passHour 63 = .ok (.if_icmp .ne 7, 3) := by decide +kernel
theorem dX0_passHour_66 : decode cX0_passHour 66 = .ok (.iconst 1, 1) := by decide +kernel
theorem dX0_passHour_67 : decode cX0_passHour 67 = .ok (.goto 4, 3) := by decide +kernel
theorem dX0_passHour_70 : decode cX0_passHour 70 = .ok (.iconst 0, 1) := by decide +kernel
theorem dX0_passHour_71 : decode cX0_passHour 71 = .ok (.iadd, 1) := by decide +kernel
theorem dX0_passHour_72 : decode cX0_passHour 72 = .ok (.iastore, 1) := by decide +kernel
theorem dX0_passHour_73 : decode cX0_passHour 73 = .ok (.aload_n 0, 1) := by decide +kernel
theorem dX0_passHour_74 : decode cX0_passHour 74 = .ok (.getfield 15, 3) := by decide +kernel
theorem dX0_passHour_77 : decode cX0_passHour 77 = .ok (.iload_n 3, 1) := by decide +kernel
theorem dX0_passHour_78 : decode cX0_passHour 78 = .ok (.iload 4, 2) := by decide +kernel
theorem dX0_passHour_80 : decode cX0_passHour 80 = .ok (.iastore, 1) := by decide +kernel
theorem dX0_passHour_81 : decode cX0_passHour 81 = .ok (.aload_n 0, 1) := by decide +kernel
theorem dX0_passHour_82 : decode cX0_passHour 82 = .ok (.getfield 22, 3) := by decide +kernel
theorem dX0_passHour_85 : decode cX0_passHour 85 = .ok (.iload_n 3, 1) := by decide +kernel
theorem dX0_passHour_86 : decode cX0_passHour 86 = .ok (.aload_n 0, 1) := by decide +kernel
theorem dX0_passHour_87 : decode cX0_passHour 87 = .ok (.getfield 19, 3) := by decide +kernel
theorem dX0_passHour_90 : decode cX0_passHour 90 = .ok (.iload_n 3, 1) := by decide +kernel
theorem dX0_passHour_91 : decode cX0_passHour 91 = .ok (.iaload, 1) := by decide +kernel
theorem dX0_passHour_92 : decode cX0_passHour 92 = .ok (.iastore, 1) := by decide +kernel
theorem dX0_passHour_93 : decode cX0_passHour 93 = .ok (.iinc 3 1, 3) := by decide +kernel
theorem dX0_passHour_96 : decode cX0_passHour 96 = .ok (.goto (-94), 3) := by decide +kernel
theorem dX0_passHour_99 : decode cX0_passHour 99 = .ok (.aload_n 0, 1) := by decide +kernel
theorem dX0_passHour_100 : decode cX0_passHour 100 = .ok (.iload_n 2, 1) := by decide +kernel
theorem dX0_passHour_101 : decode cX0_passHour 101 = .ok (.iconst 1, 1) := by decide +kernel
theorem dX0_passHour_102 : decode cX0_passHour 102 = .ok (.iadd, 1) := by decide +kernel
theorem dX0_passHour_103 : decode cX0_passHour 103 = .ok (.putfield 9, 3) := by decide +kernel
theorem dX0_passHour_106 : decode cX0_passHour 106 = .ok (.return_, 1) := by decide +kernel
theorem dX0_areKnotted_0 : decode cX0_areKnotted 0 = .ok (.aload_n 0, 1) := by decide +kernel
theorem dX0_areKnotted_1 : decode cX0_areKnotted 1 = .ok (.getfield 15, 3) := by decide +kernel
theorem dX0_areKnotted_4 : decode cX0_areKnotted 4 = .ok (.iload_n 1, 1) := by decide +kernel
theorem dX0_areKnotted_5 : decode cX0_areKnotted 5 = .ok (.iaload, 1) := by decide +kernel
theorem dX0_areKnotted_6 : decode cX0_areKnotted 6 = .ok (.aload_n 0, 1) := by decide +kernel
theorem dX0_areKnotted_7 : decode cX0_areKnotted 7 = .ok (.getfield 19, 3) := by decide +kernel
theorem dX0_areKnotted_10 : decode cX0_areKnotted 10 = .ok (.iload_n 1, 1) := by decide +kernel
theorem dX0_areKnotted_11 : decode cX0_areKnotted 11 = .ok (.iaload, 1) := by decide +kernel
theorem dX0_areKnotted_12 : decode cX0_areKnotted 12 = .ok (.aload_n 0, 1) := by decide +kernel
theorem dX0_areKnotted_13 : decode cX0_areKnotted 13 = .ok (.getfield 15, 3) := by decide +kernel
theorem dX0_areKnotted_16 : decode cX0_areKnotted 16 = .ok (.iload_n 2, 1) := by decide +kernel
theorem dX0_areKnotted_17 : decode cX0_areKnotted 17 = .ok (.iaload, 1) := by decide +kernel
theorem dX0_areKnotted_18 : decode cX0_areKnotted 18 = .ok (.aload_n 0, 1) := by decide +kernel
theorem dX0_areKnotted_19 : decode cX0_areKnotted 19 = .ok (.getfield 19, 3) := by decide +kernel
theorem dX0_areKnotted_22 : decode cX0_areKnotted 22 = .ok (.iload_n 2, 1) := by decide +kernel
theorem dX0_areKnotted_23 : decode cX0_areKnotted 23 = .ok (.iaload, 1) := by decide +kernel
theorem dX0_areKnotted_24 : decode cX0_areKnotted 24 = .ok (.invokestatic 59, 3) := by decide +kernel
theorem dX0_areKnotted_27 : decode cX0_areKnotted 27 = .ok (.ireturn, 1) := by decide +kernel
theorem dX1_init_0 : decode cX1_init 0 = .ok (.aload_n 0, 1) := by decide +kernel
theorem dX1_init_1 : decode cX1_init 1 = .ok (.invokespecial 3, 3) := by decide +kernel
theorem dX1_init_4 : decode cX1_init 4 = .ok (.aload_n 0, 1) := by decide +kernel
theorem dX1_init_5 : decode cX1_init 5 = .ok (.bipush 24, 2) := by decide +kernel
theorem dX1_init_7 : decode cX1_init 7 = .ok (.newarray .int, 2) := by decide +kernel
theorem dX1_init_9 : decode cX1_init 9 = .ok (.putfield 9, 3) := by decide +kernel
theorem dX1_init_12 : decode cX1_init 12 = .ok (.aload_n 0, 1) := by decide +kernel
theorem dX1_init_13 : decode cX1_init 13 = .ok (.bipush 24, 2) := by decide +kernel
theorem dX1_init_15 : decode cX1_init 15 = .ok (.newarray .int, 2) := by decide +kernel
theorem dX1_init_17 : decode cX1_init 17 = .ok (.putfield 15, 3) := by decide +kernel
theorem dX1_init_20 : decode cX1_init 20 = .ok (.aload_n 0, 1) := by decide +kernel
theorem dX1_init_21 : decode cX1_init 21 = .ok (.getfield 9, 3) := by decide +kernel
theorem dX1_init_24 : decode cX1_init 24 = .ok (.sipush 160, 3) := by decide +kernel
theorem dX1_init_27 : decode cX1_init 27 = .ok (.invokestatic 18, 3) := by decide +kernel
theorem dX1_init_30 : decode cX1_init 30 = .ok (.return_, 1) := by decide +kernel
theorem dX2_init_0 : decode cX2_init 0 = .ok (.aload_n 0, 1) := by decide +kernel
theorem dX2_init_1 : decode cX2_init 1 = .ok (.invokespecial 3, 3) := by decide +kernel
theorem dX2_init_4 : decode cX2_init 4 = .ok (.aload_n 0, 1) := by decide +kernel
theorem dX2_init_5 : decode cX2_init 5 = .ok (.sipush 512, 3) := by decide +kernel
theorem dX2_init_8 : decode cX2_init 8 = .ok (.newarray .int, 2) := by decide +kernel
theorem dX2_init_10 : decode cX2_init 10 = .ok (.putfield 11, 3) := by decide +kernel
theorem dX2_init_13 : decode cX2_init 13 = .ok (.aload_n 0, 1) := by decide +kernel
theorem dX2_init_14 : decode cX2_init 14 = .ok (.sipush 512, 3) := by decide +kernel
theorem dX2_init_17 : decode cX2_init 17 = .ok (.newarray .long, 2) := by decide +kernel
theorem dX2_init_19 : decode cX2_init 19 = .ok (.putfield 15, 3) := by decide +kernel
theorem dX2_init_22 : decode cX2_init 22 = .ok (.aload_n 0, 1) := by decide +kernel
theorem dX2_init_23 : decode cX2_init 23 = .ok (.sipush 966, 3) := by decide +kernel
theorem dX2_init_26 : decode cX2_init 26 = .ok (.newarray .long, 2) := by decide +kernel
theorem dX2_init_28 : decode cX2_init 28 = .ok (.putfield 19, 3) := by decide +kernel
theorem dX2_init_31 : decode cX2_init 31 = .ok (.aload_n 0, 1) := by decide +kernel
theorem dX2_init_32 : decode cX2_init 32 = .ok (.sipush 966, 3) := by decide +kernel
theorem dX2_init_35 : decode cX2_init 35 = .ok (.newarray .long, 2) := by decide +kernel
theorem dX2_init_37 : decode cX2_init 37 = .ok (.putfield 22, 3) := by decide +kernel
theorem dX2_init_40 : decode cX2_init 40 = .ok (.aload_n 0, 1) := by decide +kernel
theorem dX2_init_41 : decode cX2_init 41 = .ok (.sipush 161, 3) := by decide +kernel
theorem dX2_init_44 : decode cX2_init 44 = .ok (.newarray .int, 2) := by decide +kernel
theorem dX2_init_46 : decode cX2_init 46 = .ok (.putfield 25, 3) := by decide +kernel
theorem dX2_init_49 : decode cX2_init 49 = .ok (.aload_n 0, 1) := by decide +kernel
theorem dX2_init_50 : decode cX2_init 50 = .ok (.bipush 6, 2) := by decide +kernel
theorem dX2_init_52 : decode cX2_init 52 = .ok (.newarray .long, 2) := by decide +kernel
theorem dX2_init_54 : decode cX2_init 54 = .ok (.putfield 28, 3) := by decide +kernel
theorem dX2_init_57 : decode cX2_init 57 = .ok (.aload_n 0, 1) := by decide +kernel
theorem dX2_init_58 : decode cX2_init 58 = .ok (.bipush 6, 2) := by decide +kernel
theorem dX2_init_60 : decode cX2_init 60 = .ok (.newarray .long, 2) := by decide +kernel
theorem dX2_init_62 : decode cX2_init 62 = .ok (.putfield 31, 3) := by decide +kernel
theorem dX2_init_65 : decode cX2_init 65 = .ok (.aload_n 0, 1) := by decide +kernel
theorem dX2_init_66 : decode cX2_init 66 = .ok (.aload_n 1, 1) := by decide +kernel
theorem dX2_init_67 : decode cX2_init 67 = .ok (.putfield 34, 3) := by decide +kernel
theorem dX2_init_70 : decode cX2_init 70 = .ok (.return_, 1) := by decide +kernel
theorem dX2_start_0 : decode cX2_start 0 = .ok (.aload_n 0, 1) := by decide +kernel
theorem dX2_start_1 : decode cX2_start 1 = .ok (.getfield 11, 3) := by decide +kernel
theorem dX2_start_4 : decode cX2_start 4 = .ok (.iconst 1, 1) := by decide +kernel
theorem dX2_start_5 : decode cX2_start 5 = .ok (.aload_n 0, 1) := by decide +kernel
theorem dX2_start_6 : decode cX2_start 6 = .ok (.getfield 34, 3) := by decide +kernel
theorem dX2_start_9 : decode cX2_start 9 = .ok (.invokevirtual 38, 3) := by decide +kernel
theorem dX2_start_12 : decode cX2_start 12 = .ok (.iastore, 1) := by decide +kernel
theorem dX2_start_13 : decode cX2_start 13 = .ok (.aload_n 0, 1) := by decide +kernel
theorem dX2_start_14 : decode cX2_start 14 = .ok (.getfield 15, 3) := by decide +kernel
theorem dX2_start_17 : decode cX2_start 17 = .ok (.iconst 1, 1) := by decide +kernel
theorem dX2_start_18 : decode cX2_start 18 = .ok (.lconst 1, 1) := by decide +kernel
theorem dX2_start_19 : decode cX2_start 19 = .ok (.lastore, 1) := by decide +kernel
theorem dX2_start_20 : decode cX2_start 20 = .ok (.iconst 1, 1) := by decide +kernel
theorem dX2_start_21 : decode cX2_start 21 = .ok (.iload_n 1, 1) := by decide +kernel
theorem dX2_start_22 : decode cX2_start 22 = .ok (.bipush 8, 2) := by decide +kernel
theorem dX2_start_24 : decode cX2_start 24 = .ok (.invokestatic 44, 3) := by decide +kernel
theorem dX2_start_27 : decode cX2_start 27 = .ok (.ishl, 1) := by decide +kernel
theorem dX2_start_28 : decode cX2_start 28 = .ok (.istore_n 3, 1) := by decide +kernel
theorem dX2_start_29 : decode cX2_start 29 = .ok (.iconst 1, 1) := by decide +kernel
theorem dX2_start_30 : decode cX2_start 30 = .ok (.istore 4, 2) := by decide +kernel
theorem dX2_start_32 : decode cX2_start 32 = .ok (.iload 4, 2) := by decide +kernel
theorem dX2_start_34 : decode cX2_start 34 = .ok (.iload_n 3, 1) := by decide +kernel
theorem dX2_start_35 : decode cX2_start 35 = .ok (.if_icmp .ge 52, 3) := by decide +kernel
theorem dX2_start_38 : decode cX2_start 38 = .ok (.aload_n 0, 1) := by decide +kernel
theorem dX2_start_39 : decode cX2_start 39 = .ok (.getfield 15, 3) := by decide +kernel
theorem dX2_start_42 : decode cX2_start 42 = .ok (.iconst 2, 1) := by decide +kernel
theorem dX2_start_43 : decode cX2_start 43 = .ok (.iload 4, 2) := by decide +kernel
theorem dX2_start_45 : decode cX2_start 45 = .ok (.imul, 1) := by decide +kernel
theorem dX2_start_46 : decode cX2_start 46 = .ok (.aload_n 0, 1) := by decide +kernel
theorem dX2_start_47 : decode cX2_start 47 = .ok (.getfield 15, 3) := by decide +kernel
theorem dX2_start_50 : decode cX2_start 50 = .ok (.iload 4, 2) := by decide +kernel
theorem dX2_start_52 : decode cX2_start 52 = .ok (.laload, 1) := by decide +kernel
theorem dX2_start_53 : decode cX2_start 53 = .ok (.iload_n 2, 1) := by decide +kernel
theorem dX2_start_54 : decode cX2_start 54 = .ok (.i2l, 1) := by decide +kernel
theorem dX2_start_55 : decode cX2_start 55 = .ok (.lmul, 1) := by decide +kernel
theorem dX2_start_56 : decode cX2_start 56 = .ok (.lastore, 1) := by decide +kernel
theorem dX2_start_57 : decode cX2_start 57 = .ok (.aload_n 0, 1) := by decide +kernel
theorem dX2_start_58 : decode cX2_start 58 = .ok (.getfield 15, 3) := by decide +kernel
theorem dX2_start_61 : decode cX2_start 61 = .ok (.iconst 2, 1) := by decide +kernel
theorem dX2_start_62 : decode cX2_start 62 = .ok (.iload 4, 2) := by decide +kernel
theorem dX2_start_64 : decode cX2_start 64 = .ok (.imul, 1) := by decide +kernel
theorem dX2_start_65 : decode cX2_start 65 = .ok (.iconst 1, 1) := by decide +kernel
theorem dX2_start_66 : decode cX2_start 66 = .ok (.iadd, 1) := by decide +kernel
theorem dX2_start_67 : decode cX2_start 67 = .ok (.aload_n 0, 1) := by decide +kernel
theorem dX2_start_68 : decode cX2_start 68 = .ok (.getfield 15, 3) := by decide +kernel
theorem dX2_start_71 : decode cX2_start 71 = .ok (.iload 4, 2) := by decide +kernel
theorem dX2_start_73 : decode cX2_start 73 = .ok (.laload, 1) := by decide +kernel
theorem dX2_start_74 : decode cX2_start 74 = .ok (.bipush 10, 2) := by decide +kernel
theorem dX2_start_76 : decode cX2_start 76 = .ok (.iload_n 2, 1) := by decide +kernel
theorem dX2_start_77 : decode cX2_start 77 = .ok (.isub, 1) := by decide +kernel
theorem dX2_start_78 : decode cX2_start 78 = .ok (.i2l, 1) := by decide +kernel
theorem dX2_start_79 : decode cX2_start 79 = .ok (.lmul, 1) := by decide +kernel
theorem dX2_start_80 : decode cX2_start 80 = .ok (.lastore, 1) := by decide +kernel
theorem dX2_start_81 : decode cX2_start 81 = .ok (.iinc 4 1, 3) := by decide +kernel
theorem dX2_start_84 : decode cX2_start 84 = .ok (.goto (-52), 3) := by decide +kernel
theorem dX2_start_87 : decode cX2_start 87 = .ok (.return_, 1) := by decide +kernel
theorem dX2_branch_0 : decode cX2_branch 0 = .ok (.iload_n 2, 1) := by decide +kernel
theorem dX2_branch_1 : decode cX2_branch 1 = .ok (.ifCond .lt 9, 3) := by decide +kernel
theorem dX2_branch_4 : decode cX2_branch 4 = .ok (.iload_n 2, 1) := by decide +kernel
theorem dX2_branch_5 : decode cX2_branch 5 = .ok (.bipush 8, 2) := by decide +kernel
theorem dX2_branch_7 : decode cX2_branch 7 = .ok (.if_icmp .lt 4, 3) := by decide +kernel
theorem dX2_branch_10 : decode cX2_branch 10 = .ok (.return_, 1) := by decide +kernel
theorem dX2_branch_11 : decode cX2_branch 11 = .ok (.iconst 1, 1) := by decide +kernel
theorem dX2_branch_12 : decode cX2_branch 12 = .ok (.iload_n 2, 1) := by decide +kernel
theorem dX2_branch_13 : decode cX2_branch 13 = .ok (.ishl, 1) := by decide +kernel
theorem dX2_branch_14 : decode cX2_branch 14 = .ok (.istore 4, 2) := by decide +kernel
theorem dX2_branch_16 : decode cX2_branch 16 = .ok (.iload 4, 2) := by decide +kernel
theorem dX2_branch_18 : decode cX2_branch 18 = .ok (.iconst 2, 1) := by decide +kernel
theorem dX2_branch_19 : decode cX2_branch 19 = .ok (.iload_n 2, 1) := by decide +kernel
theorem dX2_branch_20 : decode cX2_branch 20 = .ok (.ishl, 1) := by decide +kernel
theorem dX2_branch_21 : decode cX2_branch 21 = .ok (.if_icmp .ge 53, 3) := by decide +kernel
theorem dX2_branch_24 : decode cX2_branch 24 = .ok (.aload_n 0, 1) := by decide +kernel
theorem dX2_branch_25 : decode cX2_branch 25 = .ok (.getfield 11, 3) := by decide +kernel
theorem dX2_branch_28 : decode cX2_branch 28 = .ok (.iconst 2, 1) := by decide +kernel
theorem dX2_branch_29 : decode cX2_branch 29 = .ok (.iload 4, 2) := by decide +kernel
theorem dX2_branch_31 : decode cX2_branch 31 = .ok (.imul, 1) := by decide +kernel
theorem dX2_branch_32 : decode cX2_branch 32 = .ok (.aload_n 0, 1) := by decide +kernel
theorem dX2_branch_33 : decode cX2_branch 33 = .ok (.getfield 11, 3) := by decide +kernel
theorem dX2_branch_36 : decode cX2_branch 36 = .ok (.iload 4, 2) := by decide +kernel
theorem dX2_branch_38 : decode cX2_branch 38 = .ok (.iaload, 1) := by decide +kernel
theorem dX2_branch_39 : decode cX2_branch 39 = .ok (.iastore, 1) := by decide +kernel
theorem dX2_branch_40 : decode cX2_branch 40 = .ok (.aload_n 0, 1) := by decide +kernel
theorem dX2_branch_41 : decode cX2_branch 41 = .ok (.getfield 11, 3) := by decide +kernel
theorem dX2_branch_44 : decode cX2_branch 44 = .ok (.iconst 2, 1) := by decide +kernel
theorem dX2_branch_45 : decode cX2_branch 45 = .ok (.iload 4, 2) := by decide +kernel
theorem dX2_branch_47 : decode cX2_branch 47 = .ok (.imul, 1) := by decide +kernel
theorem dX2_branch_48 : decode cX2_branch 48 = .ok (.iconst 1, 1) := by decide +kernel
theorem dX2_branch_49 : decode cX2_branch 49 = .ok (.iadd, 1) := by decide +kernel
theorem dX2_branch_50 : decode cX2_branch 50 = .ok (.aload_n 0, 1) := by decide +kernel
theorem dX2_branch_51 : decode cX2_branch 51 = .ok (.getfield 34, 3) := by decide +kernel
theorem dX2_branch_54 : decode cX2_branch 54 = .ok (.iload_n 1, 1) := by decide +kernel
theorem dX2_branch_55 : decode cX2_branch 55 = .ok (.aload_n 0, 1) := by decide +kernel
theorem dX2_branch_56 : decode cX2_branch 56 = .ok (.getfield 11, 3) := by decide +kernel
theorem dX2_branch_59 : decode cX2_branch 59 = .ok (.iload 4, 2) := by decide +kernel
theorem dX2_branch_61 : decode cX2_branch 61 = .ok (.iaload, 1) := by decide +kernel
theorem dX2_branch_62 : decode cX2_branch 62 = .ok (.iload_n 3, 1) := by decide +kernel
theorem dX2_branch_63 : decode cX2_branch 63 = .ok (.iload_n 2, 1) := by decide +kernel
theorem dX2_branch_64 : decode cX2_branch 64 = .ok (.invokevirtual 50, 3) := by decide +kernel
theorem dX2_branch_67 : decode cX2_branch 67 = .ok (.iastore, 1) := by decide +kernel
theorem dX2_branch_68 : decode cX2_branch 68 = .ok (.iinc 4 1, 3) := by decide +kernel
theorem dX2_branch_71 : decode cX2_branch 71 = .ok (.goto (-55), 3) := by decide +kernel
theorem dX2_branch_74 : decode cX2_branch 74 = .ok (.return_, 1) := by decide +kernel
theorem dX2_thereAfter_0 : decode cX2_thereAfter 0 = .ok (.lconst 0, 1) := by decide +kernel
theorem dX2_thereAfter_1 : decode cX2_thereAfter 1 = .ok (.lstore_n 2, 1) := by decide +kernel
theorem dX2_thereAfter_2 : decode cX2_thereAfter 2 = .ok (.iload_n 1, 1) := by decide +kernel
theorem dX2_thereAfter_3 : decode cX2_thereAfter 3 = .ok (.ifCond .lt 9, 3) := by decide +kernel
theorem dX2_thereAfter_6 : decode cX2_thereAfter 6 = .ok (.iload_n 1, 1) := by decide +kernel
theorem dX2_thereAfter_7 : decode cX2_thereAfter 7 = .ok (.bipush 8, 2) := by decide +kernel
theorem dX2_thereAfter_9 : decode cX2_thereAfter 9 = .ok (.if_icmp .le 5, 3) := by decide +kernel
theorem dX2_thereAfter_12 : decode cX2_thereAfter 12 = .ok (.lload_n 2, 1) := by decide +kernel
theorem dX2_thereAfter_13 : decode cX2_thereAfter 13 = .ok (.lreturn, 1) := by decide +kernel
theorem dX2_thereAfter_14 : decode cX2_thereAfter 14 = .ok (.iconst 1, 1) := by decide +kernel
theorem dX2_thereAfter_15 : decode cX2_thereAfter 15 = .ok (.iload_n 1, 1) := by decide +kernel
theorem dX2_thereAfter_16 : decode cX2_thereAfter 16 = .ok (.ishl, 1) := by decide +kernel
theorem dX2_thereAfter_17 : decode cX2_thereAfter 17 = .ok (.istore 4, 2) := by decide +kernel
theorem dX2_thereAfter_19 : decode cX2_thereAfter 19 = .ok (.iload 4, 2) := by decide +kernel
theorem dX2_thereAfter_21 : decode cX2_thereAfter 21 = .ok (.iconst 2, 1) := by decide +kernel
theorem dX2_thereAfter_22 : decode cX2_thereAfter 22 = .ok (.iload_n 1, 1) := by decide +kernel
theorem dX2_thereAfter_23 : decode cX2_thereAfter 23 = .ok (.ishl, 1) := by decide +kernel
theorem dX2_thereAfter_24 : decode cX2_thereAfter 24 = .ok (.if_icmp .ge 36, 3) := by decide +kernel
theorem dX2_thereAfter_27 : decode cX2_thereAfter 27 = .ok (.lload_n 2, 1) := by decide +kernel
theorem dX2_thereAfter_28 : decode cX2_thereAfter 28 = .ok (.aload_n 0, 1) := by decide +kernel
theorem dX2_thereAfter_29 : decode cX2_thereAfter 29 = .ok (.getfield 11, 3) := by decide +kernel
theorem dX2_thereAfter_32 : decode cX2_thereAfter 32 = .ok (.iload 4, 2) := by decide +kernel
theorem dX2_thereAfter_34 : decode cX2_thereAfter 34 = .ok (.iaload, 1) := by decide +kernel
theorem dX2_thereAfter_35 : decode cX2_thereAfter 35 = .ok (.sipush 160, 3) := by decide +kernel
theorem dX2_thereAfter_38 : decode cX2_thereAfter 38 = .ok (.if_icmp .ne 13, 3) := by decide +kernel
theorem dX2_thereAfter_41 : decode cX2_thereAfter 41 = .ok (.aload_n 0, 1) := by decide +kernel
theorem dX2_thereAfter_42 : decode cX2_thereAfter 42 = .ok (.getfield 15, 3) := by decide +kernel
theorem dX2_thereAfter_45 : decode cX2_thereAfter 45 = .ok (.iload 4, 2) := by decide +kernel
theorem dX2_thereAfter_47 : decode cX2_thereAfter 47 = .ok (.laload, 1) := by decide +kernel
theorem dX2_thereAfter_48 : decode cX2_thereAfter 48 = .ok (.goto 4, 3) := by decide +kernel
theorem dX2_thereAfter_51 : decode cX2_thereAfter 51 = .ok (.lconst 0, 1) := by decide +kernel
theorem dX2_thereAfter_52 : decode cX2_thereAfter 52 = .ok (.ladd, 1) := by decide +kernel
theorem dX2_thereAfter_53 : decode cX2_thereAfter 53 = .ok (.lstore_n 2, 1) := by decide +kernel
theorem dX2_thereAfter_54 : decode cX2_thereAfter 54 = .ok (.iinc 4 1, 3) := by decide +kernel
theorem dX2_thereAfter_57 : decode cX2_thereAfter 57 = .ok (.goto (-38), 3) := by decide +kernel
theorem dX2_thereAfter_60 : decode cX2_thereAfter 60 = .ok (.lload_n 2, 1) := by decide +kernel
theorem dX2_thereAfter_61 : decode cX2_thereAfter 61 = .ok (.lreturn, 1) := by decide +kernel
theorem dX2_bestBlind_0 : decode cX2_bestBlind 0 = .ok (.aload_n 0, 1) := by decide +kernel
theorem dX2_bestBlind_1 : decode cX2_bestBlind 1 = .ok (.iload_n 2, 1) := by decide +kernel
theorem dX2_bestBlind_2 : decode cX2_bestBlind 2 = .ok (.iload_n 3, 1) := by decide +kernel
theorem dX2_bestBlind_3 : decode cX2_bestBlind 3 = .ok (.invokevirtual 54, 3) := by decide +kernel
theorem dX2_bestBlind_6 : decode cX2_bestBlind 6 = .ok (.aload_n 0, 1) := by decide +kernel
theorem dX2_bestBlind_7 : decode cX2_bestBlind 7 = .ok (.iload_n 1, 1) := by decide +kernel
theorem dX2_bestBlind_8 : decode cX2_bestBlind 8 = .ok (.iload_n 2, 1) := by decide +kernel
theorem dX2_bestBlind_9 : decode cX2_bestBlind 9 = .ok (.iconst 0, 1) := by decide +kernel
theorem dX2_bestBlind_10 : decode cX2_bestBlind 10 = .ok (.iconst 0, 1) := by decide +kernel
theorem dX2_bestBlind_11 : decode cX2_bestBlind 11 = .ok (.invokevirtual 58, 3) := by decide +kernel
theorem dX2_bestBlind_14 : decode cX2_bestBlind 14 = .ok (.lreturn, 1) := by decide +kernel
theorem dX2_bestRow_0 : decode cX2_bestRow 0 = .ok (.iload_n 3, 1) := by decide +kernel
theorem dX2_bestRow_1 : decode cX2_bestRow 1 = .ok (.iload_n 2, 1) := by decide +kernel
theorem dX2_bestRow_2 : decode cX2_bestRow 2 = .ok (.if_icmp .ge 8, 3) := by decide +kernel
theorem dX2_bestRow_5 : decode cX2_bestRow 5 = .ok (.iload_n 3, 1) := by decide +kernel
theorem dX2_bestRow_6 : decode cX2_bestRow 6 = .ok (.iconst 4, 1) := by decide +kernel
theorem dX2_bestRow_7 : decode cX2_bestRow 7 = .ok (.if_icmp .lt 9, 3) := by decide +kernel
theorem dX2_bestRow_10 : decode cX2_bestRow 10 = .ok (.aload_n 0, 1) := by decide +kernel
theorem dX2_bestRow_11 : decode cX2_bestRow 11 = .ok (.iload_n 2, 1) := by decide +kernel
theorem dX2_bestRow_12 : decode cX2_bestRow 12 = .ok (.invokevirtual 62, 3) := by decide +kernel
theorem dX2_bestRow_15 : decode cX2_bestRow 15 = .ok (.lreturn, 1) := by decide +kernel
theorem dX2_bestRow_16 : decode cX2_bestRow 16 = .ok (.lconst 0, 1) := by decide +kernel
theorem dX2_bestRow_17 : decode cX2_bestRow 17 = .ok (.lstore 5, 2) := by decide +kernel
theorem dX2_bestRow_19 : decode cX2_bestRow 19 = .ok (.aload_n 0, 1) := by decide +kernel
theorem dX2_bestRow_20 : decode cX2_bestRow 20 = .ok (.getfield 34, 3) := by decide +kernel
theorem dX2_bestRow_23 : decode cX2_bestRow 23 = .ok (.iload_n 1, 1) := by decide +kernel
theorem dX2_bestRow_24 : decode cX2_bestRow 24 = .ok (.invokevirtual 66, 3) := by decide +kernel
theorem dX2_bestRow_27 : decode cX2_bestRow 27 = .ok (.istore 7, 2) := by decide +kernel
theorem dX2_bestRow_29 : decode cX2_bestRow 29 = .ok (.iconst 5, 1) := by decide +kernel
theorem dX2_bestRow_30 : decode cX2_bestRow 30 = .ok (.iload 4, 2) := by decide +kernel
theorem dX2_bestRow_32 : decode cX2_bestRow 32 = .ok (.iload 7, 2) := by decide +kernel
theorem dX2_bestRow_34 : decode cX2_bestRow 34 = .ok (.iadd, 1) := by decide +kernel
theorem dX2_bestRow_35 : decode cX2_bestRow 35 = .ok (.invokestatic 44, 3) := by decide +kernel
theorem dX2_bestRow_38 : decode cX2_bestRow 38 = .ok (.istore 8, 2) := by decide +kernel
theorem dX2_bestRow_40 : decode cX2_bestRow 40 = .ok (.iconst 0, 1) := by decide +kernel
theorem dX2_bestRow_41 : decode cX2_bestRow 41 = .ok (.iload 4, 2) := by decide +kernel
theorem dX2_bestRow_43 : decode cX2_bestRow 43 = .ok (.iload 7, 2) := by decide +kernel
theorem dX2_bestRow_45 : decode cX2_bestRow 45 = .ok (.isub, 1) := by decide +kernel
theorem dX2_bestRow_46 : decode cX2_bestRow 46 = .ok (.invokestatic 70, 3) := by decide +kernel
theorem dX2_bestRow_49 : decode cX2_bestRow 49 = .ok (.istore 9, 2) := by decide +kernel
theorem dX2_bestRow_51 : decode cX2_bestRow 51 = .ok (.iload 9, 2) := by decide +kernel
theorem dX2_bestRow_53 : decode cX2_bestRow 53 = .ok (.iload 8, 2) := by decide +kernel
theorem dX2_bestRow_55 : decode cX2_bestRow 55 = .ok (.if_icmp .gt 35, 3) := by decide +kernel
theorem dX2_bestRow_58 : decode cX2_bestRow 58 = .ok (.aload_n 0, 1) := by decide +kernel
theorem dX2_bestRow_59 : decode cX2_bestRow 59 = .ok (.iload_n 1, 1) := by decide +kernel
theorem dX2_bestRow_60 : decode cX2_bestRow 60 = .ok (.iload_n 3, 1) := by decide +kernel
theorem dX2_bestRow_61 : decode cX2_bestRow 61 = .ok (.iload 9, 2) := by decide +kernel
theorem dX2_bestRow_63 : decode cX2_bestRow 63 = .ok (.invokevirtual 73, 3) := by decide +kernel
theorem dX2_bestRow_66 : decode cX2_bestRow 66 = .ok (.lload 5, 2) := by decide +kernel
theorem dX2_bestRow_68 : decode cX2_bestRow 68 = .ok (.aload_n 0, 1) := by decide +kernel
theorem dX2_bestRow_69 : decode cX2_bestRow 69 = .ok (.iload_n 1, 1) := by decide +kernel
theorem dX2_bestRow_70 : decode cX2_bestRow 70 = .ok (.iload_n 2, 1) := by decide +kernel
theorem dX2_bestRow_71 : decode cX2_bestRow 71 = .ok (.iload_n 3, 1) := by decide +kernel
theorem dX2_bestRow_72 : decode cX2_bestRow 72 = .ok (.iconst 1, 1) := by decide +kernel
theorem dX2_bestRow_73 : decode cX2_bestRow 73 = .ok (.iadd, 1) := by decide +kernel
theorem dX2_bestRow_74 : decode cX2_bestRow 74 = .ok (.iload 9, 2) := by decide +kernel
theorem dX2_bestRow_76 : decode cX2_bestRow 76 = .ok (.invokevirtual 58, 3) := by decide +kernel
theorem dX2_bestRow_79 : decode cX2_bestRow 79 = .ok (.invokestatic 77, 3) := by decide +kernel
theorem dX2_bestRow_82 : decode cX2_bestRow 82 = .ok (.lstore 5, 2) := by decide +kernel
theorem dX2_bestRow_84 : decode cX2_bestRow 84 = .ok (.iinc 9 1, 3) := by decide +kernel
theorem dX2_bestRow_87 : decode cX2_bestRow 87 = .ok (.goto (-36), 3) := by decide +kernel
theorem dX2_bestRow_90 : decode cX2_bestRow 90 = .ok (.lload 5, 2) := by decide +kernel
theorem dX2_bestRow_92 : decode cX2_bestRow 92 = .ok (.lreturn, 1) := by decide +kernel
theorem dX2_bestSeeing_0 : decode cX2_bestSeeing 0 = .ok (.aload_n 0, 1) := by decide +kernel
theorem dX2_bestSeeing_1 : decode cX2_bestSeeing 1 = .ok (.iload_n 1, 1) := by decide +kernel
theorem dX2_bestSeeing_2 : decode cX2_bestSeeing 2 = .ok (.iload_n 2, 1) := by decide +kernel
theorem dX2_bestSeeing_3 : decode cX2_bestSeeing 3 = .ok (.invokevirtual 80, 3) := by decide +kernel
theorem dX2_bestSeeing_6 : decode cX2_bestSeeing 6 = .ok (.aload_n 0, 1) := by decide +kernel
theorem dX2_bestSeeing_7 : decode cX2_bestSeeing 7 = .ok (.getfield 22, 3) := by decide +kernel
theorem dX2_bestSeeing_10 : decode cX2_bestSeeing 10 = .ok (.lconst 0, 1) := by decide +kernel
theorem dX2_bestSeeing_11 : decode cX2_bestSeeing 11 = .ok (.invokestatic 83, 3) := by decide +kernel
theorem dX2_bestSeeing_14 : decode cX2_bestSeeing 14 = .ok (.iconst 0, 1) := by decide +kernel
theorem dX2_bestSeeing_15 : decode cX2_bestSeeing 15 = .ok (.istore 4, 2) := by decide +kernel
theorem dX2_bestSeeing_17 : decode cX2_bestSeeing 17 = .ok (.iload 4, 2) := by decide +kernel
theorem dX2_bestSeeing_19 : decode cX2_bestSeeing 19 = .ok (.bipush 6, 2) := by decide +kernel
theorem dX2_bestSeeing_21 : decode cX2_bestSeeing 21 = .ok (.if_icmp .ge 21, 3) := by decide +kernel
theorem dX2_bestSeeing_24 : decode cX2_bestSeeing 24 = .ok (.aload_n 0, 1) := by decide +kernel
theorem dX2_bestSeeing_25 : decode cX2_bestSeeing 25 = .ok (.getfield 22, 3) := by decide +kernel
theorem dX2_bestSeeing_28 : decode cX2_bestSeeing 28 = .ok (.sipush 960, 3) := by decide +kernel
theorem dX2_bestSeeing_31 : decode cX2_bestSeeing 31 = .ok (.iload 4, 2) := by decide +kernel
theorem dX2_bestSeeing_33 : decode cX2_bestSeeing 33 = .ok (.iadd, 1) := by decide +kernel
theorem dX2_bestSeeing_34 : decode cX2_bestSeeing 34 = .ok (.lconst 1, 1) := by decide +kernel
theorem dX2_bestSeeing_35 : decode cX2_bestSeeing 35 = .ok (.lastore, 1) := by decide +kernel
theorem dX2_bestSeeing_36 : decode cX2_bestSeeing 36 = .ok (.iinc 4 1, 3) := by decide +kernel
theorem dX2_bestSeeing_39 : decode cX2_bestSeeing 39 = .ok (.goto (-22), 3) := by decide +kernel
theorem dX2_bestSeeing_42 : decode cX2_bestSeeing 42 = .ok (.iload_n 2, 1) := by decide +kernel
theorem dX2_bestSeeing_43 : decode cX2_bestSeeing 43 = .ok (.iconst 1, 1) := by decide +kernel
theorem dX2_bestSeeing_44 : decode cX2_bestSeeing 44 = .ok (.isub, 1) := by decide +kernel
theorem dX2_bestSeeing_45 : decode cX2_bestSeeing 45 = .ok (.istore 4, 2) := by decide +kernel
theorem dX2_bestSeeing_47 : decode cX2_bestSeeing 47 = .ok (.iload 4, 2) := by decide +kernel
theorem dX2_bestSeeing_49 : decode cX2_bestSeeing 49 = .ok (.ifCond .lt 52, 3) := by decide +kernel
theorem dX2_bestSeeing_52 : decode cX2_bestSeeing 52 = .ok (.iconst 0, 1) := by decide +kernel
theorem dX2_bestSeeing_53 : decode cX2_bestSeeing 53 = .ok (.istore 5, 2) := by decide +kernel
theorem dX2_bestSeeing_55 : decode cX2_bestSeeing 55 = .ok (.iload 5, 2) := by decide +kernel
theorem dX2_bestSeeing_57 : decode cX2_bestSeeing 57 = .ok (.sipush 161, 3) := by decide +kernel
theorem dX2_bestSeeing_60 : decode cX2_bestSeeing 60 = .ok (.if_icmp .ge 31, 3) := by decide +kernel
theorem dX2_bestSeeing_63 : decode cX2_bestSeeing 63 = .ok (.aload_n 0, 1) := by decide +kernel
theorem dX2_bestSeeing_64 : decode cX2_bestSeeing 64 = .ok (.getfield 25, 3) := by decide +kernel
theorem dX2_bestSeeing_67 : decode cX2_bestSeeing 67 = .ok (.iload 5, 2) := by decide +kernel
theorem dX2_bestSeeing_69 : decode cX2_bestSeeing 69 = .ok (.iaload, 1) := by decide +kernel
theorem dX2_bestSeeing_70 : decode cX2_bestSeeing 70 = .ok (.iload 4, 2) := by decide +kernel
theorem dX2_bestSeeing_72 : decode cX2_bestSeeing 72 = .ok (.if_icmp .gt 13, 3) := by decide +kernel
theorem dX2_bestSeeing_75 : decode cX2_bestSeeing 75 = .ok (.aload_n 0, 1) := by decide +kernel
theorem dX2_bestSeeing_76 : decode cX2_bestSeeing 76 = .ok (.iload_n 1, 1) := by decide +kernel
theorem dX2_bestSeeing_77 : decode cX2_bestSeeing 77 = .ok (.iload 5, 2) := by decide +kernel
theorem dX2_bestSeeing_79 : decode cX2_bestSeeing 79 = .ok (.iload 4, 2) := by decide +kernel
theorem dX2_bestSeeing_81 : decode cX2_bestSeeing 81 = .ok (.iload_n 3, 1) := by decide +kernel
theorem dX2_bestSeeing_82 : decode cX2_bestSeeing 82 = .ok (.invokevirtual 89, 3) := by decide +kernel
theorem dX2_bestSeeing_85 : decode cX2_bestSeeing 85 = .ok (.iinc 5 1, 3) := by decide +kernel
theorem dX2_bestSeeing_88 : decode cX2_bestSeeing 88 = .ok (.goto (-33), 3) := by decide +kernel
theorem dX2_bestSeeing_91 : decode cX2_bestSeeing 91 = .ok (.aload_n 0, 1) := by decide +kernel
theorem dX2_bestSeeing_92 : decode cX2_bestSeeing 92 = .ok (.invokevirtual 93, 3) := by decide +kernel
theorem dX2_bestSeeing_95 : decode cX2_bestSeeing 95 = .ok (.iinc 4 (-1), 3) := by decide +kernel
theorem dX2_bestSeeing_98 : decode cX2_bestSeeing 98 = .ok (.goto (-51), 3) := by decide +kernel
theorem dX2_bestSeeing_101 : decode cX2_bestSeeing 101 = .ok (.aload_n 0, 1) := by decide +kernel
theorem dX2_bestSeeing_102 : decode cX2_bestSeeing 102 = .ok (.getfield 22, 3) := by decide +kernel
theorem dX2_bestSeeing_105 : decode cX2_bestSeeing 105 = .ok (.aload_n 0, 1) := by decide +kernel
theorem dX2_bestSeeing_106 : decode cX2_bestSeeing 106 = .ok (.getfield 34, 3) := by decide +kernel
theorem dX2_bestSeeing_109 : decode cX2_bestSeeing 109 = .ok (.invokevirtual 38, 3) := by decide +kernel
theorem dX2_bestSeeing_112 : decode cX2_bestSeeing 112 = .ok (.bipush 6, 2) := by decide +kernel
theorem dX2_bestSeeing_114 : decode cX2_bestSeeing 114 = .ok (.imul, 1) := by decide +kernel
theorem dX2_bestSeeing_115 : decode cX2_bestSeeing 115 = .ok (.laload, 1) := by decide +kernel
theorem dX2_bestSeeing_116 : decode cX2_bestSeeing 116 = .ok (.lreturn, 1) := by decide +kernel
theorem dX2_findPlaces_0 : decode cX2_findPlaces 0 = .ok (.aload_n 0, 1) := by decide +kernel
theorem dX2_findPlaces_1 : decode cX2_findPlaces 1 = .ok (.getfield 25, 3) := by decide +kernel
theorem dX2_findPlaces_4 : decode cX2_findPlaces 4 = .ok (.bipush 24, 2) := by decide +kernel
theorem dX2_findPlaces_6 : decode cX2_findPlaces 6 = .ok (.invokestatic 96, 3) := by decide +kernel
theorem dX2_findPlaces_9 : decode cX2_findPlaces 9 = .ok (.aload_n 0, 1) := by decide +kernel
theorem dX2_findPlaces_10 : decode cX2_findPlaces 10 = .ok (.getfield 25, 3) := by decide +kernel
theorem dX2_findPlaces_13 : decode cX2_findPlaces 13 = .ok (.aload_n 0, 1) := by decide +kernel
theorem dX2_findPlaces_14 : decode cX2_findPlaces 14 = .ok (.getfield 34, 3) := by decide +kernel
theorem dX2_findPlaces_17 : decode cX2_findPlaces 17 = .ok (.invokevirtual 38, 3) := by decide +kernel
theorem dX2_findPlaces_20 : decode cX2_findPlaces 20 = .ok (.iconst 0, 1) := by decide +kernel
theorem dX2_findPlaces_21 : decode cX2_findPlaces 21 = .ok (.iastore, 1) := by decide +kernel
theorem dX2_findPlaces_22 : decode cX2_findPlaces 22 = .ok (.iconst 0, 1) := by decide +kernel
theorem dX2_findPlaces_23 : decode cX2_findPlaces 23 = .ok (.istore_n 3, 1) := by decide +kernel
theorem dX2_findPlaces_24 : decode cX2_findPlaces 24 = .ok (.iload_n 3, 1) := by decide +kernel
theorem dX2_findPlaces_25 : decode cX2_findPlaces 25 = .ok (.iload_n 2, 1) := by decide +kernel
theorem dX2_findPlaces_26 : decode cX2_findPlaces 26 = .ok (.iconst 1, 1) := by decide +kernel
theorem dX2_findPlaces_27 : decode cX2_findPlaces 27 = .ok (.isub, 1) := by decide +kernel
theorem dX2_findPlaces_28 : decode cX2_findPlaces 28 = .ok (.if_icmp .ge 45, 3) := by decide +kernel
theorem dX2_findPlaces_31 : decode cX2_findPlaces 31 = .ok (.iconst 0, 1) := by decide +kernel
theorem dX2_findPlaces_32 : decode cX2_findPlaces 32 = .ok (.istore 4, 2) := by decide +kernel
theorem dX2_findPlaces_34 : decode cX2_findPlaces 34 = .ok (.iload 4, 2) := by decide +kernel
theorem dX2_findPlaces_36 : decode cX2_findPlaces 36 = .ok (.sipush 160, 3) := by decide +kernel
theorem dX2_findPlaces_39 : decode cX2_findPlaces 39 = .ok (.if_icmp .ge 28, 3) := by decide +kernel
theorem dX2_findPlaces_42 : decode cX2_findPlaces 42 = .ok (.aload_n 0, 1) := by decide +kernel
theorem dX2_findPlaces_43 : decode cX2_findPlaces 43 = .ok (.getfield 25, 3) := by decide +kernel
theorem dX2_findPlaces_46 : decode cX2_findPlaces 46 = .ok (.iload 4, 2) := by decide +kernel
theorem dX2_findPlaces_48 : decode cX2_findPlaces 48 = .ok (.iaload, 1) := by decide +kernel
theorem dX2_findPlaces_49 : decode cX2_findPlaces 49 = .ok (.iload_n 3, 1) := by decide +kernel
theorem dX2_findPlaces_50 : decode cX2_findPlaces 50 = .ok (.if_icmp .gt 11, 3) := by decide +kernel
theorem dX2_findPlaces_53 : decode cX2_findPlaces 53 = .ok (.aload_n 0, 1) := by decide +kernel
theorem dX2_findPlaces_54 : decode cX2_findPlaces 54 = .ok (.iload_n 1, 1) := by decide +kernel
theorem dX2_findPlaces_55 : decode cX2_findPlaces 55 = .ok (.iload 4, 2) := by decide +kernel
theorem dX2_findPlaces_57 : decode cX2_findPlaces 57 = .ok (.iload_n 3, 1) := by decide +kernel
theorem dX2_findPlaces_58 : decode cX2_findPlaces 58 = .ok (.invokevirtual 99, 3) := by decide +kernel
theorem dX2_findPlaces_61 : decode cX2_findPlaces 61 = .ok (.iinc 4 1, 3) := by decide +kernel
theorem dX2_findPlaces_64 : decode cX2_findPlaces 64 = .ok (.goto (-30), 3) := by decide +kernel
theorem dX2_findPlaces_67 : decode cX2_findPlaces 67 = .ok (.iinc 3 1, 3) := by decide +kernel
theorem dX2_findPlaces_70 : decode cX2_findPlaces 70 = .ok (.goto (-46), 3) := by decide +kernel
theorem dX2_findPlaces_73 : decode cX2_findPlaces 73 = .ok (.return_, 1) := by decide +kernel
theorem dX2_findNext_0 : decode cX2_findNext 0 = .ok (.iconst 0, 1) := by decide +kernel
theorem dX2_findNext_1 : decode cX2_findNext 1 = .ok (.istore 4, 2) := by decide +kernel
theorem dX2_findNext_3 : decode cX2_findNext 3 = .ok (.iload 4, 2) := by decide +kernel
theorem dX2_findNext_5 : decode cX2_findNext 5 = .ok (.bipush 6, 2) := by decide +kernel
theorem dX2_findNext_7 : decode cX2_findNext 7 = .ok (.if_icmp .ge 43, 3) := by decide +kernel
theorem dX2_findNext_10 : decode cX2_findNext 10 = .ok (.aload_n 0, 1) := by decide +kernel
theorem dX2_findNext_11 : decode cX2_findNext 11 = .ok (.getfield 34, 3) := by decide +kernel
theorem dX2_findNext_14 : decode cX2_findNext 14 = .ok (.iload_n 1, 1) := by decide +kernel
theorem dX2_findNext_15 : decode cX2_findNext 15 = .ok (.iload_n 2, 1) := by decide +kernel
theorem dX2_findNext_16 : decode cX2_findNext 16 = .ok (.iload 4, 2) := by decide +kernel
theorem dX2_findNext_18 : decode cX2_findNext 18 = .ok (.iload_n 3, 1) := by decide +kernel
theorem dX2_findNext_19 : decode cX2_findNext 19 = .ok (.invokevirtual 50, 3) := by decide +kernel
theorem dX2_findNext_22 : decode cX2_findNext 22 = .ok (.istore 5, 2) := by decide +kernel
theorem dX2_findNext_24 : decode cX2_findNext 24 = .ok (.aload_n 0, 1) := by decide +kernel
theorem dX2_findNext_25 : decode cX2_findNext 25 = .ok (.getfield 25, 3) := by decide +kernel
theorem dX2_findNext_28 : decode cX2_findNext 28 = .ok (.iload 5, 2) := by decide +kernel
theorem dX2_findNext_30 : decode cX2_findNext 30 = .ok (.aload_n 0, 1) := by decide +kernel
theorem dX2_findNext_31 : decode cX2_findNext 31 = .ok (.getfield 25, 3) := by decide +kernel
theorem dX2_findNext_34 : decode cX2_findNext 34 = .ok (.iload 5, 2) := by decide +kernel
theorem dX2_findNext_36 : decode cX2_findNext 36 = .ok (.iaload, 1) := by decide +kernel
theorem dX2_findNext_37 : decode cX2_findNext 37 = .ok (.iload_n 3, 1) := by decide +kernel
theorem dX2_findNext_38 : decode cX2_findNext 38 = .ok (.iconst 1, 1) := by decide +kernel
theorem dX2_findNext_39 : decode cX2_findNext 39 = .ok (.iadd, 1) := by decide +kernel
theorem dX2_findNext_40 : decode cX2_findNext 40 = .ok (.invokestatic 44, 3) := by decide +kernel
theorem dX2_findNext_43 : decode cX2_findNext 43 = .ok (.iastore, 1) := by decide +kernel
theorem dX2_findNext_44 : decode cX2_findNext 44 = .ok (.iinc 4 1, 3) := by decide +kernel
theorem dX2_findNext_47 : decode cX2_findNext 47 = .ok (.goto (-44), 3) := by decide +kernel
theorem dX2_findNext_50 : decode cX2_findNext 50 = .ok (.return_, 1) := by decide +kernel
theorem dX2_valuePlace_0 : decode cX2_valuePlace 0 = .ok (.iconst 0, 1) := by decide +kernel
theorem dX2_valuePlace_1 : decode cX2_valuePlace 1 = .ok (.istore 5, 2) := by decide +kernel
theorem dX2_valuePlace_3 : decode cX2_valuePlace 3 = .ok (.iload 5, 2) := by decide +kernel
theorem dX2_valuePlace_5 : decode cX2_valuePlace 5 = .ok (.bipush 6, 2) := by decide +kernel
theorem dX2_valuePlace_7 : decode cX2_valuePlace 7 = .ok (.if_icmp .ge 58, 3) := by decide +kernel
theorem dX2_valuePlace_10 : decode cX2_valuePlace 10 = .ok (.aload_n 0, 1) := by decide +kernel
theorem dX2_valuePlace_11 : decode cX2_valuePlace 11 = .ok (.getfield 28, 3) := by decide +kernel
theorem dX2_valuePlace_14 : decode cX2_valuePlace 14 = .ok (.iload 5, 2) := by decide +kernel
theorem dX2_valuePlace_16 : decode cX2_valuePlace 16 = .ok (.aload_n 0, 1) := by decide +kernel
theorem dX2_valuePlace_17 : decode cX2_valuePlace 17 = .ok (.getfield 22, 3) := by decide +kernel
theorem dX2_valuePlace_20 : decode cX2_valuePlace 20 = .ok (.iload_n 2, 1) := by decide +kernel
theorem dX2_valuePlace_21 : decode cX2_valuePlace 21 = .ok (.bipush 6, 2) := by decide +kernel
theorem dX2_valuePlace_23 : decode cX2_valuePlace 23 = .ok (.imul, 1) := by decide +kernel
theorem dX2_valuePlace_24 : decode cX2_valuePlace 24 = .ok (.iload 5, 2) := by decide +kernel
theorem dX2_valuePlace_26 : decode cX2_valuePlace 26 = .ok (.iadd, 1) := by decide +kernel
theorem dX2_valuePlace_27 : decode cX2_valuePlace 27 = .ok (.laload, 1) := by decide +kernel
theorem dX2_valuePlace_28 : decode cX2_valuePlace 28 = .ok (.lastore, 1) := by decide +kernel
theorem dX2_valuePlace_29 : decode cX2_valuePlace 29 = .ok (.aload_n 0, 1) := by decide +kernel
theorem dX2_valuePlace_30 : decode cX2_valuePlace 30 = .ok (.getfield 31, 3) := by decide +kernel
theorem dX2_valuePlace_33 : decode cX2_valuePlace 33 = .ok (.iload 5, 2) := by decide +kernel
theorem dX2_valuePlace_35 : decode cX2_valuePlace 35 = .ok (.aload_n 0, 1) := by decide +kernel
theorem dX2_valuePlace_36 : decode cX2_valuePlace 36 = .ok (.getfield 22, 3) := by decide +kernel
theorem dX2_valuePlace_39 : decode cX2_valuePlace 39 = .ok (.aload_n 0, 1) := by decide +kernel
theorem dX2_valuePlace_40 : decode cX2_valuePlace 40 = .ok (.getfield 34, 3) := by decide +kernel
theorem dX2_valuePlace_43 : decode cX2_valuePlace 43 = .ok (.iload_n 1, 1) := by decide +kernel
theorem dX2_valuePlace_44 : decode cX2_valuePlace 44 = .ok (.iload_n 2, 1) := by decide +kernel
theorem dX2_valuePlace_45 : decode cX2_valuePlace 45 = .ok (.iload 5, 2) := by decide +kernel
theorem dX2_valuePlace_47 : decode cX2_valuePlace 47 = .ok (.iload_n 3, 1) := by decide +kernel
theorem dX2_valuePlace_48 : decode cX2_valuePlace 48 = .ok (.invokevirtual 50, 3) := by decide +kernel
theorem dX2_valuePlace_51 : decode cX2_valuePlace 51 = .ok (.bipush 6, 2) := by decide +kernel
theorem dX2_valuePlace_53 : decode cX2_valuePlace 53 = .ok (.imul, 1) := by decide +kernel
theorem dX2_valuePlace_54 : decode cX2_valuePlace 54 = .ok (.iload 5, 2) := by decide +kernel
theorem dX2_valuePlace_56 : decode cX2_valuePlace 56 = .ok (.iadd, 1) := by decide +kernel
theorem dX2_valuePlace_57 : decode cX2_valuePlace 57 = .ok (.laload, 1) := by decide +kernel
theorem dX2_valuePlace_58 : decode cX2_valuePlace 58 = .ok (.lastore, 1) := by decide +kernel
theorem dX2_valuePlace_59 : decode cX2_valuePlace 59 = .ok (.iinc 5 1, 3) := by decide +kernel
theorem dX2_valuePlace_62 : decode cX2_valuePlace 62 = .ok (.goto (-59), 3) := by decide +kernel
theorem dX2_valuePlace_65 : decode cX2_valuePlace 65 = .ok (.aload_n 0, 1) := by decide +kernel
theorem dX2_valuePlace_66 : decode cX2_valuePlace 66 = .ok (.getfield 34, 3) := by decide +kernel
theorem dX2_valuePlace_69 : decode cX2_valuePlace 69 = .ok (.iload_n 1, 1) := by decide +kernel
theorem dX2_valuePlace_70 : decode cX2_valuePlace 70 = .ok (.invokevirtual 66, 3) := by decide +kernel
theorem dX2_valuePlace_73 : decode cX2_valuePlace 73 = .ok (.istore 5, 2) := by decide +kernel
theorem dX2_valuePlace_75 : decode cX2_valuePlace 75 = .ok (.iconst 0, 1) := by decide +kernel
theorem dX2_valuePlace_76 : decode cX2_valuePlace 76 = .ok (.istore 6, 2) := by decide +kernel
theorem dX2_valuePlace_78 : decode cX2_valuePlace 78 = .ok (.iload 6, 2) := by decide +kernel
theorem dX2_valuePlace_80 : decode cX2_valuePlace 80 = .ok (.bipush 6, 2) := by decide +kernel
theorem dX2_valuePlace_82 : decode cX2_valuePlace 82 = .ok (.if_icmp .ge 55, 3) := by decide +kernel
theorem dX2_valuePlace_85 : decode cX2_valuePlace 85 = .ok (.aload_n 0, 1) := by decide +kernel
theorem dX2_valuePlace_86 : decode cX2_valuePlace 86 = .ok (.getfield 19, 3) := by decide +kernel
theorem dX2_valuePlace_89 : decode cX2_valuePlace 89 = .ok (.iload_n 2, 1) := by decide +kernel
theorem dX2_valuePlace_90 : decode cX2_valuePlace 90 = .ok (.bipush 6, 2) := by decide +kernel
theorem dX2_valuePlace_92 : decode cX2_valuePlace 92 = .ok (.imul, 1) := by decide +kernel
theorem dX2_valuePlace_93 : decode cX2_valuePlace 93 = .ok (.iload 6, 2) := by decide +kernel
theorem dX2_valuePlace_95 : decode cX2_valuePlace 95 = .ok (.iadd, 1) := by decide +kernel
theorem dX2_valuePlace_96 : decode cX2_valuePlace 96 = .ok (.iload 4, 2) := by decide +kernel
theorem dX2_valuePlace_98 : decode cX2_valuePlace 98 = .ok (.i2l, 1) := by decide +kernel
theorem dX2_valuePlace_99 : decode cX2_valuePlace 99 = .ok (.aload_n 0, 1) := by decide +kernel
theorem dX2_valuePlace_100 : decode cX2_valuePlace 100 = .ok (.getfield 28, 3) := by decide +kernel
theorem dX2_valuePlace_103 : decode cX2_valuePlace 103 = .ok (.iload 6, 2) := by decide +kernel
theorem dX2_valuePlace_105 : decode cX2_valuePlace 105 = .ok (.iload 5, 2) := by decide +kernel
theorem dX2_valuePlace_107 : decode cX2_valuePlace 107 = .ok (.invokestatic 102, 3) := by decide +kernel
theorem dX2_valuePlace_110 : decode cX2_valuePlace 110 = .ok (.lmul, 1) := by decide +kernel
theorem dX2_valuePlace_111 : decode cX2_valuePlace 111 = .ok (.bipush 10, 2) := by decide +kernel
theorem dX2_valuePlace_113 : decode cX2_valuePlace 113 = .ok (.iload 4, 2) := by decide +kernel
theorem dX2_valuePlace_115 : decode cX2_valuePlace 115 = .ok (.isub, 1) := by decide +kernel
theorem dX2_valuePlace_116 : decode cX2_valuePlace 116 = .ok (.i2l, 1) := by decide +kernel
theorem dX2_valuePlace_117 : decode cX2_valuePlace 117 = .ok (.aload_n 0, 1) := by decide +kernel
theorem dX2_valuePlace_118 : decode cX2_valuePlace 118 = .ok (.getfield 31, 3) := by decide +kernel
theorem dX2_valuePlace_121 : decode cX2_valuePlace 121 = .ok (.iload 6, 2) := by decide +kernel
theorem dX2_valuePlace_123 : decode cX2_valuePlace 123 = .ok (.iload 5, 2) := by decide +kernel
theorem dX2_valuePlace_125 : decode cX2_valuePlace 125 = .ok (.invokestatic 102, 3) := by decide +kernel
theorem dX2_valuePlace_128 : decode cX2_valuePlace 128 = .ok (.lmul, 1) := by decide +kernel
theorem dX2_valuePlace_129 : decode cX2_valuePlace 129 = .ok (.ladd, 1) := by decide +kernel
theorem dX2_valuePlace_130 : decode cX2_valuePlace 130 = .ok (.lastore, 1) := by decide +kernel
theorem dX2_valuePlace_131 : decode cX2_valuePlace 131 = .ok (.iinc 6 1, 3) := by decide +kernel
theorem dX2_valuePlace_134 : decode cX2_valuePlace 134 = .ok (.goto (-56), 3) := by decide +kernel
theorem dX2_valuePlace_137 : decode cX2_valuePlace 137 = .ok (.return_, 1) := by decide +kernel
theorem dX2_greatest_0 : decode cX2_greatest 0 = .ok (.lconst 0, 1) := by decide +kernel
theorem dX2_greatest_1 : decode cX2_greatest 1 = .ok (.lstore_n 3, 1) := by decide +kernel
theorem dX2_greatest_2 : decode cX2_greatest 2 = .ok (.iconst 5, 1) := by decide +kernel
theorem dX2_greatest_3 : decode cX2_greatest 3 = .ok (.iload_n 1, 1) := by decide +kernel
theorem dX2_greatest_4 : decode cX2_greatest 4 = .ok (.iload_n 2, 1) := by decide +kernel
theorem dX2_greatest_5 : decode cX2_greatest 5 = .ok (.iadd, 1) := by decide +kernel
theorem dX2_greatest_6 : decode cX2_greatest 6 = .ok (.invokestatic 44, 3) := by decide +kernel
theorem dX2_greatest_9 : decode cX2_greatest 9 = .ok (.istore 5, 2) := by decide +kernel
theorem dX2_greatest_11 : decode cX2_greatest 11 = .ok (.iconst 0, 1) := by decide +kernel
theorem dX2_greatest_12 : decode cX2_greatest 12 = .ok (.iload_n 1, 1) := by decide +kernel
theorem dX2_greatest_13 : decode cX2_greatest 13 = .ok (.iload_n 2, 1) := by decide +kernel
theorem dX2_greatest_14 : decode cX2_greatest 14 = .ok (.isub, 1) := by decide +kernel
theorem dX2_greatest_15 : decode cX2_greatest 15 = .ok (.invokestatic 70, 3) := by decide +kernel
theorem dX2_greatest_18 : decode cX2_greatest 18 = .ok (.istore 6, 2) := by decide +kernel
theorem dX2_greatest_20 : decode cX2_greatest 20 = .ok (.iload 6, 2) := by decide +kernel
theorem dX2_greatest_22 : decode cX2_greatest 22 = .ok (.iload 5, 2) := by decide +kernel
theorem dX2_greatest_24 : decode cX2_greatest 24 = .ok (.if_icmp .gt 18, 3) := by decide +kernel
theorem dX2_greatest_27 : decode cX2_greatest 27 = .ok (.lload_n 3, 1) := by decide +kernel
theorem dX2_greatest_28 : decode cX2_greatest 28 = .ok (.aload_n 0, 1) := by decide +kernel
theorem dX2_greatest_29 : decode cX2_greatest 29 = .ok (.iload 6, 2) := by decide +kernel
theorem dX2_greatest_31 : decode cX2_greatest 31 = .ok (.laload, 1) := by decide +kernel
theorem dX2_greatest_32 : decode cX2_greatest 32 = .ok (.invokestatic 77, 3) := by decide +kernel
theorem dX2_greatest_35 : decode cX2_greatest 35 = .ok (.lstore_n 3, 1) := by decide +kernel
theorem dX2_greatest_36 : decode cX2_greatest 36 = .ok (.iinc 6 1, 3) := by decide +kernel
theorem dX2_greatest_39 : decode cX2_greatest 39 = .ok (.goto (-19), 3) := by decide +kernel
theorem dX2_greatest_42 : decode cX2_greatest 42 = .ok (.lload_n 3, 1) := by decide +kernel
theorem dX2_greatest_43 : decode cX2_greatest 43 = .ok (.lreturn, 1) := by decide +kernel
theorem dX2_swap_0 : decode cX2_swap 0 = .ok (.aload_n 0, 1) := by decide +kernel
theorem dX2_swap_1 : decode cX2_swap 1 = .ok (.getfield 19, 3) := by decide +kernel
theorem dX2_swap_4 : decode cX2_swap 4 = .ok (.astore_n 1, 1) := by decide +kernel
theorem dX2_swap_5 : decode cX2_swap 5 = .ok (.aload_n 0, 1) := by decide +kernel
theorem dX2_swap_6 : decode cX2_swap 6 = .ok (.aload_n 0, 1) := by decide +kernel
theorem dX2_swap_7 : decode cX2_swap 7 = .ok (.getfield 22, 3) := by decide +kernel
theorem dX2_swap_10 : decode cX2_swap 10 = .ok (.putfield 19, 3) := by decide +kernel
theorem dX2_swap_13 : decode cX2_swap 13 = .ok (.aload_n 0, 1) := by decide +kernel
theorem dX2_swap_14 : decode cX2_swap 14 = .ok (.aload_n 1, 1) := by decide +kernel
theorem dX2_swap_15 : decode cX2_swap 15 = .ok (.putfield 22, 3) := by decide +kernel
theorem dX2_swap_18 : decode cX2_swap 18 = .ok (.return_, 1) := by decide +kernel
theorem dX3_init_0 : decode cX3_init 0 = .ok (.aload_n 0, 1) := by decide +kernel
theorem dX3_init_1 : decode cX3_init 1 = .ok (.invokespecial 5, 3) := by decide +kernel
theorem dX3_init_4 : decode cX3_init 4 = .ok (.aload_n 0, 1) := by decide +kernel
theorem dX3_init_5 : decode cX3_init 5 = .ok (.bipush 112, 2) := by decide +kernel
theorem dX3_init_7 : decode cX3_init 7 = .ok (.newarray .int, 2) := by decide +kernel
theorem dX3_init_9 : decode cX3_init 9 = .ok (.putfield 11, 3) := by decide +kernel
theorem dX3_init_12 : decode cX3_init 12 = .ok (.aload_n 0, 1) := by decide +kernel
theorem dX3_init_13 : decode cX3_init 13 = .ok (.bipush 112, 2) := by decide +kernel
theorem dX3_init_15 : decode cX3_init 15 = .ok (.newarray .int, 2) := by decide +kernel
theorem dX3_init_17 : decode cX3_init 17 = .ok (.putfield 15, 3) := by decide +kernel
theorem dX3_init_20 : decode cX3_init 20 = .ok (.aload_n 0, 1) := by decide +kernel
theorem dX3_init_21 : decode cX3_init 21 = .ok (.bipush 112, 2) := by decide +kernel
theorem dX3_init_23 : decode cX3_init 23 = .ok (.newarray .long, 2) := by decide +kernel
theorem dX3_init_25 : decode cX3_init 25 = .ok (.putfield 18, 3) := by decide +kernel
theorem dX3_init_28 : decode cX3_init 28 = .ok (.aload_n 0, 1) := by decide +kernel
theorem dX3_init_29 : decode cX3_init 29 = .ok (.new 22, 3) := by decide +kernel
theorem dX3_init_32 : decode cX3_init 32 = .ok (.dup, 1) := by decide +kernel
theorem dX3_init_33 : decode cX3_init 33 = .ok (.invokespecial 24, 3) := by decide +kernel
theorem dX3_init_36 : decode cX3_init 36 = .ok (.putfield 25, 3) := by decide +kernel
theorem dX3_init_39 : decode cX3_init 39 = .ok (.aload_n 0, 1) := by decide +kernel
theorem dX3_init_40 : decode cX3_init 40 = .ok (.new 22, 3) := by decide +kernel
theorem dX3_init_43 : decode cX3_init 43 = .ok (.dup, 1) := by decide +kernel
theorem dX3_init_44 : decode cX3_init 44 = .ok (.invokespecial 24, 3) := by decide +kernel
theorem dX3_init_47 : decode cX3_init 47 = .ok (.putfield 29, 3) := by decide +kernel
theorem dX3_init_50 : decode cX3_init 50 = .ok (.aload_n 0, 1) := by decide +kernel
theorem dX3_init_51 : decode cX3_init 51 = .ok (.sipush 966, 3) := by decide +kernel
theorem dX3_init_54 : decode cX3_init 54 = .ok (.newarray .int, 2) := by decide +kernel
theorem dX3_init_56 : decode cX3_init 56 = .ok (.putfield 32, 3) := by decide +kernel
theorem dX3_init_59 : decode cX3_init 59 = .ok (.aload_n 0, 1) := by decide +kernel
theorem dX3_init_60 : decode cX3_init 60 = .ok (.sipush 966, 3) := by decide +kernel
theorem dX3_init_63 : decode cX3_init 63 = .ok (.newarray .long, 2) := by decide +kernel
theorem dX3_init_65 : decode cX3_init 65 = .ok (.putfield 35, 3) := by decide +kernel
theorem dX3_init_68 : decode cX3_init 68 = .ok (.aload_n 0, 1) := by decide +kernel
theorem dX3_init_69 : decode cX3_init 69 = .ok (.sipush 966, 3) := by decide +kernel
theorem dX3_init_72 : decode cX3_init 72 = .ok (.newarray .int, 2) := by decide +kernel
theorem dX3_init_74 : decode cX3_init 74 = .ok (.putfield 38, 3) := by decide +kernel
theorem dX3_init_77 : decode cX3_init 77 = .ok (.aload_n 0, 1) := by decide +kernel
theorem dX3_init_78 : decode cX3_init 78 = .ok (.sipush 966, 3) := by decide +kernel
theorem dX3_init_81 : decode cX3_init 81 = .ok (.newarray .long, 2) := by decide +kernel
theorem dX3_init_83 : decode cX3_init 83 = .ok (.putfield 41, 3) := by decide +kernel
theorem dX3_init_86 : decode cX3_init 86 = .ok (.aload_n 0, 1) := by decide +kernel
theorem dX3_init_87 : decode cX3_init 87 = .ok (.aload_n 1, 1) := by decide +kernel
theorem dX3_init_88 : decode cX3_init 88 = .ok (.putfield 44, 3) := by decide +kernel
theorem dX3_init_91 : decode cX3_init 91 = .ok (.aload_n 0, 1) := by decide +kernel
theorem dX3_init_92 : decode cX3_init 92 = .ok (.getfield 11, 3) := by decide +kernel
theorem dX3_init_95 : decode cX3_init 95 = .ok (.bipush (-2), 2) := by decide +kernel
theorem dX3_init_97 : decode cX3_init 97 = .ok (.invokestatic 48, 3) := by decide +kernel
theorem dX3_init_100 : decode cX3_init 100 = .ok (.return_, 1) := by decide +kernel
theorem dX3_forget_0 : decode cX3_forget 0 = .ok (.aload_n 0, 1) := by decide +kernel
theorem dX3_forget_1 : decode cX3_forget 1 = .ok (.getfield 11, 3) := by decide +kernel
theorem dX3_forget_4 : decode cX3_forget 4 = .ok (.bipush (-2), 2) := by decide +kernel
theorem dX3_forget_6 : decode cX3_forget 6 = .ok (.invokestatic 48, 3) := by decide +kernel
theorem dX3_forget_9 : decode cX3_forget 9 = .ok (.return_, 1) := by decide +kernel
theorem dX3_soonestOf_0 : decode cX3_soonestOf 0 = .ok (.iload_n 1, 1) := by decide +kernel
theorem dX3_soonestOf_1 : decode cX3_soonestOf 1 = .ok (.bipush 24, 2) := by decide +kernel
theorem dX3_soonestOf_3 : decode cX3_soonestOf 3 = .ok (.imul, 1) := by decide +kernel
theorem dX3_soonestOf_4 : decode cX3_soonestOf 4 = .ok (.iload_n 2, 1) := by decide +kernel
theorem dX3_soonestOf_5 : decode cX3_soonestOf 5 = .ok (.iadd, 1) := by decide +kernel
theorem dX3_soonestOf_6 : decode cX3_soonestOf 6 = .ok (.istore_n 3, 1) := by decide +kernel
theorem dX3_soonestOf_7 : decode cX3_soonestOf 7 = .ok (.aload_n 0, 1) := by decide +kernel
theorem dX3_soonestOf_8 : decode cX3_soonestOf 8 = .ok (.getfield 11, 3) := by decide +kernel
theorem dX3_soonestOf_11 : decode cX3_soonestOf 11 = .ok (.iload_n 3, 1) := by decide +kernel
theorem dX3_soonestOf_12 : decode cX3_soonestOf 12 = .ok (.iaload, 1) := by decide +kernel
theorem dX3_soonestOf_13 : decode cX3_soonestOf 13 = .ok (.bipush (-2), 2) := by decide +kernel
theorem dX3_soonestOf_15 : decode cX3_soonestOf 15 = .ok (.if_icmp .ne 14, 3) := by decide +kernel
theorem dX3_soonestOf_18 : decode cX3_soonestOf 18 = .ok (.aload_n 0, 1) := by decide +kernel
theorem dX3_soonestOf_19 : decode cX3_soonestOf 19 = .ok (.iload_n 3, 1) := by decide +kernel
theorem dX3_soonestOf_20 : decode cX3_soonestOf 20 = .ok (.iload_n 1, 1) := by decide +kernel
theorem dX3_soonestOf_21 : decode cX3_soonestOf 21 = .ok (.iload_n 2, 1) := by decide +kernel
theorem dX3_soonestOf_22 : decode cX3_soonestOf 22 = .ok (.aload_n 0, 1) := by decide +kernel
theorem dX3_soonestOf_23 : decode cX3_soonestOf 23 = .ok (.getfield 25, 3) := by decide +kernel
theorem dX3_soonestOf_26 : decode cX3_soonestOf 26 = .ok (.invokevirtual 54, 3) := by decide +kernel
theorem dX3_soonestOf_29 : decode cX3_soonestOf 29 = .ok (.iload_n 3, 1) := by decide +kernel
theorem dX3_soonestOf_30 : decode cX3_soonestOf 30 = .ok (.ireturn, 1) := by decide +kernel
theorem dX3_clearOf_0 : decode cX3_clearOf 0 = .ok (.bipush 96, 2) := by decide +kernel
theorem dX3_clearOf_2 : decode cX3_clearOf 2 = .ok (.iload_n 1, 1) := by decide +kernel
theorem dX3_clearOf_3 : decode cX3_clearOf 3 = .ok (.iconst 4, 1) := by decide +kernel
theorem dX3_clearOf_4 : decode cX3_clearOf 4 = .ok (.imul, 1) := by decide +kernel
theorem dX3_clearOf_5 : decode cX3_clearOf 5 = .ok (.iadd, 1) := by decide +kernel
theorem dX3_clearOf_6 : decode cX3_clearOf 6 = .ok (.iload_n 2, 1) := by decide +kernel
theorem dX3_clearOf_7 : decode cX3_clearOf 7 = .ok (.iadd, 1) := by decide +kernel
theorem dX3_clearOf_8 : decode cX3_clearOf 8 = .ok (.istore 4, 2) := by decide +kernel
theorem dX3_clearOf_10 : decode cX3_clearOf 10 = .ok (.aload_n 0, 1) := by decide +kernel
theorem dX3_clearOf_11 : decode cX3_clearOf 11 = .ok (.getfield 11, 3) := by decide +kernel
theorem dX3_clearOf_14 : decode cX3_clearOf 14 = .ok (.iload 4, 2) := by decide +kernel
theorem dX3_clearOf_16 : decode cX3_clearOf 16 = .ok (.iaload, 1) := by decide +kernel
theorem dX3_clearOf_17 : decode cX3_clearOf 17 = .ok (.bipush (-2), 2) := by decide +kernel
theorem dX3_clearOf_19 : decode cX3_clearOf 19 = .ok (.if_icmp .ne 21, 3) := by decide +kernel
theorem dX3_clearOf_22 : decode cX3_clearOf 22 = .ok (.aload_n 0, 1) := by decide +kernel
theorem dX3_clearOf_23 : decode cX3_clearOf 23 = .ok (.iload_n 2, 1) := by decide +kernel
theorem dX3_clearOf_24 : decode cX3_clearOf 24 = .ok (.iload_n 3, 1) := by decide +kernel
theorem dX3_clearOf_25 : decode cX3_clearOf 25 = .ok (.invokevirtual 58, 3) := by decide +kernel
theorem dX3_clearOf_28 : decode cX3_clearOf 28 = .ok (.aload_n 0, 1) := by decide +kernel
theorem dX3_clearOf_29 : decode cX3_clearOf 29 = .ok (.iload 4, 2) := by decide +kernel
theorem dX3_clearOf_31 : decode cX3_clearOf 31 = .ok (.iload_n 1, 1) := by decide +kernel
theorem dX3_clearOf_32 : decode cX3_clearOf 32 = .ok (.iconst 1, 1) := by decide +kernel
theorem dX3_clearOf_33 : decode cX3_clearOf 33 = .ok (.aload_n 0, 1) := by decide +kernel
theorem dX3_clearOf_34 : decode cX3_clearOf 34 = .ok (.getfield 29, 3) := by decide +kernel
theorem dX3_clearOf_37 : decode cX3_clearOf 37 = .ok (.invokevirtual 54, 3) := by decide +kernel
theorem dX3_clearOf_40 : decode cX3_clearOf 40 = .ok (.iload 4, 2) := by decide +kernel
theorem dX3_clearOf_42 : decode cX3_clearOf 42 = .ok (.ireturn, 1) := by decide +kernel
theorem dX3_answerOf_0 : decode cX3_answerOf 0 = .ok (.aload_n 0, 1) := by decide +kernel
theorem dX3_answerOf_1 : decode cX3_answerOf 1 = .ok (.getfield 11, 3) := by decide +kernel
theorem dX3_answerOf_4 : decode cX3_answerOf 4 = .ok (.iload_n 1, 1) := by decide +kernel
theorem dX3_answerOf_5 : decode cX3_answerOf 5 = .ok (.iaload, 1) := by decide +kernel
theorem dX3_answerOf_6 : decode cX3_answerOf 6 = .ok (.istore_n 3, 1) := by decide +kernel
theorem dX3_answerOf_7 : decode cX3_answerOf 7 = .ok (.iload_n 3, 1) := by decide +kernel
theorem dX3_answerOf_8 : decode cX3_answerOf 8 = .ok (.iconst (-1), 1) := by decide +kernel
theorem dX3_answerOf_9 : decode cX3_answerOf 9 = .ok (.if_icmp .eq 8, 3) := by decide +kernel
theorem dX3_answerOf_12 : decode cX3_answerOf 12 = .ok (.iload_n 2, 1) := by decide +kernel
theorem dX3_answerOf_13 : decode cX3_answerOf 13 = .ok (.iload_n 3, 1) := by decide +kernel
theorem dX3_answerOf_14 : decode cX3_answerOf 14 = .ok (.if_icmp .lt 5, 3) := by decide +kernel
theorem dX3_answerOf_17 : decode cX3_answerOf 17 = .ok (.iconst (-1), 1) := by decide +kernel
theorem dX3_answerOf_18 : decode cX3_answerOf 18 = .ok (.ireturn, 1) := by decide +kernel
theorem dX3_answerOf_19 : decode cX3_answerOf 19 = .ok (.iload_n 2, 1) := by decide +kernel
theorem dX3_answerOf_20 : decode cX3_answerOf 20 = .ok (.ifCond .ge 19, 3) := by decide +kernel
theorem dX3_answerOf_23 : decode cX3_answerOf 23 = .ok (.iload_n 2, 1) := by decide +kernel
theorem dX3_answerOf_24 : decode cX3_answerOf 24 = .ok (.iconst (-1), 1) := by decide +kernel
theorem dX3_answerOf_25 : decode cX3_answerOf 25 = .ok (.if_icmp .ne 12, 3) := by decide +kernel
theorem dX3_answerOf_28 : decode cX3_answerOf 28 = .ok (.aload_n 0, 1) := by decide +kernel
theorem dX3_answerOf_29 : decode cX3_answerOf 29 = .ok (.getfield 15, 3) := by decide +kernel
theorem dX3_answerOf_32 : decode cX3_answerOf 32 = .ok (.iload_n 1, 1) := by decide +kernel
theorem dX3_answerOf_33 : decode cX3_answerOf 33 = .ok (.iaload, 1) := by decide +kernel
theorem dX3_answerOf_34 : decode cX3_answerOf 34 = .ok (.goto 4, 3) := by decide +kernel
theorem dX3_answerOf_37 : decode cX3_answerOf 37 = .ok (.iload_n 3, 1) := by decide +kernel
theorem dX3_answerOf_38 : decode cX3_answerOf 38 = .ok (.ireturn, 1) := by decide +kernel
theorem dX3_answerOf_39 : decode cX3_answerOf 39 = .ok (.aload_n 0, 1) := by decide +kernel
theorem dX3_answerOf_40 : decode cX3_answerOf 40 = .ok (.iload_n 1, 1) := by decide +kernel
theorem dX3_answerOf_41 : decode cX3_answerOf 41 = .ok (.iload_n 2, 1) := by decide +kernel
theorem dX3_answerOf_42 : decode cX3_answerOf 42 = .ok (.invokevirtual 62, 3) := by decide +kernel
theorem dX3_answerOf_45 : decode cX3_answerOf 45 = .ok (.ireturn, 1) := by decide +kernel
theorem dX3_layerKept_0 : decode cX3_layerKept 0 = .ok (.aload_n 0, 1) := by decide +kernel
theorem dX3_layerKept_1 : decode cX3_layerKept 1 = .ok (.getfield 11, 3) := by decide +kernel
theorem dX3_layerKept_4 : decode cX3_layerKept 4 = .ok (.iload_n 1, 1) := by decide +kernel
theorem dX3_layerKept_5 : decode cX3_layerKept 5 = .ok (.iaload, 1) := by decide +kernel
theorem dX3_layerKept_6 : decode cX3_layerKept 6 = .ok (.istore_n 3, 1) := by decide +kernel
theorem dX3_layerKept_7 : decode cX3_layerKept 7 = .ok (.iload_n 3, 1) := by decide +kernel
theorem dX3_layerKept_8 : decode cX3_layerKept 8 = .ok (.iconst 1, 1) := by decide +kernel
theorem dX3_layerKept_9 : decode cX3_layerKept 9 = .ok (.if_icmp .ge 7, 3) := by decide +kernel
theorem dX3_layerKept_12 : decode cX3_layerKept 12 = .ok (.iconst 0, 1) := by decide +kernel
theorem dX3_layerKept_13 : decode cX3_layerKept 13 = .ok (.goto 15, 3) := by decide +kernel
theorem dX3_layerKept_16 : decode cX3_layerKept 16 = .ok (.aload_n 0, 1) := by decide +kernel
theorem dX3_layerKept_17 : decode cX3_layerKept 17 = .ok (.iload_n 1, 1) := by decide +kernel
theorem dX3_layerKept_18 : decode cX3_layerKept 18 = .ok (.iload_n 2, 1) := by decide +kernel
theorem dX3_layerKept_19 : decode cX3_layerKept 19 = .ok (.iload_n 3, 1) := by decide +kernel
theorem dX3_layerKept_20 : decode cX3_layerKept 20 = .ok (.iconst 1, 1) := by decide +kernel
theorem dX3_layerKept_21 : decode cX3_layerKept 21 = .ok (.isub, 1) := by decide +kernel
theorem dX3_layerKept_22 : decode cX3_layerKept 22 = .ok (.invokestatic 66, 3) := by decide +kernel
theorem dX3_layerKept_25 : decode cX3_layerKept 25 = .ok (.invokevirtual 62, 3) := by decide +kernel
theorem dX3_layerKept_28 : decode cX3_layerKept 28 = .ok (.ireturn, 1) := by decide +kernel
theorem dX3_hourIn_0 : decode cX3_hourIn 0 = .ok (.aload_n 0, 1) := by decide +kernel
theorem dX3_hourIn_1 : decode cX3_hourIn 1 = .ok (.iload_n 1, 1) := by decide +kernel
theorem dX3_hourIn_2 : decode cX3_hourIn 2 = .ok (.iload_n 2, 1) := by decide +kernel
theorem dX3_hourIn_3 : decode cX3_hourIn 3 = .ok (.invokevirtual 58, 3) := by decide +kernel
theorem dX3_hourIn_6 : decode cX3_hourIn 6 = .ok (.iconst 0, 1) := by decide +kernel
theorem dX3_hourIn_7 : decode cX3_hourIn 7 = .ok (.istore 5, 2) := by decide +kernel
theorem dX3_hourIn_9 : decode cX3_hourIn 9 = .ok (.iload 5, 2) := by decide +kernel
theorem dX3_hourIn_11 : decode cX3_hourIn 11 = .ok (.bipush 24, 2) := by decide +kernel
theorem dX3_hourIn_13 : decode cX3_hourIn 13 = .ok (.if_icmp .ge 56, 3) := by decide +kernel
theorem dX3_hourIn_16 : decode cX3_hourIn 16 = .ok (.aload_n 0, 1) := by decide +kernel
theorem dX3_hourIn_17 : decode cX3_hourIn 17 = .ok (.getfield 29, 3) := by decide +kernel
theorem dX3_hourIn_20 : decode cX3_hourIn 20 = .ok (.getfield 71, 3) := by decide +kernel
theorem dX3_hourIn_23 : decode cX3_hourIn 23 = .ok (.iload 5, 2) := by decide +kernel
theorem dX3_hourIn_25 : decode cX3_hourIn 25 = .ok (.iaload, 1) := by decide +kernel
theorem dX3_hourIn_26 : decode cX3_hourIn 26 = .ok (.istore 6, 2) := by decide +kernel
theorem dX3_hourIn_28 : decode cX3_hourIn 28 = .ok (.iload 6, 2) := by decide +kernel
theorem dX3_hourIn_30 : decode cX3_hourIn 30 = .ok (.sipush 160, 3) := by decide +kernel
theorem dX3_hourIn_33 : decode cX3_hourIn 33 = .ok (.if_icmp .eq 30, 3) := by decide +kernel
theorem dX3_hourIn_36 : decode cX3_hourIn 36 = .ok (.iload 6, 2) := by decide +kernel
theorem dX3_hourIn_38 : decode cX3_hourIn 38 = .ok (.bipush 20, 2) := by decide +kernel
theorem dX3_hourIn_40 : decode cX3_hourIn 40 = .ok (.idiv, 1) := by decide +kernel
theorem dX3_hourIn_41 : decode cX3_hourIn 41 = .ok (.iload_n 3, 1) := by decide +kernel
theorem dX3_hourIn_42 : decode cX3_hourIn 42 = .ok (.if_icmp .ne 21, 3) := by decide +kernel
theorem dX3_hourIn_45 : decode cX3_hourIn 45 = .ok (.aload_n 0, 1) := by decide +kernel
theorem dX3_hourIn_46 : decode cX3_hourIn 46 = .ok (.getfield 29, 3) := by decide +kernel
theorem dX3_hourIn_49 : decode cX3_hourIn 49 = .ok (.getfield 74, 3) := by decide +kernel
theorem dX3_hourIn_52 : decode cX3_hourIn 52 = .ok (.iload 5, 2) := by decide +kernel
theorem dX3_hourIn_54 : decode cX3_hourIn 54 = .ok (.iaload, 1) := by decide +kernel
theorem dX3_hourIn_55 : decode cX3_hourIn 55 = .ok (.iload 4, 2) := by decide +kernel
theorem dX3_hourIn_57 : decode cX3_hourIn 57 = .ok (.if_icmp .ne 6, 3) := by decide +kernel
theorem dX3_hourIn_60 : decode cX3_hourIn 60 = .ok (.iload 5, 2) := by decide +kernel
theorem dX3_hourIn_62 : decode cX3_hourIn 62 = .ok (.ireturn, 1) := by decide +kernel
theorem dX3_hourIn_63 : decode cX3_hourIn 63 = .ok (.iinc 5 1, 3) := by decide +kernel
theorem dX3_hourIn_66 : decode cX3_hourIn 66 = .ok (.goto (-57), 3) := by decide +kernel
theorem dX3_hourIn_69 : decode cX3_hourIn 69 = .ok (.iconst (-1), 1) := by decide +kernel
theorem dX3_hourIn_70 : decode cX3_hourIn 70 = .ok (.ireturn, 1) := by decide +kernel
theorem dX3_layerIn_0 : decode cX3_layerIn 0 = .ok (.aload_n 0, 1) := by decide +kernel
theorem dX3_layerIn_1 : decode cX3_layerIn 1 = .ok (.getfield 18, 3) := by decide +kernel
theorem dX3_layerIn_4 : decode cX3_layerIn 4 = .ok (.iload_n 1, 1) := by decide +kernel
theorem dX3_layerIn_5 : decode cX3_layerIn 5 = .ok (.laload, 1) := by decide +kernel
theorem dX3_layerIn_6 : decode cX3_layerIn 6 = .ok (.lstore_n 3, 1) := by decide +kernel
theorem dX3_layerIn_7 : decode cX3_layerIn 7 = .ok (.aload_n 0, 1) := by decide +kernel
theorem dX3_layerIn_8 : decode cX3_layerIn 8 = .ok (.getfield 11, 3) := by decide +kernel
theorem dX3_layerIn_11 : decode cX3_layerIn 11 = .ok (.iload_n 1, 1) := by decide +kernel
theorem dX3_layerIn_12 : decode cX3_layerIn 12 = .ok (.iaload, 1) := by decide +kernel
theorem dX3_layerIn_13 : decode cX3_layerIn 13 = .ok (.iconst 1, 1) := by decide +kernel
theorem dX3_layerIn_14 : decode cX3_layerIn 14 = .ok (.isub, 1) := by decide +kernel
theorem dX3_layerIn_15 : decode cX3_layerIn 15 = .ok (.istore 5, 2) := by decide +kernel
theorem dX3_layerIn_17 : decode cX3_layerIn 17 = .ok (.iload 5, 2) := by decide +kernel
theorem dX3_layerIn_19 : decode cX3_layerIn 19 = .ok (.iload_n 2, 1) := by decide +kernel
theorem dX3_layerIn_20 : decode cX3_layerIn 20 = .ok (.if_icmp .le 15, 3) := by decide +kernel
theorem dX3_layerIn_23 : decode cX3_layerIn 23 = .ok (.lload_n 3, 1) := by decide +kernel
theorem dX3_layerIn_24 : decode cX3_layerIn 24 = .ok (.ldc2_w 77, 3) := by decide +kernel
theorem dX3_layerIn_27 : decode cX3_layerIn 27 = .ok (.ldiv, 1) := by decide +kernel
theorem dX3_layerIn_28 : decode cX3_layerIn 28 = .ok (.lstore_n 3, 1) := by decide +kernel
theorem dX3_layerIn_29 : decode cX3_layerIn 29 = .ok (.iinc 5 (-1), 3) := by decide +kernel
theorem dX3_layerIn_32 : decode cX3_layerIn 32 = .ok (.goto (-15), 3) := by decide +kernel
theorem dX3_layerIn_35 : decode cX3_layerIn 35 = .ok (.lload_n 3, 1) := by decide +kernel
theorem dX3_layerIn_36 : decode cX3_layerIn 36 = .ok (.ldc2_w 77, 3) := by decide +kernel
theorem dX3_layerIn_39 : decode cX3_layerIn 39 = .ok (.lrem, 1) := by decide +kernel
theorem dX3_layerIn_40 : decode cX3_layerIn 40 = .ok (.l2i, 1) := by decide +kernel
theorem dX3_layerIn_41 : decode cX3_layerIn 41 = .ok (.ireturn, 1) := by decide +kernel
theorem dX3_draw_0 : decode cX3_draw 0 = .ok (.aload_n 0, 1) := by decide +kernel
theorem dX3_draw_1 : decode cX3_draw 1 = .ok (.getfield 44, 3) := by decide +kernel
theorem dX3_draw_4 : decode cX3_draw 4 = .ok (.invokevirtual 79, 3) := by decide +kernel
theorem dX3_draw_7 : decode cX3_draw 7 = .ok (.istore_n 3, 1) := by decide +kernel
theorem dX3_draw_8 : decode cX3_draw 8 = .ok (.iconst 0, 1) := by decide +kernel
theorem dX3_draw_9 : decode cX3_draw 9 = .ok (.istore 4, 2) := by decide +kernel
theorem dX3_draw_11 : decode cX3_draw 11 = .ok (.iload 4, 2) := by decide +kernel
theorem dX3_draw_13 : decode cX3_draw 13 = .ok (.bipush 24, 2) := by decide +kernel
theorem dX3_draw_15 : decode cX3_draw 15 = .ok (.if_icmp .ge 86, 3) := by decide +kernel
theorem dX3_draw_18 : decode cX3_draw 18 = .ok (.iload 4, 2) := by decide +kernel
theorem dX3_draw_20 : decode cX3_draw 20 = .ok (.aload_n 0, 1) := by decide +kernel
theorem dX3_draw_21 : decode cX3_draw 21 = .ok (.getfield 11, 3) := by decide +kernel
theorem dX3_draw_24 : decode cX3_draw 24 = .ok (.iload_n 2, 1) := by decide +kernel
theorem dX3_draw_25 : decode cX3_draw 25 = .ok (.iaload, 1) := by decide +kernel
theorem dX3_draw_26 : decode cX3_draw 26 = .ok (.if_icmp .ge 56, 3) := by decide +kernel
theorem dX3_draw_29 : decode cX3_draw 29 = .ok (.aload_n 0, 1) := by decide +kernel
theorem dX3_draw_30 : decode cX3_draw 30 = .ok (.getfield 29, 3) := by decide +kernel
theorem dX3_draw_33 : decode cX3_draw 33 = .ok (.getfield 74, 3) := by decide +kernel
theorem dX3_draw_36 : decode cX3_draw 36 = .ok (.iload 4, 2) := by decide +kernel
theorem dX3_draw_38 : decode cX3_draw 38 = .ok (.aload_n 0, 1) := by decide +kernel
theorem dX3_draw_39 : decode cX3_draw 39 = .ok (.iload_n 2, 1) := by decide +kernel
theorem dX3_draw_40 : decode cX3_draw 40 = .ok (.iload 4, 2) := by decide +kernel
theorem dX3_draw_42 : decode cX3_draw 42 = .ok (.invokevirtual 62, 3) := by decide +kernel
theorem dX3_draw_45 : decode cX3_draw 45 = .ok (.iastore, 1) := by decide +kernel
theorem dX3_draw_46 : decode cX3_draw 46 = .ok (.aload_n 0, 1) := by decide +kernel
theorem dX3_draw_47 : decode cX3_draw 47 = .ok (.getfield 44, 3) := by decide +kernel
theorem dX3_draw_50 : decode cX3_draw 50 = .ok (.iload_n 1, 1) := by decide +kernel
theorem dX3_draw_51 : decode cX3_draw 51 = .ok (.iload_n 3, 1) := by decide +kernel
theorem dX3_draw_52 : decode cX3_draw 52 = .ok (.aload_n 0, 1) := by decide +kernel
theorem dX3_draw_53 : decode cX3_draw 53 = .ok (.getfield 29, 3) := by decide +kernel
theorem dX3_draw_56 : decode cX3_draw 56 = .ok (.getfield 74, 3) := by decide +kernel
theorem dX3_draw_59 : decode cX3_draw 59 = .ok (.iload 4, 2) := by decide +kernel
theorem dX3_draw_61 : decode cX3_draw 61 = .ok (.iaload, 1) := by decide +kernel
theorem dX3_draw_62 : decode cX3_draw 62 = .ok (.iload 4, 2) := by decide +kernel
theorem dX3_draw_64 : decode cX3_draw 64 = .ok (.invokevirtual 85, 3) := by decide +kernel
theorem dX3_draw_67 : decode cX3_draw 67 = .ok (.istore_n 3, 1) := by decide +kernel
theorem dX3_draw_68 : decode cX3_draw 68 = .ok (.aload_n 0, 1) := by decide +kernel
theorem dX3_draw_69 : decode cX3_draw 69 = .ok (.getfield 29, 3) := by decide +kernel
theorem dX3_draw_72 : decode cX3_draw 72 = .ok (.getfield 71, 3) := by decide +kernel
theorem dX3_draw_75 : decode cX3_draw 75 = .ok (.iload 4, 2) := by decide +kernel
theorem dX3_draw_77 : decode cX3_draw 77 = .ok (.iload_n 3, 1) := by decide +kernel
theorem dX3_draw_78 : decode cX3_draw 78 = .ok (.iastore, 1) := by decide +kernel
theorem dX3_draw_79 : decode cX3_draw 79 = .ok (.goto 16, 3) := by decide +kernel
theorem dX3_draw_82 : decode cX3_draw 82 = .ok (.aload_n 0, 1) := by decide +kernel
theorem dX3_draw_83 : decode cX3_draw 83 = .ok (.getfield 29, 3) := by decide +kernel
theorem dX3_draw_86 : decode cX3_draw 86 = .ok (.getfield 71, 3) := by decide +kernel
theorem dX3_draw_89 : decode cX3_draw 89 = .ok (.iload 4, 2) := by decide +kernel
theorem dX3_draw_91 : decode cX3_draw 91 = .ok (.sipush 160, 3) := by decide +kernel
theorem dX3_draw_94 : decode cX3_draw 94 = .ok (.iastore, 1) := by decide +kernel
theorem dX3_draw_95 : decode cX3_draw 95 = .ok (.iinc 4 1, 3) := by decide +kernel
theorem dX3_draw_98 : decode cX3_draw 98 = .ok (.goto (-87), 3) := by decide +kernel
theorem dX3_draw_101 : decode cX3_draw 101 = .ok (.return_, 1) := by decide +kernel
theorem dX3_search_0 : decode cX3_search 0 = .ok (.aload_n 0, 1) := by decide +kernel
theorem dX3_search_1 : decode cX3_search 1 = .ok (.getfield 32, 3) := by decide +kernel
theorem dX3_search_4 : decode cX3_search 4 = .ok (.iconst (-1), 1) := by decide +kernel
theorem dX3_search_5 : decode cX3_search 5 = .ok (.invokestatic 48, 3) := by decide +kernel
theorem dX3_search_8 : decode cX3_search 8 = .ok (.aload_n 0, 1) := by decide +kernel
theorem dX3_search_9 : decode cX3_search 9 = .ok (.getfield 32, 3) := by decide +kernel
theorem dX3_search_12 : decode cX3_search 12 = .ok (.aload_n 0, 1) := by decide +kernel
theorem dX3_search_13 : decode cX3_search 13 = .ok (.getfield 44, 3) := by decide +kernel
theorem dX3_search_16 : decode cX3_search 16 = .ok (.invokevirtual 79, 3) := by decide +kernel
theorem dX3_search_19 : decode cX3_search 19 = .ok (.bipush 6, 2) := by decide +kernel
theorem dX3_search_21 : decode cX3_search 21 = .ok (.imul, 1) := by decide +kernel
theorem dX3_search_22 : decode cX3_search 22 = .ok (.iconst 0, 1) := by decide +kernel
theorem dX3_search_23 : decode cX3_search 23 = .ok (.iastore, 1) := by decide +kernel
theorem dX3_search_24 : decode cX3_search 24 = .ok (.aload_n 0, 1) := by decide +kernel
theorem dX3_search_25 : decode cX3_search 25 = .ok (.getfield 35, 3) := by decide +kernel
theorem dX3_search_28 : decode cX3_search 28 = .ok (.aload_n 0, 1) := by decide +kernel
theorem dX3_search_29 : decode cX3_search 29 = .ok (.getfield 44, 3) := by decide +kernel
theorem dX3_search_32 : decode cX3_search 32 = .ok (.invokevirtual 79, 3) := by decide +kernel
theorem dX3_search_35 : decode cX3_search 35 = .ok (.bipush 6, 2) := by decide +kernel
theorem dX3_search_37 : decode cX3_search 37 = .ok (.imul, 1) := by decide +kernel
theorem dX3_search_38 : decode cX3_search 38 = .ok (.lconst 0, 1) := by decide +kernel
theorem dX3_search_39 : decode cX3_search 39 = .ok (.lastore, 1) := by decide +kernel
theorem dX3_search_40 : decode cX3_search 40 = .ok (.aload_n 0, 1) := by decide +kernel
theorem dX3_search_41 : decode cX3_search 41 = .ok (.iload_n 1, 1) := by decide +kernel
theorem dX3_search_42 : decode cX3_search 42 = .ok (.iconst 0, 1) := by decide +kernel
theorem dX3_search_43 : decode cX3_search 43 = .ok (.invokevirtual 89, 3) := by decide +kernel
theorem dX3_search_46 : decode cX3_search 46 = .ok (.istore 5, 2) := by decide +kernel
theorem dX3_search_48 : decode cX3_search 48 = .ok (.iload_n 3, 1) := by decide +kernel
theorem dX3_search_49 : decode cX3_search 49 = .ok (.istore 6, 2) := by decide +kernel
theorem dX3_search_51 : decode cX3_search 51 = .ok (.iload 6, 2) := by decide +kernel
theorem dX3_search_53 : decode cX3_search 53 = .ok (.bipush 24, 2) := by decide +kernel
theorem dX3_search_55 : decode cX3_search 55 = .ok (.if_icmp .ge 40, 3) := by decide +kernel
theorem dX3_search_58 : decode cX3_search 58 = .ok (.iload 5, 2) := by decide +kernel
theorem dX3_search_60 : decode cX3_search 60 = .ok (.ifCond .ne 35, 3) := by decide +kernel
theorem dX3_search_63 : decode cX3_search 63 = .ok (.aload_n 0, 1) := by decide +kernel
theorem dX3_search_64 : decode cX3_search 64 = .ok (.iload_n 2, 1) := by decide +kernel
theorem dX3_search_65 : decode cX3_search 65 = .ok (.iload 6, 2) := by decide +kernel
theorem dX3_search_67 : decode cX3_search 67 = .ok (.iload 6, 2) := by decide +kernel
theorem dX3_search_69 : decode cX3_search 69 = .ok (.iload_n 3, 1) := by decide +kernel
theorem dX3_search_70 : decode cX3_search 70 = .ok (.isub, 1) := by decide +kernel
theorem dX3_search_71 : decode cX3_search 71 = .ok (.aload 4, 2) := by decide +kernel
theorem dX3_search_73 : decode cX3_search 73 = .ok (.invokevirtual 93, 3) := by decide +kernel
theorem dX3_search_76 : decode cX3_search 76 = .ok (.aload_n 0, 1) := by decide +kernel
theorem dX3_search_77 : decode cX3_search 77 = .ok (.iload_n 1, 1) := by decide +kernel
theorem dX3_search_78 : decode cX3_search 78 = .ok (.iload 6, 2) := by decide +kernel
theorem dX3_search_80 : decode cX3_search 80 = .ok (.iload_n 3, 1) := by decide +kernel
theorem dX3_search_81 : decode cX3_search 81 = .ok (.isub, 1) := by decide +kernel
theorem dX3_search_82 : decode cX3_search 82 = .ok (.iconst 1, 1) := by decide +kernel
theorem dX3_search_83 : decode cX3_search 83 = .ok (.iadd, 1) := by decide +kernel
theorem dX3_search_84 : decode cX3_search 84 = .ok (.invokevirtual 89, 3) := by decide +kernel
theorem dX3_search_87 : decode cX3_search 87 = .ok (.istore 5, 2) := by decide +kernel
theorem dX3_search_89 : decode cX3_search 89 = .ok (.iinc 6 1, 3) := by decide +kernel
theorem dX3_search_92 : decode cX3_search 92 = .ok (.goto (-41), 3) := by decide +kernel
theorem dX3_search_95 : decode cX3_search 95 = .ok (.return_, 1) := by decide +kernel
theorem dX3_spread_0 : decode cX3_spread 0 = .ok (.aload_n 0, 1) := by decide +kernel
theorem dX3_spread_1 : decode cX3_spread 1 = .ok (.getfield 38, 3) := by decide +kernel
theorem dX3_spread_4 : decode cX3_spread 4 = .ok (.iconst (-1), 1) := by decide +kernel
theorem dX3_spread_5 : decode cX3_spread 5 = .ok (.invokestatic 48, 3) := by decide +kernel
theorem dX3_spread_8 : decode cX3_spread 8 = .ok (.aload_n 0, 1) := by decide +kernel
theorem dX3_spread_9 : decode cX3_spread 9 = .ok (.getfield 44, 3) := by decide +kernel
theorem dX3_spread_12 : decode cX3_spread 12 = .ok (.iload_n 1, 1) := by decide +kernel
theorem dX3_spread_13 : decode cX3_spread 13 = .ok (.invokevirtual 96, 3) := by decide +kernel
theorem dX3_spread_16 : decode cX3_spread 16 = .ok (.istore 5, 2) := by decide +kernel
theorem dX3_spread_18 : decode cX3_spread 18 = .ok (.aload_n 0, 1) := by decide +kernel
theorem dX3_spread_19 : decode cX3_spread 19 = .ok (.getfield 44, 3) := by decide +kernel
theorem dX3_spread_22 : decode cX3_spread 22 = .ok (.getfield 100, 3) := by decide +kernel
theorem dX3_spread_25 : decode cX3_spread 25 = .ok (.iload_n 3, 1) := by decide +kernel
theorem dX3_spread_26 : decode cX3_spread 26 = .ok (.iconst 1, 1) := by decide +kernel
theorem dX3_spread_27 : decode cX3_spread 27 = .ok (.iadd, 1) := by decide +kernel
theorem dX3_spread_28 : decode cX3_spread 28 = .ok (.invokestatic 66, 3) := by decide +kernel
theorem dX3_spread_31 : decode cX3_spread 31 = .ok (.bipush 20, 2) := by decide +kernel
theorem dX3_spread_33 : decode cX3_spread 33 = .ok (.imul, 1) := by decide +kernel
theorem dX3_spread_34 : decode cX3_spread 34 = .ok (.bipush 6, 2) := by decide +kernel
theorem dX3_spread_36 : decode cX3_spread 36 = .ok (.imul, 1) := by decide +kernel
theorem dX3_spread_37 : decode cX3_spread 37 = .ok (.istore 6, 2) := by decide +kernel
theorem dX3_spread_39 : decode cX3_spread 39 = .ok (.iconst 0, 1) := by decide +kernel
theorem dX3_spread_40 : decode cX3_spread 40 = .ok (.istore 7, 2) := by decide +kernel
theorem dX3_spread_42 : decode cX3_spread 42 = .ok (.iload 7, 2) := by decide +kernel
theorem dX3_spread_44 : decode cX3_spread 44 = .ok (.iload 6, 2) := by decide +kernel
theorem dX3_spread_46 : decode cX3_spread 46 = .ok (.if_icmp .ge 150, 3) := by decide +kernel
theorem dX3_spread_49 : decode cX3_spread 49 = .ok (.aload_n 0, 1) := by decide +kernel
theorem dX3_spread_50 : decode cX3_spread 50 = .ok (.getfield 32, 3) := by decide +kernel
theorem dX3_spread_53 : decode cX3_spread 53 = .ok (.iload 7, 2) := by decide +kernel
theorem dX3_spread_55 : decode cX3_spread 55 = .ok (.iaload, 1) := by decide +kernel
theorem dX3_spread_56 : decode cX3_spread 56 = .ok (.iconst (-1), 1) := by decide +kernel
theorem dX3_spread_57 : decode cX3_spread 57 = .ok (.if_icmp .ne 6, 3) := by decide +kernel
theorem dX3_spread_60 : decode cX3_spread 60 = .ok (.goto 130, 3) := by decide +kernel
theorem dX3_spread_63 : decode cX3_spread 63 = .ok (.iload 7, 2) := by decide +kernel
theorem dX3_spread_65 : decode cX3_spread 65 = .ok (.bipush 6, 2) := by decide +kernel
theorem dX3_spread_67 : decode cX3_spread 67 = .ok (.irem, 1) := by decide +kernel
theorem dX3_spread_68 : decode cX3_spread 68 = .ok (.istore 8, 2) := by decide +kernel
theorem dX3_spread_70 : decode cX3_spread 70 = .ok (.iconst 5, 1) := by decide +kernel
theorem dX3_spread_71 : decode cX3_spread 71 = .ok (.iload 8, 2) := by decide +kernel
theorem dX3_spread_73 : decode cX3_spread 73 = .ok (.iload 5, 2) := by decide +kernel
theorem dX3_spread_75 : decode cX3_spread 75 = .ok (.iadd, 1) := by decide +kernel
theorem dX3_spread_76 : decode cX3_spread 76 = .ok (.invokestatic 66, 3) := by decide +kernel
theorem dX3_spread_79 : decode cX3_spread 79 = .ok (.istore 9, 2) := by decide +kernel
theorem dX3_spread_81 : decode cX3_spread 81 = .ok (.iconst 0, 1) := by decide +kernel
theorem dX3_spread_82 : decode cX3_spread 82 = .ok (.iload 8, 2) := by decide +kernel
theorem dX3_spread_84 : decode cX3_spread 84 = .ok (.iload 5, 2) := by decide +kernel
theorem dX3_spread_86 : decode cX3_spread 86 = .ok (.isub, 1) := by decide +kernel
theorem dX3_spread_87 : decode cX3_spread 87 = .ok (.invokestatic 104, 3) := by decide +kernel
theorem dX3_spread_90 : decode cX3_spread 90 = .ok (.istore 10, 2) := by decide +kernel
theorem dX3_spread_92 : decode cX3_spread 92 = .ok (.iload 10, 2) := by decide +kernel
theorem dX3_spread_94 : decode cX3_spread 94 = .ok (.iload 9, 2) := by decide +kernel
theorem dX3_spread_96 : decode cX3_spread 96 = .ok (.if_icmp .gt 94, 3) := by decide +kernel
theorem dX3_spread_99 : decode cX3_spread 99 = .ok (.aload_n 0, 1) := by decide +kernel
theorem dX3_spread_100 : decode cX3_spread 100 = .ok (.getfield 44, 3) := by decide +kernel
theorem dX3_spread_103 : decode cX3_spread 103 = .ok (.iload_n 1, 1) := by decide +kernel
theorem dX3_spread_104 : decode cX3_spread 104 = .ok (.iload 7, 2) := by decide +kernel
theorem dX3_spread_106 : decode cX3_spread 106 = .ok (.bipush 6, 2) := by decide +kernel
theorem dX3_spread_108 : decode cX3_spread 108 = .ok (.idiv, 1) := by decide +kernel
theorem dX3_spread_109 : decode cX3_spread 109 = .ok (.iload 10, 2) := by decide +kernel
theorem dX3_spread_111 : decode cX3_spread 111 = .ok (.iload_n 2, 1) := by decide +kernel
theorem dX3_spread_112 : decode cX3_spread 112 = .ok (.invokevirtual 85, 3) := by decide +kernel
theorem dX3_spread_115 : decode cX3_spread 115 = .ok (.istore 11, 2) := by decide +kernel
theorem dX3_spread_117 : decode cX3_spread 117 = .ok (.iload 11, 2) := by decide +kernel
theorem dX3_spread_119 : decode cX3_spread 119 = .ok (.iload 10, 2) := by decide +kernel
theorem dX3_spread_121 : decode cX3_spread 121 = .ok (.aload 4, 2) := by decide +kernel
theorem dX3_spread_123 : decode cX3_spread 123 = .ok (.getfield 71, 3) := by decide +kernel
theorem dX3_spread_126 : decode cX3_spread 126 = .ok (.iload_n 2, 1) := by decide +kernel
theorem dX3_spread_127 : decode cX3_spread 127 = .ok (.iaload, 1) := by decide +kernel
theorem dX3_spread_128 : decode cX3_spread 128 = .ok (.aload 4, 2) := by decide +kernel
theorem dX3_spread_130 : decode cX3_spread 130 = .ok (.getfield 74, 3) := by decide +kernel
theorem dX3_spread_133 : decode cX3_spread 133 = .ok (.iload_n 2, 1) := by decide +kernel
theorem dX3_spread_134 : decode cX3_spread 134 = .ok (.iaload, 1) := by decide +kernel
theorem dX3_spread_135 : decode cX3_spread 135 = .ok (.invokestatic 107, 3) := by decide +kernel
theorem dX3_spread_138 : decode cX3_spread 138 = .ok (.ifCond .ne 46, 3) := by decide +kernel
theorem dX3_spread_141 : decode cX3_spread 141 = .ok (.aload_n 0, 1) := by decide +kernel
theorem dX3_spread_142 : decode cX3_spread 142 = .ok (.iload 11, 2) := by decide +kernel
theorem dX3_spread_144 : decode cX3_spread 144 = .ok (.bipush 6, 2) := by decide +kernel
theorem dX3_spread_146 : decode cX3_spread 146 = .ok (.imul, 1) := by decide +kernel
theorem dX3_spread_147 : decode cX3_spread 147 = .ok (.iload 10, 2) := by decide +kernel
theorem dX3_spread_149 : decode cX3_spread 149 = .ok (.iadd, 1) := by decide +kernel
theorem dX3_spread_150 : decode cX3_spread 150 = .ok (.aload_n 0, 1) := by decide +kernel
theorem dX3_spread_151 : decode cX3_spread 151 = .ok (.getfield 32, 3) := by decide +kernel
theorem dX3_spread_154 : decode cX3_spread 154 = .ok (.iload 7, 2) := by decide +kernel
theorem dX3_spread_156 : decode cX3_spread 156 = .ok (.iaload, 1) := by decide +kernel
theorem dX3_spread_157 : decode cX3_spread 157 = .ok (.iload 10, 2) := by decide +kernel
theorem dX3_spread_159 : decode cX3_spread 159 = .ok (.iload 8, 2) := by decide +kernel
theorem dX3_spread_161 : decode cX3_spread 161 = .ok (.isub, 1) := by decide +kernel
theorem dX3_spread_162 : decode cX3_spread 162 = .ok (.invokestatic 111, 3) := by decide +kernel
theorem dX3_spread_165 : decode cX3_spread 165 = .ok (.iadd, 1) := by decide +kernel
theorem dX3_spread_166 : decode cX3_spread 166 = .ok (.aload_n 0, 1) := by decide +kernel
theorem dX3_spread_167 : decode cX3_spread 167 = .ok (.getfield 35, 3) := by decide +kernel
theorem dX3_spread_170 : decode cX3_spread 170 = .ok (.iload 7, 2) := by decide +kernel
theorem dX3_spread_172 : decode cX3_spread 172 = .ok (.laload, 1) := by decide +kernel
theorem dX3_spread_173 : decode cX3_spread 173 = .ok (.ldc2_w 77, 3) := by decide +kernel
theorem dX3_spread_176 : decode cX3_spread 176 = .ok (.lmul, 1) := by decide +kernel
theorem dX3_spread_177 : decode cX3_spread 177 = .ok (.iload 10, 2) := by decide +kernel
theorem dX3_spread_179 : decode cX3_spread 179 = .ok (.i2l, 1) := by decide +kernel
theorem dX3_spread_180 : decode cX3_spread 180 = .ok (.ladd, 1) := by decide +kernel
theorem dX3_spread_181 : decode cX3_spread 181 = .ok (.invokevirtual 114, 3) := by decide +kernel
theorem dX3_spread_184 : decode cX3_spread 184 = .ok (.iinc 10 1, 3) := by decide +kernel
theorem dX3_spread_187 : decode cX3_spread 187 = .ok (.goto (-95), 3) := by decide +kernel
theorem dX3_spread_190 : decode cX3_spread 190 = .ok (.iinc 7 1, 3) := by decide +kernel
theorem dX3_spread_193 : decode cX3_spread 193 = .ok (.goto (-151), 3) := by decide +kernel
theorem dX3_spread_196 : decode cX3_spread 196 = .ok (.aload_n 0, 1) := by decide +kernel
theorem dX3_spread_197 : decode cX3_spread 197 = .ok (.invokevirtual 118, 3) := by decide +kernel
theorem dX3_spread_200 : decode cX3_spread 200 = .ok (.return_, 1) := by decide +kernel
theorem dX3_offer_0 : decode cX3_offer 0 = .ok (.aload_n 0, 1) := by decide +kernel
theorem dX3_offer_1 : decode cX3_offer 1 = .ok (.getfield 38, 3) := by decide +kernel
theorem dX3_offer_4 : decode cX3_offer 4 = .ok (.iload_n 1, 1) := by decide +kernel
theorem dX3_offer_5 : decode cX3_offer 5 = .ok (.iaload, 1) := by decide +kernel
theorem dX3_offer_6 : decode cX3_offer 6 = .ok (.istore 5, 2) := by decide +kernel
theorem dX3_offer_8 : decode cX3_offer 8 = .ok (.iload 5, 2) := by decide +kernel
theorem dX3_offer_10 : decode cX3_offer 10 = .ok (.iconst (-1), 1) := by decide +kernel
theorem dX3_offer_11 : decode cX3_offer 11 = .ok (.if_icmp .eq 26, 3) := by decide +kernel
theorem dX3_offer_14 : decode cX3_offer 14 = .ok (.iload_n 2, 1) := by decide +kernel
theorem dX3_offer_15 : decode cX3_offer 15 = .ok (.iload 5, 2) := by decide +kernel
theorem dX3_offer_17 : decode cX3_offer 17 = .ok (.if_icmp .lt 20, 3) := by decide +kernel
theorem dX3_offer_20 : decode cX3_offer 20 = .ok (.iload_n 2, 1) := by decide +kernel
theorem dX3_offer_21 : decode cX3_offer 21 = .ok (.iload 5, 2) := by decide +kernel
theorem dX3_offer_23 : decode cX3_offer 23 = .ok (.if_icmp .ne 28, 3) := by decide +kernel
theorem dX3_offer_26 : decode cX3_offer 26 = .ok (.lload_n 3, 1) := by decide +kernel
theorem dX3_offer_27 : decode cX3_offer 27 = .ok (.aload_n 0, 1) := by decide +kernel
theorem dX3_offer_28 : decode cX3_offer 28 = .ok (.getfield 41, 3) := by decide +kernel
theorem dX3_offer_31 : decode cX3_offer 31 = .ok (.iload_n 1, 1) := by decide +kernel
theorem dX3_offer_32 : decode cX3_offer 32 = .ok (.laload, 1) := by decide +kernel
theorem dX3_offer_33 : decode cX3_offer 33 = .ok (.lcmp, 1) := by decide +kernel
theorem dX3_offer_34 : decode cX3_offer 34 = .ok (.ifCond .ge 17, 3) := by decide +kernel
theorem dX3_offer_37 : decode cX3_offer 37 = .ok (.aload_n 0, 1) := by decide +kernel
theorem dX3_offer_38 : decode cX3_offer 38 = .ok (.getfield 38, 3) := by decide +kernel
theorem dX3_offer_41 : decode cX3_offer 41 = .ok (.iload_n 1, 1) := by decide +kernel
theorem dX3_offer_42 : decode cX3_offer 42 = .ok (.iload_n 2, 1) := by decide +kernel
theorem dX3_offer_43 : decode cX3_offer 43 = .ok (.iastore, 1) := by decide +kernel
theorem dX3_offer_44 : decode cX3_offer 44 = .ok (.aload_n 0, 1) := by decide +kernel
theorem dX3_offer_45 : decode cX3_offer 45 = .ok (.getfield 41, 3) := by decide +kernel
theorem dX3_offer_48 : decode cX3_offer 48 = .ok (.iload_n 1, 1) := by decide +kernel
theorem dX3_offer_49 : decode cX3_offer 49 = .ok (.lload_n 3, 1) := by decide +kernel
theorem dX3_offer_50 : decode cX3_offer 50 = .ok (.lastore, 1) := by decide +kernel
theorem dX3_offer_51 : decode cX3_offer 51 = .ok (.return_, 1) := by decide +kernel
theorem dX3_swap_0 : decode cX3_swap 0 = .ok (.aload_n 0, 1) := by decide +kernel
theorem dX3_swap_1 : decode cX3_swap 1 = .ok (.getfield 32, 3) := by decide +kernel
theorem dX3_swap_4 : decode cX3_swap 4 = .ok (.astore_n 1, 1) := by decide +kernel
theorem dX3_swap_5 : decode cX3_swap 5 = .ok (.aload_n 0, 1) := by decide +kernel
theorem dX3_swap_6 : decode cX3_swap 6 = .ok (.getfield 35, 3) := by decide +kernel
theorem dX3_swap_9 : decode cX3_swap 9 = .ok (.astore_n 2, 1) := by decide +kernel
theorem dX3_swap_10 : decode cX3_swap 10 = .ok (.aload_n 0, 1) := by decide +kernel
theorem dX3_swap_11 : decode cX3_swap 11 = .ok (.aload_n 0, 1) := by decide +kernel
theorem dX3_swap_12 : decode cX3_swap 12 = .ok (.getfield 38, 3) := by decide +kernel
theorem dX3_swap_15 : decode cX3_swap 15 = .ok (.putfield 32, 3) := by decide +kernel
theorem dX3_swap_18 : decode cX3_swap 18 = .ok (.aload_n 0, 1) := by decide +kernel
theorem dX3_swap_19 : decode cX3_swap 19 = .ok (.aload_n 0, 1) := by decide +kernel
theorem dX3_swap_20 : decode cX3_swap 20 = .ok (.getfield 41, 3) := by decide +kernel
theorem dX3_swap_23 : decode cX3_swap 23 = .ok (.putfield 35, 3) := by decide +kernel
theorem dX3_swap_26 : decode cX3_swap 26 = .ok (.aload_n 0, 1) := by decide +kernel
theorem dX3_swap_27 : decode cX3_swap 27 = .ok (.aload_n 1, 1) := by decide +kernel
theorem dX3_swap_28 : decode cX3_swap 28 = .ok (.putfield 38, 3) := by decide +kernel
theorem dX3_swap_31 : decode cX3_swap 31 = .ok (.aload_n 0, 1) := by decide +kernel
theorem dX3_swap_32 : decode cX3_swap 32 = .ok (.aload_n 2, 1) := by decide +kernel
theorem dX3_swap_33 : decode cX3_swap 33 = .ok (.putfield 41, 3) := by decide +kernel
theorem dX3_swap_36 : decode cX3_swap 36 = .ok (.return_, 1) := by decide +kernel
theorem dX3_settle_0 : decode cX3_settle 0 = .ok (.aload_n 0, 1) := by decide +kernel
theorem dX3_settle_1 : decode cX3_settle 1 = .ok (.getfield 11, 3) := by decide +kernel
theorem dX3_settle_4 : decode cX3_settle 4 = .ok (.iload_n 1, 1) := by decide +kernel
theorem dX3_settle_5 : decode cX3_settle 5 = .ok (.iconst (-1), 1) := by decide +kernel
theorem dX3_settle_6 : decode cX3_settle 6 = .ok (.iastore, 1) := by decide +kernel
theorem dX3_settle_7 : decode cX3_settle 7 = .ok (.sipush 960, 3) := by decide +kernel
theorem dX3_settle_10 : decode cX3_settle 10 = .ok (.istore_n 3, 1) := by decide +kernel
theorem dX3_settle_11 : decode cX3_settle 11 = .ok (.iload_n 3, 1) := by decide +kernel
theorem dX3_settle_12 : decode cX3_settle 12 = .ok (.sipush 966, 3) := by decide +kernel
theorem dX3_settle_15 : decode cX3_settle 15 = .ok (.if_icmp .ge 110, 3) := by decide +kernel
theorem dX3_settle_18 : decode cX3_settle 18 = .ok (.aload_n 0, 1) := by decide +kernel
theorem dX3_settle_19 : decode cX3_settle 19 = .ok (.getfield 32, 3) := by decide +kernel
theorem dX3_settle_22 : decode cX3_settle 22 = .ok (.iload_n 3, 1) := by decide +kernel
theorem dX3_settle_23 : decode cX3_settle 23 = .ok (.iaload, 1) := by decide +kernel
theorem dX3_settle_24 : decode cX3_settle 24 = .ok (.istore 4, 2) := by decide +kernel
theorem dX3_settle_26 : decode cX3_settle 26 = .ok (.aload_n 0, 1) := by decide +kernel
theorem dX3_settle_27 : decode cX3_settle 27 = .ok (.getfield 11, 3) := by decide +kernel
theorem dX3_settle_30 : decode cX3_settle 30 = .ok (.iload_n 1, 1) := by decide +kernel
theorem dX3_settle_31 : decode cX3_settle 31 = .ok (.iaload, 1) := by decide +kernel
theorem dX3_settle_32 : decode cX3_settle 32 = .ok (.iconst (-1), 1) := by decide +kernel
theorem dX3_settle_33 : decode cX3_settle 33 = .ok (.if_icmp .eq 41, 3) := by decide +kernel
theorem dX3_settle_36 : decode cX3_settle 36 = .ok (.iload 4, 2) := by decide +kernel
theorem dX3_settle_38 : decode cX3_settle 38 = .ok (.aload_n 0, 1) := by decide +kernel
theorem dX3_settle_39 : decode cX3_settle 39 = .ok (.getfield 15, 3) := by decide +kernel
theorem dX3_settle_42 : decode cX3_settle 42 = .ok (.iload_n 1, 1) := by decide +kernel
theorem dX3_settle_43 : decode cX3_settle 43 = .ok (.iaload, 1) := by decide +kernel
theorem dX3_settle_44 : decode cX3_settle 44 = .ok (.if_icmp .lt 30, 3) := by decide +kernel
theorem dX3_settle_47 : decode cX3_settle 47 = .ok (.iload 4, 2) := by decide +kernel
theorem dX3_settle_49 : decode cX3_settle 49 = .ok (.aload_n 0, 1) := by decide +kernel
theorem dX3_settle_50 : decode cX3_settle 50 = .ok (.getfield 15, 3) := by decide +kernel
theorem dX3_settle_53 : decode cX3_settle 53 = .ok (.iload_n 1, 1) := by decide +kernel
theorem dX3_settle_54 : decode cX3_settle 54 = .ok (.iaload, 1) := by decide +kernel
theorem dX3_settle_55 : decode cX3_settle 55 = .ok (.if_icmp .ne 23, 3) := by decide +kernel
theorem dX3_settle_58 : decode cX3_settle 58 = .ok (.aload_n 0, 1) := by decide +kernel
theorem dX3_settle_59 : decode cX3_settle 59 = .ok (.getfield 35, 3) := by decide +kernel
theorem dX3_settle_62 : decode cX3_settle 62 = .ok (.iload_n 3, 1) := by decide +kernel
theorem dX3_settle_63 : decode cX3_settle 63 = .ok (.laload, 1) := by decide +kernel
theorem dX3_settle_64 : decode cX3_settle 64 = .ok (.aload_n 0, 1) := by decide +kernel
theorem dX3_settle_65 : decode cX3_settle 65 = .ok (.getfield 18, 3) := by decide +kernel
theorem dX3_settle_68 : decode cX3_settle 68 = .ok (.iload_n 1, 1) := by decide +kernel
theorem dX3_settle_69 : decode cX3_settle 69 = .ok (.laload, 1) := by decide +kernel
theorem dX3_settle_70 : decode cX3_settle 70 = .ok (.lcmp, 1) := by decide +kernel
theorem dX3_settle_71 : decode cX3_settle 71 = .ok (.ifCond .ge 7, 3) := by decide +kernel
theorem dX3_settle_74 : decode cX3_settle 74 = .ok (.iconst 1, 1) := by decide +kernel
theorem dX3_settle_75 : decode cX3_settle 75 = .ok (.goto 4, 3) := by decide +kernel
theorem dX3_settle_78 : decode cX3_settle 78 = .ok (.iconst 0, 1) := by decide +kernel
theorem dX3_settle_79 : decode cX3_settle 79 = .ok (.istore 5, 2) := by decide +kernel
theorem dX3_settle_81 : decode cX3_settle 81 = .ok (.iload 4, 2) := by decide +kernel
theorem dX3_settle_83 : decode cX3_settle 83 = .ok (.iconst (-1), 1) := by decide +kernel
theorem dX3_settle_84 : decode cX3_settle 84 = .ok (.if_icmp .eq 35, 3) := by decide +kernel
theorem dX3_settle_87 : decode cX3_settle 87 = .ok (.iload 5, 2) := by decide +kernel
theorem dX3_settle_89 : decode cX3_settle 89 = .ok (.ifCond .eq 30, 3) := by decide +kernel
theorem dX3_settle_92 : decode cX3_settle 92 = .ok (.aload_n 0, 1) := by decide +kernel
theorem dX3_settle_93 : decode cX3_settle 93 = .ok (.getfield 11, 3) := by decide +kernel
theorem dX3_settle_96 : decode cX3_settle 96 = .ok (.iload_n 1, 1) := by decide +kernel
theorem dX3_settle_97 : decode cX3_settle 97 = .ok (.iload_n 2, 1) := by decide +kernel
theorem dX3_settle_98 : decode cX3_settle 98 = .ok (.iastore, 1) := by decide +kernel
theorem dX3_settle_99 : decode cX3_settle 99 = .ok (.aload_n 0, 1) := by decide +kernel
theorem dX3_settle_100 : decode cX3_settle 100 = .ok (.getfield 15, 3) := by decide +kernel
theorem dX3_settle_103 : decode cX3_settle 103 = .ok (.iload_n 1, 1) := by decide +kernel
theorem dX3_settle_104 : decode cX3_settle 104 = .ok (.iload 4, 2) := by decide +kernel
theorem dX3_settle_106 : decode cX3_settle 106 = .ok (.iastore, 1) := by decide +kernel
theorem dX3_settle_107 : decode cX3_settle 107 = .ok (.aload_n 0, 1) := by decide +kernel
theorem dX3_settle_108 : decode cX3_settle 108 = .ok (.getfield 18, 3) := by decide +kernel
theorem dX3_settle_111 : decode cX3_settle 111 = .ok (.iload_n 1, 1) := by decide +kernel
theorem dX3_settle_112 : decode cX3_settle 112 = .ok (.aload_n 0, 1) := by decide +kernel
theorem dX3_settle_113 : decode cX3_settle 113 = .ok (.getfield 35, 3) := by decide +kernel
theorem dX3_settle_116 : decode cX3_settle 116 = .ok (.iload_n 3, 1) := by decide +kernel
theorem dX3_settle_117 : decode cX3_settle 117 = .ok (.laload, 1) := by decide +kernel
theorem dX3_settle_118 : decode cX3_settle 118 = .ok (.lastore, 1) := by decide +kernel
theorem dX3_settle_119 : decode cX3_settle 119 = .ok (.iinc 3 1, 3) := by decide +kernel
theorem dX3_settle_122 : decode cX3_settle 122 = .ok (.goto (-111), 3) := by decide +kernel
theorem dX3_settle_125 : decode cX3_settle 125 = .ok (.aload_n 0, 1) := by decide +kernel
theorem dX3_settle_126 : decode cX3_settle 126 = .ok (.getfield 11, 3) := by decide +kernel
theorem dX3_settle_129 : decode cX3_settle 129 = .ok (.iload_n 1, 1) := by decide +kernel
theorem dX3_settle_130 : decode cX3_settle 130 = .ok (.iaload, 1) := by decide +kernel
theorem dX3_settle_131 : decode cX3_settle 131 = .ok (.iconst (-1), 1) := by decide +kernel
theorem dX3_settle_132 : decode cX3_settle 132 = .ok (.if_icmp .eq 7, 3) := by decide +kernel
theorem dX3_settle_135 : decode cX3_settle 135 = .ok (.iconst 1, 1) := by decide +kernel
theorem dX3_settle_136 : decode cX3_settle 136 = .ok (.goto 4, 3) := by decide +kernel
theorem dX3_settle_139 : decode cX3_settle 139 = .ok (.iconst 0, 1) := by decide +kernel
theorem dX3_settle_140 : decode cX3_settle 140 = .ok (.ireturn, 1) := by decide +kernel
theorem dX4_init_0 : decode cX4_init 0 = .ok (.aload_n 0, 1) := by decide +kernel
theorem dX4_init_1 : decode cX4_init 1 = .ok (.invokespecial 3, 3) := by decide +kernel
theorem dX4_init_4 : decode cX4_init 4 = .ok (.aload_n 0, 1) := by decide +kernel
theorem dX4_init_5 : decode cX4_init 5 = .ok (.iconst 0, 1) := by decide +kernel
theorem dX4_init_6 : decode cX4_init 6 = .ok (.putfield 9, 3) := by decide +kernel
theorem dX4_init_9 : decode cX4_init 9 = .ok (.aload_n 0, 1) := by decide +kernel
theorem dX4_init_10 : decode cX4_init 10 = .ok (.iconst 2, 1) := by decide +kernel
theorem dX4_init_11 : decode cX4_init 11 = .ok (.putfield 15, 3) := by decide +kernel
theorem dX4_init_14 : decode cX4_init 14 = .ok (.aload_n 0, 1) := by decide +kernel
theorem dX4_init_15 : decode cX4_init 15 = .ok (.bipush 8, 2) := by decide +kernel
theorem dX4_init_17 : decode cX4_init 17 = .ok (.newarray .int, 2) := by decide +kernel
theorem dX4_init_19 : decode cX4_init 19 = .ok (.putfield 18, 3) := by decide +kernel
theorem dX4_init_22 : decode cX4_init 22 = .ok (.aload_n 0, 1) := by decide +kernel
theorem dX4_init_23 : decode cX4_init 23 = .ok (.bipush 8, 2) := by decide +kernel
theorem dX4_init_25 : decode cX4_init 25 = .ok (.newarray .int, 2) := by decide +kernel
theorem dX4_init_27 : decode cX4_init 27 = .ok (.putfield 22, 3) := by decide +kernel
theorem dX4_init_30 : decode cX4_init 30 = .ok (.aload_n 0, 1) := by decide +kernel
theorem dX4_init_31 : decode cX4_init 31 = .ok (.bipush 8, 2) := by decide +kernel
theorem dX4_init_33 : decode cX4_init 33 = .ok (.newarray .int, 2) := by decide +kernel
theorem dX4_init_35 : decode cX4_init 35 = .ok (.putfield 25, 3) := by decide +kernel
theorem dX4_init_38 : decode cX4_init 38 = .ok (.aload_n 0, 1) := by decide +kernel
theorem dX4_init_39 : decode cX4_init 39 = .ok (.sipush 144, 3) := by decide +kernel
theorem dX4_init_42 : decode cX4_init 42 = .ok (.newarray .int, 2) := by decide +kernel
theorem dX4_init_44 : decode cX4_init 44 = .ok (.putfield 28, 3) := by decide +kernel
theorem dX4_init_47 : decode cX4_init 47 = .ok (.aload_n 0, 1) := by decide +kernel
theorem dX4_init_48 : decode cX4_init 48 = .ok (.sipush 144, 3) := by decide +kernel
theorem dX4_init_51 : decode cX4_init 51 = .ok (.newarray .int, 2) := by decide +kernel
theorem dX4_init_53 : decode cX4_init 53 = .ok (.putfield 31, 3) := by decide +kernel
theorem dX4_init_56 : decode cX4_init 56 = .ok (.aload_n 0, 1) := by decide +kernel
theorem dX4_init_57 : decode cX4_init 57 = .ok (.iconst 4, 1) := by decide +kernel
theorem dX4_init_58 : decode cX4_init 58 = .ok (.newarray .boolean, 2) := by decide +kernel
theorem dX4_init_60 : decode cX4_init 60 = .ok (.putfield 34, 3) := by decide +kernel
theorem dX4_init_63 : decode cX4_init 63 = .ok (.aload_n 0, 1) := by decide +kernel
theorem dX4_init_64 : decode cX4_init 64 = .ok (.iconst 4, 1) := by decide +kernel
theorem dX4_init_65 : decode cX4_init 65 = .ok (.newarray .int, 2) := by decide +kernel
theorem dX4_init_67 : decode cX4_init 67 = .ok (.putfield 38, 3) := by decide +kernel
theorem dX4_init_70 : decode cX4_init 70 = .ok (.aload_n 0, 1) := by decide +kernel
theorem dX4_init_71 : decode cX4_init 71 = .ok (.iconst 4, 1) := by decide +kernel
theorem dX4_init_72 : decode cX4_init 72 = .ok (.newarray .int, 2) := by decide +kernel
theorem dX4_init_74 : decode cX4_init 74 = .ok (.putfield 41, 3) := by decide +kernel
theorem dX4_init_77 : decode cX4_init 77 = .ok (.aload_n 0, 1) := by decide +kernel
theorem dX4_init_78 : decode cX4_init 78 = .ok (.iconst 4, 1) := by decide +kernel
theorem dX4_init_79 : decode cX4_init 79 = .ok (.newarray .int, 2) := by decide +kernel
theorem dX4_init_81 : decode cX4_init 81 = .ok (.putfield 44, 3) := by decide +kernel
theorem dX4_init_84 : decode cX4_init 84 = .ok (.aload_n 0, 1) := by decide +kernel
theorem dX4_init_85 : decode cX4_init 85 = .ok (.iconst 4, 1) := by decide +kernel
theorem dX4_init_86 : decode cX4_init 86 = .ok (.newarray .int, 2) := by decide +kernel
theorem dX4_init_88 : decode cX4_init 88 = .ok (.putfield 47, 3) := by decide +kernel
theorem dX4_init_91 : decode cX4_init 91 = .ok (.return_, 1) := by decide +kernel
theorem dX4_hasReach_0 : decode cX4_hasReach 0 = .ok (.iload_n 1, 1) := by decide +kernel
theorem dX4_hasReach_1 : decode cX4_hasReach 1 = .ok (.ifCond .lt 15, 3) := by decide +kernel
theorem dX4_hasReach_4 : decode cX4_hasReach 4 = .ok (.iload_n 1, 1) := by decide +kernel
theorem dX4_hasReach_5 : decode cX4_hasReach 5 = .ok (.aload_n 0, 1) := by decide +kernel
theorem dX4_hasReach_6 : decode cX4_hasReach 6 = .ok (.getfield 9, 3) := by decide +kernel
theorem dX4_hasReach_9 : decode cX4_hasReach 9 = .ok (.if_icmp .ge 7, 3) := by decide +kernel
theorem dX4_hasReach_12 : decode cX4_hasReach 12 = .ok (.iconst 1, 1) := by decide +kernel
theorem dX4_hasReach_13 : decode cX4_hasReach 13 = .ok (.goto 4, 3) := by decide +kernel
theorem dX4_hasReach_16 : decode cX4_hasReach 16 = .ok (.iconst 0, 1) := by decide +kernel
theorem dX4_hasReach_17 : decode cX4_hasReach 17 = .ok (.ireturn, 1) := by decide +kernel
theorem dX4_hasBarge_0 : decode cX4_hasBarge 0 = .ok (.iload_n 1, 1) := by decide +kernel
theorem dX4_hasBarge_1 : decode cX4_hasBarge 1 = .ok (.ifCond .lt 21, 3) := by decide +kernel
theorem dX4_hasBarge_4 : decode cX4_hasBarge 4 = .ok (.iload_n 1, 1) := by decide +kernel
theorem dX4_hasBarge_5 : decode cX4_hasBarge 5 = .ok (.iconst 4, 1) := by decide +kernel
theorem dX4_hasBarge_6 : decode cX4_hasBarge 6 = .ok (.if_icmp .ge 16, 3) := by decide +kernel
theorem dX4_hasBarge_9 : decode cX4_hasBarge 9 = .ok (.aload_n 0, 1) := by decide +kernel
theorem dX4_hasBarge_10 : decode cX4_hasBarge 10 = .ok (.getfield 34, 3) := by decide +kernel
theorem dX4_hasBarge_13 : decode cX4_hasBarge 13 = .ok (.iload_n 1, 1) := by decide +kernel
theorem dX4_hasBarge_14 : decode cX4_hasBarge 14 = .ok (.baload, 1) := by decide +kernel
theorem dX4_hasBarge_15 : decode cX4_hasBarge 15 = .ok (.ifCond .eq 7, 3) := by decide +kernel
theorem dX4_hasBarge_18 : decode cX4_hasBarge 18 = .ok (.iconst 1, 1) := by decide +kernel
theorem dX4_hasBarge_19 : decode cX4_hasBarge 19 = .ok (.goto 4, 3) := by decide +kernel
theorem dX4_hasBarge_22 : decode cX4_hasBarge 22 = .ok (.iconst 0, 1) := by decide +kernel
theorem dX4_hasBarge_23 : decode cX4_hasBarge 23 = .ok (.ireturn, 1) := by decide +kernel
theorem dX4_cordOf_0 : decode cX4_cordOf 0 = .ok (.aload_n 0, 1) := by decide +kernel
theorem dX4_cordOf_1 : decode cX4_cordOf 1 = .ok (.getfield 44, 3) := by decide +kernel
theorem dX4_cordOf_4 : decode cX4_cordOf 4 = .ok (.iload_n 1, 1) := by decide +kernel
theorem dX4_cordOf_5 : decode cX4_cordOf 5 = .ok (.iaload, 1) := by decide +kernel
theorem dX4_cordOf_6 : decode cX4_cordOf 6 = .ok (.iconst 2, 1) := by decide +kernel
theorem dX4_cordOf_7 : decode cX4_cordOf 7 = .ok (.if_icmp .ne 7, 3) := by decide +kernel
theorem dX4_cordOf_10 : decode cX4_cordOf 10 = .ok (.iconst 1, 1) := by decide +kernel
theorem dX4_cordOf_11 : decode cX4_cordOf 11 = .ok (.goto 9, 3) := by decide +kernel
theorem dX4_cordOf_14 : decode cX4_cordOf 14 = .ok (.aload_n 0, 1) := by decide +kernel
theorem dX4_cordOf_15 : decode cX4_cordOf 15 = .ok (.getfield 41, 3) := by decide +kernel
theorem dX4_cordOf_18 : decode cX4_cordOf 18 = .ok (.iload_n 1, 1) := by decide +kernel
theorem dX4_cordOf_19 : decode cX4_cordOf 19 = .ok (.iaload, 1) := by decide +kernel
theorem dX4_cordOf_20 : decode cX4_cordOf 20 = .ok (.ireturn, 1) := by decide +kernel
theorem dX4_begin_0 : decode cX4_begin 0 = .ok (.aload_n 0, 1) := by decide +kernel
theorem dX4_begin_1 : decode cX4_begin 1 = .ok (.getfield 9, 3) := by decide +kernel
theorem dX4_begin_4 : decode cX4_begin 4 = .ok (.ifCond .ne 9, 3) := by decide +kernel
theorem dX4_begin_7 : decode cX4_begin 7 = .ok (.sipush 160, 3) := by decide +kernel
theorem dX4_begin_10 : decode cX4_begin 10 = .ok (.goto 4, 3) := by decide +kernel
theorem dX4_begin_13 : decode cX4_begin 13 = .ok (.iconst 0, 1) := by decide +kernel
theorem dX4_begin_14 : decode cX4_begin 14 = .ok (.ireturn, 1) := by decide +kernel
theorem dX4_toldBits_0 : decode cX4_toldBits 0 = .ok (.iconst 0, 1) := by decide +kernel
theorem dX4_toldBits_1 : decode cX4_toldBits 1 = .ok (.istore_n 1, 1) := by decide +kernel
theorem dX4_toldBits_2 : decode cX4_toldBits 2 = .ok (.iconst 0, 1) := by decide +kernel
theorem dX4_toldBits_3 : decode cX4_toldBits 3 = .ok (.istore_n 2, 1) := by decide +kernel
theorem dX4_toldBits_4 : decode cX4_toldBits 4 = .ok (.iload_n 2, 1) := by decide +kernel
theorem dX4_toldBits_5 : decode cX4_toldBits 5 = .ok (.iconst 4, 1) := by decide +kernel
theorem dX4_toldBits_6 : decode cX4_toldBits 6 = .ok (.if_icmp .ge 28, 3) := by decide +kernel
theorem dX4_toldBits_9 : decode cX4_toldBits 9 = .ok (.iload_n 1, 1) := by decide +kernel
theorem dX4_toldBits_10 : decode cX4_toldBits 10 = .ok (.aload_n 0, 1) := by decide +kernel
theorem dX4_toldBits_11 : decode cX4_toldBits 11 = .ok (.getfield 34, 3) := by decide +kernel
theorem dX4_toldBits_14 : decode cX4_toldBits 14 = .ok (.iload_n 2, 1) := by decide +kernel
theorem dX4_toldBits_15 : decode cX4_toldBits 15 = .ok (.baload, 1) := by decide +kernel
theorem dX4_toldBits_16 : decode cX4_toldBits 16 = .ok (.ifCond .eq 9, 3) := by decide +kernel
theorem dX4_toldBits_19 : decode cX4_toldBits 19 = .ok (.iconst 1, 1) := by decide +kernel
theorem dX4_toldBits_20 : decode cX4_toldBits 20 = .ok (.iload_n 2, 1) := by decide +kernel
theorem dX4_toldBits_21 : decode cX4_toldBits 21 = .ok (.ishl, 1) := by decide +kernel
theorem dX4_toldBits_22 : decode cX4_toldBits 22 = .ok (.goto 4, 3) := by decide +kernel
theorem dX4_toldBits_25 : decode cX4_toldBits 25 = .ok (.iconst 0, 1) := by decide +kernel
theorem dX4_toldBits_26 : decode cX4_toldBits 26 = .ok (.ior, 1) := by decide +kernel
theorem dX4_toldBits_27 : decode cX4_toldBits 27 = .ok (.istore_n 1, 1) := by decide +kernel
theorem dX4_toldBits_28 : decode cX4_toldBits 28 = .ok (.iinc 2 1, 3) := by decide +kernel
theorem dX4_toldBits_31 : decode cX4_toldBits 31 = .ok (.goto (-27), 3) := by decide +kernel
theorem dX4_toldBits_34 : decode cX4_toldBits 34 = .ok (.iload_n 1, 1) := by decide +kernel
theorem dX4_toldBits_35 : decode cX4_toldBits 35 = .ok (.ireturn, 1) := by decide +kernel
theorem dX4_wholeLength_0 : decode cX4_wholeLength 0 = .ok (.iconst 0, 1) := by decide +kernel
theorem dX4_wholeLength_1 : decode cX4_wholeLength 1 = .ok (.istore_n 1, 1) := by decide +kernel
theorem dX4_wholeLength_2 : decode cX4_wholeLength 2 = .ok (.iconst 0, 1) := by decide +kernel
theorem dX4_wholeLength_3 : decode cX4_wholeLength 3 = .ok (.istore_n 2, 1) := by decide +kernel
theorem dX4_wholeLength_4 : decode cX4_wholeLength 4 = .ok (.iload_n 2, 1) := by decide +kernel
theorem dX4_wholeLength_5 : decode cX4_wholeLength 5 = .ok (.aload_n 0, 1) := by decide +kernel
theorem dX4_wholeLength_6 : decode cX4_wholeLength 6 = .ok (.getfield 9, 3) := by decide +kernel
theorem dX4_wholeLength_9 : decode cX4_wholeLength 9 = .ok (.if_icmp .ge 18, 3) := by decide +kernel
theorem dX4_wholeLength_12 : decode cX4_wholeLength 12 = .ok (.iload_n 1, 1) := by decide +kernel
theorem dX4_wholeLength_13 : decode cX4_wholeLength 13 = .ok (.aload_n 0, 1) := by decide +kernel
theorem dX4_wholeLength_14 : decode cX4_wholeLength 14 = .ok (.getfield 22, 3) := by decide +kernel
theorem dX4_wholeLength_17 : decode cX4_wholeLength 17 = .ok (.iload_n 2, 1) := by decide +kernel
theorem dX4_wholeLength_18 : decode cX4_wholeLength 18 = .ok (.iaload, 1) := by decide +kernel
theorem dX4_wholeLength_19 : decode cX4_wholeLength 19 = .ok (.iadd, 1) := by decide +kernel
theorem dX4_wholeLength_20 : decode cX4_wholeLength 20 = .ok (.istore_n 1, 1) := by decide +kernel
theorem dX4_wholeLength_21 : decode cX4_wholeLength 21 = .ok (.iinc 2 1, 3) := by decide +kernel
theorem dX4_wholeLength_24 : decode cX4_wholeLength 24 = .ok (.goto (-20), 3) := by decide +kernel
theorem dX4_wholeLength_27 : decode cX4_wholeLength 27 = .ok (.iload_n 1, 1) := by decide +kernel
theorem dX4_wholeLength_28 : decode cX4_wholeLength 28 = .ok (.ireturn, 1) := by decide +kernel
theorem dX4_tell_0 : decode cX4_tell 0 = .ok (.iload_n 1, 1) := by decide +kernel
theorem dX4_tell_1 : decode cX4_tell 1 = .ok (.tableswitch 81 3 7 #[35, 43, 51, 59, 71], 35) := by decide +kernel
theorem dX4_tell_36 : decode cX4_tell 36 = .ok (.aload_n 0, 1) := by decide +kernel
theorem dX4_tell_37 : decode cX4_tell 37 = .ok (.iconst 0, 1) := by decide +kernel
theorem dX4_tell_38 : decode cX4_tell 38 = .ok (.putfield 9, 3) := by decide +kernel
theorem dX4_tell_41 : decode cX4_tell 41 = .ok (.goto 52, 3) := by decide +kernel
theorem dX4_tell_44 : decode cX4_tell 44 = .ok (.aload_n 0, 1) := by decide +kernel
theorem dX4_tell_45 : decode cX4_tell 45 = .ok (.aload_n 2, 1) := by decide +kernel
theorem dX4_tell_46 : decode cX4_tell 46 = .ok (.invokevirtual 50, 3) := by decide +kernel
theorem dX4_tell_49 : decode cX4_tell 49 = .ok (.goto 44, 3) := by decide +kernel
theorem dX4_tell_52 : decode cX4_tell 52 = .ok (.aload_n 0, 1) := by decide +kernel
theorem dX4_tell_53 : decode cX4_tell 53 = .ok (.aload_n 2, 1) := by decide +kernel
theorem dX4_tell_54 : decode cX4_tell 54 = .ok (.invokevirtual 54, 3) := by decide +kernel
theorem dX4_tell_57 : decode cX4_tell 57 = .ok (.goto 36, 3) := by decide +kernel
theorem dX4_tell_60 : decode cX4_tell 60 = .ok (.aload_n 0, 1) := by decide +kernel
theorem dX4_tell_61 : decode cX4_tell 61 = .ok (.getfield 34, 3) := by decide +kernel
theorem dX4_tell_64 : decode cX4_tell 64 = .ok (.aload_n 2, 1) := by decide +kernel
theorem dX4_tell_65 : decode cX4_tell 65 = .ok (.iconst 0, 1) := by decide +kernel
theorem dX4_tell_66 : decode cX4_tell 66 = .ok (.iaload, 1) := by decide +kernel
theorem dX4_tell_67 : decode cX4_tell 67 = .ok (.iconst 0, 1) := by decide +kernel
theorem dX4_tell_68 : decode cX4_tell 68 = .ok (.bastore, 1) := by decide +kernel
theorem dX4_tell_69 : decode cX4_tell 69 = .ok (.goto 24, 3) := by decide +kernel
theorem dX4_tell_72 : decode cX4_tell 72 = .ok (.aload_n 0, 1) := by decide +kernel
theorem dX4_tell_73 : decode cX4_tell 73 = .ok (.aload_n 2, 1) := by decide +kernel
theorem dX4_tell_74 : decode cX4_tell 74 = .ok (.iconst 0, 1) := by decide +kernel
theorem dX4_tell_75 : decode cX4_tell 75 = .ok (.iaload, 1) := by decide +kernel
theorem dX4_tell_76 : decode cX4_tell 76 = .ok (.putfield 15, 3) := by decide +kernel
theorem dX4_tell_79 : decode cX4_tell 79 = .ok (.goto 14, 3) := by decide +kernel
theorem dX4_tell_82 : decode cX4_tell 82 = .ok (.aload_n 0, 1) := by decide +kernel
theorem dX4_tell_83 : decode cX4_tell 83 = .ok (.iload_n 1, 1) := by decide +kernel
theorem dX4_tell_84 : decode cX4_tell 84 = .ok (.aload_n 2, 1) := by decide +kernel
theorem dX4_tell_85 : decode cX4_tell 85 = .ok (.iconst 0, 1) := by decide +kernel
theorem dX4_tell_86 : decode cX4_tell 86 = .ok (.iaload, 1) := by decide +kernel
theorem dX4_tell_87 : decode cX4_tell 87 = .ok (.aload_n 2, 1) := by decide +kernel
theorem dX4_tell_88 : decode cX4_tell 88 = .ok (.iconst 1, 1) := by decide +kernel
theorem dX4_tell_89 : decode cX4_tell 89 = .ok (.iaload, 1) := by decide +kernel
theorem dX4_tell_90 : decode cX4_tell 90 = .ok (.invokevirtual 57, 3) := by decide +kernel
theorem dX4_tell_93 : decode cX4_tell 93 = .ok (.return_, 1) := by decide +kernel
theorem dX4_addReach_0 : decode cX4_addReach 0 = .ok (.aload_n 0, 1) := by decide +kernel
theorem dX4_addReach_1 : decode cX4_addReach 1 = .ok (.getfield 9, 3) := by decide +kernel
theorem dX4_addReach_4 : decode cX4_addReach 4 = .ok (.bipush 8, 2) := by decide +kernel
theorem dX4_addReach_6 : decode cX4_addReach 6 = .ok (.if_icmp .lt 4, 3) := by decide +kernel
theorem dX4_addReach_9 : decode cX4_addReach 9 = .ok (.return_, 1) := by decide +kernel
theorem dX4_addReach_10 : decode cX4_addReach 10 = .ok (.aload_n 0, 1) := by decide +kernel
theorem dX4_addReach_11 : decode cX4_addReach 11 = .ok (.getfield 25, 3) := by decide +kernel
theorem dX4_addReach_14 : decode cX4_addReach 14 = .ok (.aload_n 0, 1) := by decide +kernel
theorem dX4_addReach_15 : decode cX4_addReach 15 = .ok (.getfield 9, 3) := by decide +kernel
theorem dX4_addReach_18 : decode cX4_addReach 18 = .ok (.iload_n 1, 1) := by decide +kernel
theorem dX4_addReach_19 : decode cX4_addReach 19 = .ok (.iastore, 1) := by decide +kernel
theorem dX4_addReach_20 : decode cX4_addReach 20 = .ok (.aload_n 0, 1) := by decide +kernel
theorem dX4_addReach_21 : decode cX4_addReach 21 = .ok (.getfield 18, 3) := by decide +kernel
theorem dX4_addReach_24 : decode cX4_addReach 24 = .ok (.aload_n 0, 1) := by decide +kernel
theorem dX4_addReach_25 : decode cX4_addReach 25 = .ok (.getfield 9, 3) := by decide +kernel
theorem dX4_addReach_28 : decode cX4_addReach 28 = .ok (.iload_n 2, 1) := by decide +kernel
theorem dX4_addReach_29 : decode cX4_addReach 29 = .ok (.iastore, 1) := by decide +kernel
theorem dX4_addReach_30 : decode cX4_addReach 30 = .ok (.aload_n 0, 1) := by decide +kernel
theorem dX4_addReach_31 : decode cX4_addReach 31 = .ok (.getfield 22, 3) := by decide +kernel
theorem dX4_addReach_34 : decode cX4_addReach 34 = .ok (.aload_n 0, 1) := by decide +kernel
theorem dX4_addReach_35 : decode cX4_addReach 35 = .ok (.getfield 9, 3) := by decide +kernel
theorem dX4_addReach_38 : decode cX4_addReach 38 = .ok (.iload_n 3, 1) := by decide +kernel
theorem dX4_addReach_39 : decode cX4_addReach 39 = .ok (.iastore, 1) := by decide +kernel
theorem dX4_addReach_40 : decode cX4_addReach 40 = .ok (.aload_n 0, 1) := by decide +kernel
theorem dX4_addReach_41 : decode cX4_addReach 41 = .ok (.dup, 1) := by decide +kernel
theorem dX4_addReach_42 : decode cX4_addReach 42 = .ok (.getfield 9, 3) := by decide +kernel
theorem dX4_addReach_45 : decode cX4_addReach 45 = .ok (.iconst 1, 1) := by decide +kernel
theorem dX4_addReach_46 : decode cX4_addReach 46 = .ok (.iadd, 1) := by decide +kernel
theorem dX4_addReach_47 : decode cX4_addReach 47 = .ok (.putfield 9, 3) := by decide +kernel
theorem dX4_addReach_50 : decode cX4_addReach 50 = .ok (.return_, 1) := by decide +kernel
theorem dX4_tellWind_0 : decode cX4_tellWind 0 = .ok (.aload_n 1, 1) := by decide +kernel
theorem dX4_tellWind_1 : decode cX4_tellWind 1 = .ok (.iconst 1, 1) := by decide +kernel
theorem dX4_tellWind_2 : decode cX4_tellWind 2 = .ok (.iaload, 1) := by decide +kernel
theorem dX4_tellWind_3 : decode cX4_tellWind 3 = .ok (.istore_n 2, 1) := by decide +kernel
theorem dX4_tellWind_4 : decode cX4_tellWind 4 = .ok (.iload_n 2, 1) := by decide +kernel
theorem dX4_tellWind_5 : decode cX4_tellWind 5 = .ok (.aload_n 1, 1) := by decide +kernel
theorem dX4_tellWind_6 : decode cX4_tellWind 6 = .ok (.iconst 2, 1) := by decide +kernel
theorem dX4_tellWind_7 : decode cX4_tellWind 7 = .ok (.iaload, 1) := by decide +kernel
theorem dX4_tellWind_8 : decode cX4_tellWind 8 = .ok (.if_icmp .gt 41, 3) := by decide +kernel
theorem dX4_tellWind_11 : decode cX4_tellWind 11 = .ok (.aload_n 0, 1) := by decide +kernel
theorem dX4_tellWind_12 : decode cX4_tellWind 12 = .ok (.getfield 28, 3) := by decide +kernel
theorem dX4_tellWind_15 : decode cX4_tellWind 15 = .ok (.aload_n 1, 1) := by decide +kernel
theorem dX4_tellWind_16 : decode cX4_tellWind 16 = .ok (.iconst 0, 1) := by decide +kernel
theorem dX4_tellWind_17 : decode cX4_tellWind 17 = .ok (.iaload, 1) := by decide +kernel
theorem dX4_tellWind_18 : decode cX4_tellWind 18 = .ok (.bipush 24, 2) := by decide +kernel
theorem dX4_tellWind_20 : decode cX4_tellWind 20 = .ok (.imul, 1) := by decide +kernel
theorem dX4_tellWind_21 : decode cX4_tellWind 21 = .ok (.iload_n 2, 1) := by decide +kernel
theorem dX4_tellWind_22 : decode cX4_tellWind 22 = .ok (.iadd, 1) := by decide +kernel
theorem dX4_tellWind_23 : decode cX4_tellWind 23 = .ok (.aload_n 1, 1) := by decide +kernel
theorem dX4_tellWind_24 : decode cX4_tellWind 24 = .ok (.iconst 3, 1) := by decide +kernel
theorem dX4_tellWind_25 : decode cX4_tellWind 25 = .ok (.iaload, 1) := by decide +kernel
theorem dX4_tellWind_26 : decode cX4_tellWind 26 = .ok (.iastore, 1) := by decide +kernel
theorem dX4_tellWind_27 : decode cX4_tellWind 27 = .ok (.aload_n 0, 1) := by decide +kernel
theorem dX4_tellWind_28 : decode cX4_tellWind 28 = .ok (.getfield 31, 3) := by decide +kernel
theorem dX4_tellWind_31 : decode cX4_tellWind 31 = .ok (.aload_n 1, 1) := by decide +kernel
theorem dX4_tellWind_32 : decode cX4_tellWind 32 = .ok (.iconst 0, 1) := by decide +kernel
theorem dX4_tellWind_33 : decode cX4_tellWind 33 = .ok (.iaload, 1) := by decide +kernel
theorem dX4_tellWind_34 : decode cX4_tellWind 34 = .ok (.bipush 24, 2) := by decide +kernel
theorem dX4_tellWind_36 : decode cX4_tellWind 36 = .ok (.imul, 1) := by decide +kernel
theorem dX4_tellWind_37 : decode cX4_tellWind 37 = .ok (.iload_n 2, 1) := by decide +kernel
theorem dX4_tellWind_38 : decode cX4_tellWind 38 = .ok (.iadd, 1) := by decide +kernel
theorem dX4_tellWind_39 : decode cX4_tellWind 39 = .ok (.aload_n 1, 1) := by decide +kernel
theorem dX4_tellWind_40 : decode cX4_tellWind 40 = .ok (.iconst 4, 1) := by decide +kernel
theorem dX4_tellWind_41 : decode cX4_tellWind 41 = .ok (.iaload, 1) := by decide +kernel
theorem dX4_tellWind_42 : decode cX4_tellWind 42 = .ok (.iastore, 1) := by decide +kernel
theorem dX4_tellWind_43 : decode cX4_tellWind 43 = .ok (.iinc 2 1, 3) := by decide +kernel
theorem dX4_tellWind_46 : decode cX4_tellWind 46 = .ok (.goto (-42), 3) := by decide +kernel
theorem dX4_tellWind_49 : decode cX4_tellWind 49 = .ok (.return_, 1) := by decide +kernel
theorem dX4_tellBarge_0 : decode cX4_tellBarge 0 = .ok (.aload_n 1, 1) := by decide +kernel
theorem dX4_tellBarge_1 : decode cX4_tellBarge 1 = .ok (.iconst 0, 1) := by decide +kernel
theorem dX4_tellBarge_2 : decode cX4_tellBarge 2 = .ok (.iaload, 1) := by decide +kernel
theorem dX4_tellBarge_3 : decode cX4_tellBarge 3 = .ok (.istore_n 2, 1) := by decide +kernel
theorem dX4_tellBarge_4 : decode cX4_tellBarge 4 = .ok (.aload_n 0, 1) := by decide +kernel
theorem dX4_tellBarge_5 : decode cX4_tellBarge 5 = .ok (.getfield 34, 3) := by decide +kernel
theorem dX4_tellBarge_8 : decode cX4_tellBarge 8 = .ok (.iload_n 2, 1) := by decide +kernel
theorem dX4_tellBarge_9 : decode cX4_tellBarge 9 = .ok (.iconst 1, 1) := by decide +kernel
theorem dX4_tellBarge_10 : decode cX4_tellBarge 10 = .ok (.bastore, 1) := by decide +kernel
theorem dX4_tellBarge_11 : decode cX4_tellBarge 11 = .ok (.aload_n 0, 1) := by decide +kernel
theorem dX4_tellBarge_12 : decode cX4_tellBarge 12 = .ok (.getfield 38, 3) := by decide +kernel
theorem dX4_tellBarge_15 : decode cX4_tellBarge 15 = .ok (.iload_n 2, 1) := by decide +kernel
theorem dX4_tellBarge_16 : decode cX4_tellBarge 16 = .ok (.aload_n 1, 1) := by decide +kernel
theorem dX4_tellBarge_17 : decode cX4_tellBarge 17 = .ok (.iconst 1, 1) := by decide +kernel
theorem dX4_tellBarge_18 : decode cX4_tellBarge 18 = .ok (.iaload, 1) := by decide +kernel
theorem dX4_tellBarge_19 : decode cX4_tellBarge 19 = .ok (.iastore, 1) := by decide +kernel
theorem dX4_tellBarge_20 : decode cX4_tellBarge 20 = .ok (.aload_n 0, 1) := by decide +kernel
theorem dX4_tellBarge_21 : decode cX4_tellBarge 21 = .ok (.getfield 41, 3) := by decide +kernel
theorem dX4_tellBarge_24 : decode cX4_tellBarge 24 = .ok (.iload_n 2, 1) := by decide +kernel
theorem dX4_tellBarge_25 : decode cX4_tellBarge 25 = .ok (.aload_n 1, 1) := by decide +kernel
theorem dX4_tellBarge_26 : decode cX4_tellBarge 26 = .ok (.iconst 2, 1) := by decide +kernel
theorem dX4_tellBarge_27 : decode cX4_tellBarge 27 = .ok (.iaload, 1) := by decide +kernel
theorem dX4_tellBarge_28 : decode cX4_tellBarge 28 = .ok (.iastore, 1) := by decide +kernel
theorem dX4_tellBarge_29 : decode cX4_tellBarge 29 = .ok (.aload_n 0, 1) := by decide +kernel
theorem dX4_tellBarge_30 : decode cX4_tellBarge 30 = .ok (.getfield 44, 3) := by decide +kernel
theorem dX4_tellBarge_33 : decode cX4_tellBarge 33 = .ok (.iload_n 2, 1) := by decide +kernel
theorem dX4_tellBarge_34 : decode cX4_tellBarge 34 = .ok (.aload_n 1, 1) := by decide +kernel
theorem dX4_tellBarge_35 : decode cX4_tellBarge 35 = .ok (.iconst 3, 1) := by decide +kernel
theorem dX4_tellBarge_36 : decode cX4_tellBarge 36 = .ok (.iaload, 1) := by decide +kernel
theorem dX4_tellBarge_37 : decode cX4_tellBarge 37 = .ok (.iastore, 1) := by decide +kernel
theorem dX4_tellBarge_38 : decode cX4_tellBarge 38 = .ok (.aload_n 0, 1) := by decide +kernel
theorem dX4_tellBarge_39 : decode cX4_tellBarge 39 = .ok (.getfield 47, 3) := by decide +kernel
theorem dX4_tellBarge_42 : decode cX4_tellBarge 42 = .ok (.iload_n 2, 1) := by decide +kernel
theorem dX4_tellBarge_43 : decode cX4_tellBarge 43 = .ok (.aload_n 1, 1) := by decide +kernel
theorem dX4_tellBarge_44 : decode cX4_tellBarge 44 = .ok (.iconst 4, 1) := by decide +kernel
theorem dX4_tellBarge_45 : decode cX4_tellBarge 45 = .ok (.iaload, 1) := by decide +kernel
theorem dX4_tellBarge_46 : decode cX4_tellBarge 46 = .ok (.iastore, 1) := by decide +kernel
theorem dX4_tellBarge_47 : decode cX4_tellBarge 47 = .ok (.return_, 1) := by decide +kernel
theorem dX4_pulled_0 : decode cX4_pulled 0 = .ok (.iload_n 0, 1) := by decide +kernel
theorem dX4_pulled_1 : decode cX4_pulled 1 = .ok (.iconst 3, 1) := by decide +kernel
theorem dX4_pulled_2 : decode cX4_pulled 2 = .ok (.if_icmp .eq 8, 3) := by decide +kernel
theorem dX4_pulled_5 : decode cX4_pulled 5 = .ok (.iload_n 0, 1) := by decide +kernel
theorem dX4_pulled_6 : decode cX4_pulled 6 = .ok (.iconst 4, 1) := by decide +kernel
theorem dX4_pulled_7 : decode cX4_pulled 7 = .ok (.if_icmp .ne 7, 3) := by decide +kernel
theorem dX4_pulled_10 : decode cX4_pulled 10 = .ok (.iconst 1, 1) := by decide +kernel
theorem dX4_pulled_11 : decode cX4_pulled 11 = .ok (.goto 4, 3) := by decide +kernel
theorem dX4_pulled_14 : decode cX4_pulled 14 = .ok (.iconst 0, 1) := by decide +kernel
theorem dX4_pulled_15 : decode cX4_pulled 15 = .ok (.istore_n 3, 1) := by decide +kernel
theorem dX4_pulled_16 : decode cX4_pulled 16 = .ok (.iload_n 2, 1) := by decide +kernel
theorem dX4_pulled_17 : decode cX4_pulled 17 = .ok (.iload_n 3, 1) := by decide +kernel
theorem dX4_pulled_18 : decode cX4_pulled 18 = .ok (.ifCond .eq 14, 3) := by decide +kernel
theorem dX4_pulled_21 : decode cX4_pulled 21 = .ok (.getstatic 61, 3) := by decide +kernel
theorem dX4_pulled_24 : decode cX4_pulled 24 = .ok (.iload_n 1, 1) := by decide +kernel
theorem dX4_pulled_25 : decode cX4_pulled 25 = .ok (.bipush 7, 2) := by decide +kernel
theorem dX4_pulled_27 : decode cX4_pulled 27 = .ok (.iand, 1) := by decide +kernel
theorem dX4_pulled_28 : decode cX4_pulled 28 = .ok (.iaload, 1) := by decide +kernel
theorem dX4_pulled_29 : decode cX4_pulled 29 = .ok (.goto 11, 3) := by decide +kernel
theorem dX4_pulled_32 : decode cX4_pulled 32 = .ok (.getstatic 64, 3) := by decide +kernel
theorem dX4_pulled_35 : decode cX4_pulled 35 = .ok (.iload_n 1, 1) := by decide +kernel
theorem dX4_pulled_36 : decode cX4_pulled 36 = .ok (.bipush 7, 2) := by decide +kernel
theorem dX4_pulled_38 : decode cX4_pulled 38 = .ok (.iand, 1) := by decide +kernel
theorem dX4_pulled_39 : decode cX4_pulled 39 = .ok (.iaload, 1) := by decide +kernel
theorem dX4_pulled_40 : decode cX4_pulled 40 = .ok (.imul, 1) := by decide +kernel
theorem dX4_pulled_41 : decode cX4_pulled 41 = .ok (.istore 4, 2) := by decide +kernel
theorem dX4_pulled_43 : decode cX4_pulled 43 = .ok (.iload_n 0, 1) := by decide +kernel
theorem dX4_pulled_44 : decode cX4_pulled 44 = .ok (.iconst 1, 1) := by decide +kernel
theorem dX4_pulled_45 : decode cX4_pulled 45 = .ok (.if_icmp .ne 8, 3) := by decide +kernel
theorem dX4_pulled_48 : decode cX4_pulled 48 = .ok (.iconst 2, 1) := by decide +kernel
theorem dX4_pulled_49 : decode cX4_pulled 49 = .ok (.iload 4, 2) := by decide +kernel
theorem dX4_pulled_51 : decode cX4_pulled 51 = .ok (.imul, 1) := by decide +kernel
theorem dX4_pulled_52 : decode cX4_pulled 52 = .ok (.ireturn, 1) := by decide +kernel
theorem dX4_pulled_53 : decode cX4_pulled 53 = .ok (.iload_n 0, 1) := by decide +kernel
theorem dX4_pulled_54 : decode cX4_pulled 54 = .ok (.iconst 4, 1) := by decide +kernel
theorem dX4_pulled_55 : decode cX4_pulled 55 = .ok (.if_icmp .ne 10, 3) := by decide +kernel
theorem dX4_pulled_58 : decode cX4_pulled 58 = .ok (.iload 4, 2) := by decide +kernel
theorem dX4_pulled_60 : decode cX4_pulled 60 = .ok (.iconst 2, 1) := by decide +kernel
theorem dX4_pulled_61 : decode cX4_pulled 61 = .ok (.idiv, 1) := by decide +kernel
theorem dX4_pulled_62 : decode cX4_pulled 62 = .ok (.goto 5, 3) := by decide +kernel
theorem dX4_pulled_65 : decode cX4_pulled 65 = .ok (.iload 4, 2) := by decide +kernel
theorem dX4_pulled_67 : decode cX4_pulled 67 = .ok (.ireturn, 1) := by decide +kernel
theorem dX4_stepOf_0 : decode cX4_stepOf 0 = .ok (.aload_n 0, 1) := by decide +kernel
theorem dX4_stepOf_1 : decode cX4_stepOf 1 = .ok (.getfield 25, 3) := by decide +kernel
theorem dX4_stepOf_4 : decode cX4_stepOf 4 = .ok (.iload_n 2, 1) := by decide +kernel
theorem dX4_stepOf_5 : decode cX4_stepOf 5 = .ok (.iaload, 1) := by decide +kernel
theorem dX4_stepOf_6 : decode cX4_stepOf 6 = .ok (.iconst 1, 1) := by decide +kernel
theorem dX4_stepOf_7 : decode cX4_stepOf 7 = .ok (.if_icmp .ne 8, 3) := by decide +kernel
theorem dX4_stepOf_10 : decode cX4_stepOf 10 = .ok (.iload_n 3, 1) := by decide +kernel
theorem dX4_stepOf_11 : decode cX4_stepOf 11 = .ok (.iconst 1, 1) := by decide +kernel
theorem dX4_stepOf_12 : decode cX4_stepOf 12 = .ok (.if_icmp .gt 13, 3) := by decide +kernel
theorem dX4_stepOf_15 : decode cX4_stepOf 15 = .ok (.aload_n 0, 1) := by decide +kernel
theorem dX4_stepOf_16 : decode cX4_stepOf 16 = .ok (.getfield 38, 3) := by decide +kernel
theorem dX4_stepOf_19 : decode cX4_stepOf 19 = .ok (.iload_n 1, 1) := by decide +kernel
theorem dX4_stepOf_20 : decode cX4_stepOf 20 = .ok (.iaload, 1) := by decide +kernel
theorem dX4_stepOf_21 : decode cX4_stepOf 21 = .ok (.iconst 1, 1) := by decide +kernel
theorem dX4_stepOf_22 : decode cX4_stepOf 22 = .ok (.if_icmp .ge 5, 3) := by decide +kernel
theorem dX4_stepOf_25 : decode cX4_stepOf 25 = .ok (.iconst 0, 1) := by decide +kernel
theorem dX4_stepOf_26 : decode cX4_stepOf 26 = .ok (.ireturn, 1) := by decide +kernel
theorem dX4_stepOf_27 : decode cX4_stepOf 27 = .ok (.iload_n 3, 1) := by decide +kernel
theorem dX4_stepOf_28 : decode cX4_stepOf 28 = .ok (.bipush 24, 2) := by decide +kernel
theorem dX4_stepOf_30 : decode cX4_stepOf 30 = .ok (.imul, 1) := by decide +kernel
theorem dX4_stepOf_31 : decode cX4_stepOf 31 = .ok (.iload 4, 2) := by decide +kernel
theorem dX4_stepOf_33 : decode cX4_stepOf 33 = .ok (.iadd, 1) := by decide +kernel
theorem dX4_stepOf_34 : decode cX4_stepOf 34 = .ok (.istore 5, 2) := by decide +kernel
theorem dX4_stepOf_36 : decode cX4_stepOf 36 = .ok (.aload_n 0, 1) := by decide +kernel
theorem dX4_stepOf_37 : decode cX4_stepOf 37 = .ok (.getfield 44, 3) := by decide +kernel
theorem dX4_stepOf_40 : decode cX4_stepOf 40 = .ok (.iload_n 1, 1) := by decide +kernel
theorem dX4_stepOf_41 : decode cX4_stepOf 41 = .ok (.iaload, 1) := by decide +kernel
theorem dX4_stepOf_42 : decode cX4_stepOf 42 = .ok (.aload_n 0, 1) := by decide +kernel
theorem dX4_stepOf_43 : decode cX4_stepOf 43 = .ok (.getfield 28, 3) := by decide +kernel
theorem dX4_stepOf_46 : decode cX4_stepOf 46 = .ok (.iload 5, 2) := by decide +kernel
theorem dX4_stepOf_48 : decode cX4_stepOf 48 = .ok (.iaload, 1) := by decide +kernel
theorem dX4_stepOf_49 : decode cX4_stepOf 49 = .ok (.aload_n 0, 1) := by decide +kernel
theorem dX4_stepOf_50 : decode cX4_stepOf 50 = .ok (.getfield 18, 3) := by decide +kernel
theorem dX4_stepOf_53 : decode cX4_stepOf 53 = .ok (.iload_n 2, 1) := by decide +kernel
theorem dX4_stepOf_54 : decode cX4_stepOf 54 = .ok (.iaload, 1) := by decide +kernel
theorem dX4_stepOf_55 : decode cX4_stepOf 55 = .ok (.isub, 1) := by decide +kernel
theorem dX4_stepOf_56 : decode cX4_stepOf 56 = .ok (.aload_n 0, 1) := by decide +kernel
theorem dX4_stepOf_57 : decode cX4_stepOf 57 = .ok (.getfield 31, 3) := by decide +kernel
theorem dX4_stepOf_60 : decode cX4_stepOf 60 = .ok (.iload 5, 2) := by decide +kernel
theorem dX4_stepOf_62 : decode cX4_stepOf 62 = .ok (.iaload, 1) := by decide +kernel
theorem dX4_stepOf_63 : decode cX4_stepOf 63 = .ok (.invokestatic 67, 3) := by decide +kernel
theorem dX4_stepOf_66 : decode cX4_stepOf 66 = .ok (.aload_n 0, 1) := by decide +kernel
theorem dX4_stepOf_67 : decode cX4_stepOf 67 = .ok (.getfield 38, 3) := by decide +kernel
theorem dX4_stepOf_70 : decode cX4_stepOf 70 = .ok (.iload_n 1, 1) := by decide +kernel
theorem dX4_stepOf_71 : decode cX4_stepOf 71 = .ok (.iaload, 1) := by decide +kernel
theorem dX4_stepOf_72 : decode cX4_stepOf 72 = .ok (.idiv, 1) := by decide +kernel
theorem dX4_stepOf_73 : decode cX4_stepOf 73 = .ok (.ireturn, 1) := by decide +kernel
theorem dX4_moved_0 : decode cX4_moved 0 = .ok (.iload_n 2, 1) := by decide +kernel
theorem dX4_moved_1 : decode cX4_moved 1 = .ok (.sipush 160, 3) := by decide +kernel
theorem dX4_moved_4 : decode cX4_moved 4 = .ok (.if_icmp .lt 7, 3) := by decide +kernel
theorem dX4_moved_7 : decode cX4_moved 7 = .ok (.sipush 160, 3) := by decide +kernel
theorem dX4_moved_10 : decode cX4_moved 10 = .ok (.ireturn, 1) := by decide +kernel
theorem dX4_moved_11 : decode cX4_moved 11 = .ok (.iload_n 2, 1) := by decide +kernel
theorem dX4_moved_12 : decode cX4_moved 12 = .ok (.bipush 20, 2) := by decide +kernel
theorem dX4_moved_14 : decode cX4_moved 14 = .ok (.idiv, 1) := by decide +kernel
theorem dX4_moved_15 : decode cX4_moved 15 = .ok (.istore 5, 2) := by decide +kernel
theorem dX4_moved_17 : decode cX4_moved 17 = .ok (.iload_n 2, 1) := by decide +kernel
theorem dX4_moved_18 : decode cX4_moved 18 = .ok (.bipush 20, 2) := by decide +kernel
theorem dX4_moved_20 : decode cX4_moved 20 = .ok (.irem, 1) := by decide +kernel
theorem dX4_moved_21 : decode cX4_moved 21 = .ok (.aload_n 0, 1) := by decide +kernel
theorem dX4_moved_22 : decode cX4_moved 22 = .ok (.iload_n 1, 1) := by decide +kernel
theorem dX4_moved_23 : decode cX4_moved 23 = .ok (.iload 5, 2) := by decide +kernel
theorem dX4_moved_25 : decode cX4_moved 25 = .ok (.iload_n 3, 1) := by decide +kernel
theorem dX4_moved_26 : decode cX4_moved 26 = .ok (.iload 4, 2) := by decide +kernel
theorem dX4_moved_28 : decode cX4_moved 28 = .ok (.invokevirtual 71, 3) := by decide +kernel
theorem dX4_moved_31 : decode cX4_moved 31 = .ok (.iadd, 1) := by decide +kernel
theorem dX4_moved_32 : decode cX4_moved 32 = .ok (.istore 6, 2) := by decide +kernel
theorem dX4_moved_34 : decode cX4_moved 34 = .ok (.iload 6, 2) := by decide +kernel
theorem dX4_moved_36 : decode cX4_moved 36 = .ok (.aload_n 0, 1) := by decide +kernel
theorem dX4_moved_37 : decode cX4_moved 37 = .ok (.getfield 22, 3) := by decide +kernel
theorem dX4_moved_40 : decode cX4_moved 40 = .ok (.iload 5, 2) := by decide +kernel
theorem dX4_moved_42 : decode cX4_moved 42 = .ok (.iaload, 1) := by decide +kernel
theorem dX4_moved_43 : decode cX4_moved 43 = .ok (.if_icmp .ge 12, 3) := by decide +kernel
theorem dX4_moved_46 : decode cX4_moved 46 = .ok (.iload 5, 2) := by decide +kernel
theorem dX4_moved_48 : decode cX4_moved 48 = .ok (.bipush 20, 2) := by decide +kernel
theorem dX4_moved_50 : decode cX4_moved 50 = .ok (.imul, 1) := by decide +kernel
theorem dX4_moved_51 : decode cX4_moved 51 = .ok (.iload 6, 2) := by decide +kernel
theorem dX4_moved_53 : decode cX4_moved 53 = .ok (.iadd, 1) := by decide +kernel
theorem dX4_moved_54 : decode cX4_moved 54 = .ok (.ireturn, 1) := by decide +kernel
theorem dX4_moved_55 : decode cX4_moved 55 = .ok (.aload_n 0, 1) := by decide +kernel
theorem dX4_moved_56 : decode cX4_moved 56 = .ok (.getfield 25, 3) := by decide +kernel
theorem dX4_moved_59 : decode cX4_moved 59 = .ok (.iload 5, 2) := by decide +kernel
theorem dX4_moved_61 : decode cX4_moved 61 = .ok (.iaload, 1) := by decide +kernel
theorem dX4_moved_62 : decode cX4_moved 62 = .ok (.iconst 2, 1) := by decide +kernel
theorem dX4_moved_63 : decode cX4_moved 63 = .ok (.if_icmp .ne 33, 3) := by decide +kernel
theorem dX4_moved_66 : decode cX4_moved 66 = .ok (.aload_n 0, 1) := by decide +kernel
theorem dX4_moved_67 : decode cX4_moved 67 = .ok (.getfield 31, 3) := by decide +kernel
theorem dX4_moved_70 : decode cX4_moved 70 = .ok (.iload 4, 2) := by decide +kernel
theorem dX4_moved_72 : decode cX4_moved 72 = .ok (.iaload, 1) := by decide +kernel
theorem dX4_moved_73 : decode cX4_moved 73 = .ok (.aload_n 0, 1) := by decide +kernel
theorem dX4_moved_74 : decode cX4_moved 74 = .ok (.getfield 15, 3) := by decide +kernel
theorem dX4_moved_77 : decode cX4_moved 77 = .ok (.if_icmp .le 19, 3) := by decide +kernel
theorem dX4_moved_80 : decode cX4_moved 80 = .ok (.iload 5, 2) := by decide +kernel
theorem dX4_moved_82 : decode cX4_moved 82 = .ok (.bipush 20, 2) := by decide +kernel
theorem dX4_moved_84 : decode cX4_moved 84 = .ok (.imul, 1) := by decide +kernel
theorem dX4_moved_85 : decode cX4_moved 85 = .ok (.aload_n 0, 1) := by decide +kernel
theorem dX4_moved_86 : decode cX4_moved 86 = .ok (.getfield 22, 3) := by decide +kernel
theorem dX4_moved_89 : decode cX4_moved 89 = .ok (.iload 5, 2) := by decide +kernel
theorem dX4_moved_91 : decode cX4_moved 91 = .ok (.iaload, 1) := by decide +kernel
theorem dX4_moved_92 : decode cX4_moved 92 = .ok (.iadd, 1) := by decide +kernel
theorem dX4_moved_93 : decode cX4_moved 93 = .ok (.iconst 1, 1) := by decide +kernel
theorem dX4_moved_94 : decode cX4_moved 94 = .ok (.isub, 1) := by decide +kernel
theorem dX4_moved_95 : decode cX4_moved 95 = .ok (.ireturn, 1) := by decide +kernel
theorem dX4_moved_96 : decode cX4_moved 96 = .ok (.iload 5, 2) := by decide +kernel
theorem dX4_moved_98 : decode cX4_moved 98 = .ok (.iconst 1, 1) := by decide +kernel
theorem dX4_moved_99 : decode cX4_moved 99 = .ok (.iadd, 1) := by decide +kernel
theorem dX4_moved_100 : decode cX4_moved 100 = .ok (.aload_n 0, 1) := by decide +kernel
theorem dX4_moved_101 : decode cX4_moved 101 = .ok (.getfield 9, 3) := by decide +kernel
theorem dX4_moved_104 : decode cX4_moved 104 = .ok (.if_icmp .ge 13, 3) := by decide +kernel
theorem dX4_moved_107 : decode cX4_moved 107 = .ok (.iload 5, 2) := by decide +kernel
theorem dX4_moved_109 : decode cX4_moved 109 = .ok (.iconst 1, 1) := by decide +kernel
theorem dX4_moved_110 : decode cX4_moved 110 = .ok (.iadd, 1) := by decide +kernel
theorem dX4_moved_111 : decode cX4_moved 111 = .ok (.bipush 20, 2) := by decide +kernel
theorem dX4_moved_113 : decode cX4_moved 113 = .ok (.imul, 1) := by decide +kernel
theorem dX4_moved_114 : decode cX4_moved 114 = .ok (.goto 6, 3) := by decide +kernel
theorem dX4_moved_117 : decode cX4_moved 117 = .ok (.sipush 160, 3) := by decide +kernel
theorem dX4_moved_120 : decode cX4_moved 120 = .ok (.ireturn, 1) := by decide +kernel
theorem dX5_init_0 : decode cX5_init 0 = .ok (.aload_n 0, 1) := by decide +kernel
theorem dX5_init_1 : decode cX5_init 1 = .ok (.invokespecial 3, 3) := by decide +kernel
theorem dX5_init_4 : decode cX5_init 4 = .ok (.aload_n 0, 1) := by decide +kernel
theorem dX5_init_5 : decode cX5_init 5 = .ok (.iconst 0, 1) := by decide +kernel
theorem dX5_init_6 : decode cX5_init 6 = .ok (.putfield 9, 3) := by decide +kernel
theorem dX5_init_9 : decode cX5_init 9 = .ok (.aload_n 0, 1) := by decide +kernel
theorem dX5_init_10 : decode cX5_init 10 = .ok (.iconst 0, 1) := by decide +kernel
theorem dX5_init_11 : decode cX5_init 11 = .ok (.putfield 15, 3) := by decide +kernel
theorem dX5_init_14 : decode cX5_init 14 = .ok (.aload_n 0, 1) := by decide +kernel
theorem dX5_init_15 : decode cX5_init 15 = .ok (.sipush 200, 3) := by decide +kernel
theorem dX5_init_18 : decode cX5_init 18 = .ok (.newarray .int, 2) := by decide +kernel
theorem dX5_init_20 : decode cX5_init 20 = .ok (.putfield 18, 3) := by decide +kernel
theorem dX5_init_23 : decode cX5_init 23 = .ok (.aload_n 0, 1) := by decide +kernel
theorem dX5_init_24 : decode cX5_init 24 = .ok (.iconst 3, 1) := by decide +kernel
theorem dX5_init_25 : decode cX5_init 25 = .ok (.putfield 22, 3) := by decide +kernel
theorem dX5_init_28 : decode cX5_init 28 = .ok (.aload_n 0, 1) := by decide +kernel
theorem dX5_init_29 : decode cX5_init 29 = .ok (.iconst 0, 1) := by decide +kernel
theorem dX5_init_30 : decode cX5_init 30 = .ok (.putfield 25, 3) := by decide +kernel
theorem dX5_init_33 : decode cX5_init 33 = .ok (.aload_n 0, 1) := by decide +kernel
theorem dX5_init_34 : decode cX5_init 34 = .ok (.iconst 0, 1) := by decide +kernel
theorem dX5_init_35 : decode cX5_init 35 = .ok (.putfield 28, 3) := by decide +kernel
theorem dX5_init_38 : decode cX5_init 38 = .ok (.aload_n 0, 1) := by decide +kernel
theorem dX5_init_39 : decode cX5_init 39 = .ok (.iconst (-1), 1) := by decide +kernel
theorem dX5_init_40 : decode cX5_init 40 = .ok (.putfield 31, 3) := by decide +kernel
theorem dX5_init_43 : decode cX5_init 43 = .ok (.aload_n 0, 1) := by decide +kernel
theorem dX5_init_44 : decode cX5_init 44 = .ok (.iconst 0, 1) := by decide +kernel
end
section
theorem dX5_init_45 : decode cX5_init 45 = .ok (.putfield 34, 3) := by decide +kernel
theorem dX5_init_48 : decode cX5_init 48 = .ok (.aload_n 0, 1) := by decide +kernel
theorem dX5_init_49 : decode cX5_init 49 = .ok (.iconst 5, 1) := by decide +kernel
theorem dX5_init_50 : decode cX5_init 50 = .ok (.newarray .int, 2) := by decide +kernel
theorem dX5_init_52 : decode cX5_init 52 = .ok (.putfield 37, 3) := by decide +kernel
theorem dX5_init_55 : decode cX5_init 55 = .ok (.aload_n 0, 1) := by decide +kernel
theorem dX5_init_56 : decode cX5_init 56 = .ok (.iconst 0, 1) := by decide +kernel
theorem dX5_init_57 : decode cX5_init 57 = .ok (.putfield 40, 3) := by decide +kernel
theorem dX5_init_60 : decode cX5_init 60 = .ok (.return_, 1) := by decide +kernel
theorem dX5_append_0 : decode cX5_append 0 = .ok (.aload_n 0, 1) := by decide +kernel
theorem dX5_append_1 : decode cX5_append 1 = .ok (.getfield 9, 3) := by decide +kernel
theorem dX5_append_4 : decode cX5_append 4 = .ok (.iload_n 3, 1) := by decide +kernel
theorem dX5_append_5 : decode cX5_append 5 = .ok (.iadd, 1) := by decide +kernel
theorem dX5_append_6 : decode cX5_append 6 = .ok (.sipush 200, 3) := by decide +kernel
theorem dX5_append_9 : decode cX5_append 9 = .ok (.if_icmp .le 5, 3) := by decide +kernel
theorem dX5_append_12 : decode cX5_append 12 = .ok (.iconst 0, 1) := by decide +kernel
theorem dX5_append_13 : decode cX5_append 13 = .ok (.ireturn, 1) := by decide +kernel
theorem dX5_append_14 : decode cX5_append 14 = .ok (.iconst 0, 1) := by decide +kernel
theorem dX5_append_15 : decode cX5_append 15 = .ok (.istore 4, 2) := by decide +kernel
theorem dX5_append_17 : decode cX5_append 17 = .ok (.iload 4, 2) := by decide +kernel
theorem dX5_append_19 : decode cX5_append 19 = .ok (.iload_n 3, 1) := by decide +kernel
theorem dX5_append_20 : decode cX5_append 20 = .ok (.if_icmp .ge 33, 3) := by decide +kernel
theorem dX5_append_23 : decode cX5_append 23 = .ok (.aload_n 0, 1) := by decide +kernel
theorem dX5_append_24 : decode cX5_append 24 = .ok (.getfield 18, 3) := by decide +kernel
theorem dX5_append_27 : decode cX5_append 27 = .ok (.aload_n 0, 1) := by decide +kernel
theorem dX5_append_28 : decode cX5_append 28 = .ok (.getfield 9, 3) := by decide +kernel
theorem dX5_append_31 : decode cX5_append 31 = .ok (.iload 4, 2) := by decide +kernel
theorem dX5_append_33 : decode cX5_append 33 = .ok (.iadd, 1) := by decide +kernel
theorem dX5_append_34 : decode cX5_append 34 = .ok (.lload_n 1, 1) := by decide +kernel
theorem dX5_append_35 : decode cX5_append 35 = .ok (.bipush 8, 2) := by decide +kernel
theorem dX5_append_37 : decode cX5_append 37 = .ok (.iload 4, 2) := by decide +kernel
theorem dX5_append_39 : decode cX5_append 39 = .ok (.imul, 1) := by decide +kernel
theorem dX5_append_40 : decode cX5_append 40 = .ok (.lshr, 1) := by decide +kernel
theorem dX5_append_41 : decode cX5_append 41 = .ok (.ldc2_w 43, 3) := by decide +kernel
theorem dX5_append_44 : decode cX5_append 44 = .ok (.land, 1) := by decide +kernel
theorem dX5_append_45 : decode cX5_append 45 = .ok (.l2i, 1) := by decide +kernel
theorem dX5_append_46 : decode cX5_append 46 = .ok (.iastore, 1) := by decide +kernel
theorem dX5_append_47 : decode cX5_append 47 = .ok (.iinc 4 1, 3) := by decide +kernel
theorem dX5_append_50 : decode cX5_append 50 = .ok (.goto (-33), 3) := by decide +kernel
theorem dX5_append_53 : decode cX5_append 53 = .ok (.aload_n 0, 1) := by decide +kernel
theorem dX5_append_54 : decode cX5_append 54 = .ok (.dup, 1) := by decide +kernel
theorem dX5_append_55 : decode cX5_append 55 = .ok (.getfield 9, 3) := by decide +kernel
theorem dX5_append_58 : decode cX5_append 58 = .ok (.iload_n 3, 1) := by decide +kernel
theorem dX5_append_59 : decode cX5_append 59 = .ok (.iadd, 1) := by decide +kernel
theorem dX5_append_60 : decode cX5_append 60 = .ok (.putfield 9, 3) := by decide +kernel
theorem dX5_append_63 : decode cX5_append 63 = .ok (.iconst 1, 1) := by decide +kernel
theorem dX5_append_64 : decode cX5_append 64 = .ok (.ireturn, 1) := by decide +kernel
theorem dX5_read_0 : decode cX5_read 0 = .ok (.aload_n 0, 1) := by decide +kernel
theorem dX5_read_1 : decode cX5_read 1 = .ok (.iconst 0, 1) := by decide +kernel
theorem dX5_read_2 : decode cX5_read 2 = .ok (.putfield 28, 3) := by decide +kernel
theorem dX5_read_5 : decode cX5_read 5 = .ok (.aload_n 0, 1) := by decide +kernel
theorem dX5_read_6 : decode cX5_read 6 = .ok (.iconst 0, 1) := by decide +kernel
theorem dX5_read_7 : decode cX5_read 7 = .ok (.putfield 15, 3) := by decide +kernel
theorem dX5_read_10 : decode cX5_read 10 = .ok (.aload_n 0, 1) := by decide +kernel
theorem dX5_read_11 : decode cX5_read 11 = .ok (.aload_n 1, 1) := by decide +kernel
theorem dX5_read_12 : decode cX5_read 12 = .ok (.getfield 45, 3) := by decide +kernel
theorem dX5_read_15 : decode cX5_read 15 = .ok (.putfield 40, 3) := by decide +kernel
theorem dX5_read_18 : decode cX5_read 18 = .ok (.iconst 0, 1) := by decide +kernel
theorem dX5_read_19 : decode cX5_read 19 = .ok (.istore_n 3, 1) := by decide +kernel
theorem dX5_read_20 : decode cX5_read 20 = .ok (.iload_n 3, 1) := by decide +kernel
theorem dX5_read_21 : decode cX5_read 21 = .ok (.bipush 8, 2) := by decide +kernel
theorem dX5_read_23 : decode cX5_read 23 = .ok (.if_icmp .ge 80, 3) := by decide +kernel
theorem dX5_read_26 : decode cX5_read 26 = .ok (.aload_n 0, 1) := by decide +kernel
theorem dX5_read_27 : decode cX5_read 27 = .ok (.invokevirtual 48, 3) := by decide +kernel
theorem dX5_read_30 : decode cX5_read 30 = .ok (.ifCond .ne 8, 3) := by decide +kernel
theorem dX5_read_33 : decode cX5_read 33 = .ok (.aload_n 0, 1) := by decide +kernel
theorem dX5_read_34 : decode cX5_read 34 = .ok (.getfield 25, 3) := by decide +kernel
theorem dX5_read_37 : decode cX5_read 37 = .ok (.ireturn, 1) := by decide +kernel
theorem dX5_read_38 : decode cX5_read 38 = .ok (.aload_n 0, 1) := by decide +kernel
theorem dX5_read_39 : decode cX5_read 39 = .ok (.dup, 1) := by decide +kernel
theorem dX5_read_40 : decode cX5_read 40 = .ok (.getfield 15, 3) := by decide +kernel
theorem dX5_read_43 : decode cX5_read 43 = .ok (.iconst 1, 1) := by decide +kernel
theorem dX5_read_44 : decode cX5_read 44 = .ok (.iadd, 1) := by decide +kernel
theorem dX5_read_45 : decode cX5_read 45 = .ok (.putfield 15, 3) := by decide +kernel
theorem dX5_read_48 : decode cX5_read 48 = .ok (.iload_n 2, 1) := by decide +kernel
theorem dX5_read_49 : decode cX5_read 49 = .ok (.ifCond .eq 15, 3) := by decide +kernel
theorem dX5_read_52 : decode cX5_read 52 = .ok (.aload_n 1, 1) := by decide +kernel
theorem dX5_read_53 : decode cX5_read 53 = .ok (.aload_n 0, 1) := by decide +kernel
theorem dX5_read_54 : decode cX5_read 54 = .ok (.getfield 31, 3) := by decide +kernel
theorem dX5_read_57 : decode cX5_read 57 = .ok (.aload_n 0, 1) := by decide +kernel
theorem dX5_read_58 : decode cX5_read 58 = .ok (.getfield 37, 3) := by decide +kernel
theorem dX5_read_61 : decode cX5_read 61 = .ok (.invokevirtual 52, 3) := by decide +kernel
theorem dX5_read_64 : decode cX5_read 64 = .ok (.aload_n 0, 1) := by decide +kernel
theorem dX5_read_65 : decode cX5_read 65 = .ok (.invokevirtual 56, 3) := by decide +kernel
theorem dX5_read_68 : decode cX5_read 68 = .ok (.aload_n 0, 1) := by decide +kernel
theorem dX5_read_69 : decode cX5_read 69 = .ok (.getfield 22, 3) := by decide +kernel
theorem dX5_read_72 : decode cX5_read 72 = .ok (.iconst 3, 1) := by decide +kernel
theorem dX5_read_73 : decode cX5_read 73 = .ok (.if_icmp .ne 5, 3) := by decide +kernel
theorem dX5_read_76 : decode cX5_read 76 = .ok (.iconst (-1), 1) := by decide +kernel
theorem dX5_read_77 : decode cX5_read 77 = .ok (.ireturn, 1) := by decide +kernel
theorem dX5_read_78 : decode cX5_read 78 = .ok (.aload_n 0, 1) := by decide +kernel
theorem dX5_read_79 : decode cX5_read 79 = .ok (.getfield 18, 3) := by decide +kernel
theorem dX5_read_82 : decode cX5_read 82 = .ok (.aload_n 0, 1) := by decide +kernel
theorem dX5_read_83 : decode cX5_read 83 = .ok (.getfield 25, 3) := by decide +kernel
theorem dX5_read_86 : decode cX5_read 86 = .ok (.iaload, 1) := by decide +kernel
theorem dX5_read_87 : decode cX5_read 87 = .ok (.bipush 59, 2) := by decide +kernel
theorem dX5_read_89 : decode cX5_read 89 = .ok (.if_icmp .eq 8, 3) := by decide +kernel
theorem dX5_read_92 : decode cX5_read 92 = .ok (.aload_n 0, 1) := by decide +kernel
theorem dX5_read_93 : decode cX5_read 93 = .ok (.getfield 25, 3) := by decide +kernel
theorem dX5_read_96 : decode cX5_read 96 = .ok (.ireturn, 1) := by decide +kernel
theorem dX5_read_97 : decode cX5_read 97 = .ok (.iinc 3 1, 3) := by decide +kernel
theorem dX5_read_100 : decode cX5_read 100 = .ok (.goto (-80), 3) := by decide +kernel
theorem dX5_read_103 : decode cX5_read 103 = .ok (.aload_n 0, 1) := by decide +kernel
theorem dX5_read_104 : decode cX5_read 104 = .ok (.getfield 25, 3) := by decide +kernel
theorem dX5_read_107 : decode cX5_read 107 = .ok (.ireturn, 1) := by decide +kernel
theorem dX5_readLine_0 : decode cX5_readLine 0 = .ok (.aload_n 0, 1) := by decide +kernel
theorem dX5_readLine_1 : decode cX5_readLine 1 = .ok (.invokevirtual 56, 3) := by decide +kernel
theorem dX5_readLine_4 : decode cX5_readLine 4 = .ok (.aload_n 0, 1) := by decide +kernel
theorem dX5_readLine_5 : decode cX5_readLine 5 = .ok (.iconst 0, 1) := by decide +kernel
theorem dX5_readLine_6 : decode cX5_readLine 6 = .ok (.putfield 34, 3) := by decide +kernel
theorem dX5_readLine_9 : decode cX5_readLine 9 = .ok (.aload_n 0, 1) := by decide +kernel
theorem dX5_readLine_10 : decode cX5_readLine 10 = .ok (.aload_n 0, 1) := by decide +kernel
theorem dX5_readLine_11 : decode cX5_readLine 11 = .ok (.invokevirtual 59, 3) := by decide +kernel
theorem dX5_readLine_14 : decode cX5_readLine 14 = .ok (.putfield 31, 3) := by decide +kernel
theorem dX5_readLine_17 : decode cX5_readLine 17 = .ok (.aload_n 0, 1) := by decide +kernel
theorem dX5_readLine_18 : decode cX5_readLine 18 = .ok (.getfield 31, 3) := by decide +kernel
theorem dX5_readLine_21 : decode cX5_readLine 21 = .ok (.tableswitch 225 0 7 #[47, 47, 47, 92, 99, 159, 210, 217], 47) := by decide +kernel
theorem dX5_readLine_68 : decode cX5_readLine 68 = .ok (.aload_n 0, 1) := by decide +kernel
theorem dX5_readLine_69 : decode cX5_readLine 69 = .ok (.dup, 1) := by decide +kernel
theorem dX5_readLine_70 : decode cX5_readLine 70 = .ok (.getfield 40, 3) := by decide +kernel
theorem dX5_readLine_73 : decode cX5_readLine 73 = .ok (.iconst 1, 1) := by decide +kernel
theorem dX5_readLine_74 : decode cX5_readLine 74 = .ok (.iadd, 1) := by decide +kernel
theorem dX5_readLine_75 : decode cX5_readLine 75 = .ok (.putfield 40, 3) := by decide +kernel
theorem dX5_readLine_78 : decode cX5_readLine 78 = .ok (.aload_n 0, 1) := by decide +kernel
theorem dX5_readLine_79 : decode cX5_readLine 79 = .ok (.getfield 40, 3) := by decide +kernel
theorem dX5_readLine_82 : decode cX5_readLine 82 = .ok (.bipush 8, 2) := by decide +kernel
theorem dX5_readLine_84 : decode cX5_readLine 84 = .ok (.if_icmp .gt 27, 3) := by decide +kernel
theorem dX5_readLine_87 : decode cX5_readLine 87 = .ok (.aload_n 0, 1) := by decide +kernel
theorem dX5_readLine_88 : decode cX5_readLine 88 = .ok (.iconst 0, 1) := by decide +kernel
theorem dX5_readLine_89 : decode cX5_readLine 89 = .ok (.bipush 7, 2) := by decide +kernel
theorem dX5_readLine_91 : decode cX5_readLine 91 = .ok (.invokevirtual 63, 3) := by decide +kernel
theorem dX5_readLine_94 : decode cX5_readLine 94 = .ok (.ifCond .eq 17, 3) := by decide +kernel
theorem dX5_readLine_97 : decode cX5_readLine 97 = .ok (.aload_n 0, 1) := by decide +kernel
theorem dX5_readLine_98 : decode cX5_readLine 98 = .ok (.iconst 1, 1) := by decide +kernel
theorem dX5_readLine_99 : decode cX5_readLine 99 = .ok (.bipush 20, 2) := by decide +kernel
theorem dX5_readLine_101 : decode cX5_readLine 101 = .ok (.invokevirtual 63, 3) := by decide +kernel
theorem dX5_readLine_104 : decode cX5_readLine 104 = .ok (.ifCond .eq 7, 3) := by decide +kernel
theorem dX5_readLine_107 : decode cX5_readLine 107 = .ok (.iconst 1, 1) := by decide +kernel
theorem dX5_readLine_108 : decode cX5_readLine 108 = .ok (.goto 4, 3) := by decide +kernel
theorem dX5_readLine_111 : decode cX5_readLine 111 = .ok (.iconst 0, 1) := by decide +kernel
theorem dX5_readLine_112 : decode cX5_readLine 112 = .ok (.ireturn, 1) := by decide +kernel
theorem dX5_readLine_113 : decode cX5_readLine 113 = .ok (.aload_n 0, 1) := by decide +kernel
theorem dX5_readLine_114 : decode cX5_readLine 114 = .ok (.iconst 0, 1) := by decide +kernel
theorem dX5_readLine_115 : decode cX5_readLine 115 = .ok (.putfield 40, 3) := by decide +kernel
theorem dX5_readLine_118 : decode cX5_readLine 118 = .ok (.iconst 1, 1) := by decide +kernel
theorem dX5_readLine_119 : decode cX5_readLine 119 = .ok (.ireturn, 1) := by decide +kernel
theorem dX5_readLine_120 : decode cX5_readLine 120 = .ok (.aload_n 0, 1) := by decide +kernel
theorem dX5_readLine_121 : decode cX5_readLine 121 = .ok (.iconst 0, 1) := by decide +kernel
theorem dX5_readLine_122 : decode cX5_readLine 122 = .ok (.iconst 5, 1) := by decide +kernel
theorem dX5_readLine_123 : decode cX5_readLine 123 = .ok (.invokevirtual 63, 3) := by decide +kernel
theorem dX5_readLine_126 : decode cX5_readLine 126 = .ok (.ifCond .eq 52, 3) := by decide +kernel
theorem dX5_readLine_129 : decode cX5_readLine 129 = .ok (.aload_n 0, 1) := by decide +kernel
theorem dX5_readLine_130 : decode cX5_readLine 130 = .ok (.iconst 0, 1) := by decide +kernel
theorem dX5_readLine_131 : decode cX5_readLine 131 = .ok (.bipush 23, 2) := by decide +kernel
theorem dX5_readLine_133 : decode cX5_readLine 133 = .ok (.invokevirtual 63, 3) := by decide +kernel
theorem dX5_readLine_136 : decode cX5_readLine 136 = .ok (.ifCond .eq 42, 3) := by decide +kernel
theorem dX5_readLine_139 : decode cX5_readLine 139 = .ok (.aload_n 0, 1) := by decide +kernel
theorem dX5_readLine_140 : decode cX5_readLine 140 = .ok (.aload_n 0, 1) := by decide +kernel
theorem dX5_readLine_141 : decode cX5_readLine 141 = .ok (.getfield 37, 3) := by decide +kernel
theorem dX5_readLine_144 : decode cX5_readLine 144 = .ok (.iconst 1, 1) := by decide +kernel
theorem dX5_readLine_145 : decode cX5_readLine 145 = .ok (.iaload, 1) := by decide +kernel
theorem dX5_readLine_146 : decode cX5_readLine 146 = .ok (.bipush 23, 2) := by decide +kernel
theorem dX5_readLine_148 : decode cX5_readLine 148 = .ok (.invokevirtual 63, 3) := by decide +kernel
theorem dX5_readLine_151 : decode cX5_readLine 151 = .ok (.ifCond .eq 27, 3) := by decide +kernel
theorem dX5_readLine_154 : decode cX5_readLine 154 = .ok (.aload_n 0, 1) := by decide +kernel
theorem dX5_readLine_155 : decode cX5_readLine 155 = .ok (.iconst 0, 1) := by decide +kernel
theorem dX5_readLine_156 : decode cX5_readLine 156 = .ok (.bipush 7, 2) := by decide +kernel
theorem dX5_readLine_158 : decode cX5_readLine 158 = .ok (.invokevirtual 63, 3) := by decide +kernel
theorem dX5_readLine_161 : decode cX5_readLine 161 = .ok (.ifCond .eq 17, 3) := by decide +kernel
theorem dX5_readLine_164 : decode cX5_readLine 164 = .ok (.aload_n 0, 1) := by decide +kernel
theorem dX5_readLine_165 : decode cX5_readLine 165 = .ok (.iconst 0, 1) := by decide +kernel
theorem dX5_readLine_166 : decode cX5_readLine 166 = .ok (.bipush 9, 2) := by decide +kernel
theorem dX5_readLine_168 : decode cX5_readLine 168 = .ok (.invokevirtual 63, 3) := by decide +kernel
theorem dX5_readLine_171 : decode cX5_readLine 171 = .ok (.ifCond .eq 7, 3) := by decide +kernel
theorem dX5_readLine_174 : decode cX5_readLine 174 = .ok (.iconst 1, 1) := by decide +kernel
theorem dX5_readLine_175 : decode cX5_readLine 175 = .ok (.goto 4, 3) := by decide +kernel
theorem dX5_readLine_178 : decode cX5_readLine 178 = .ok (.iconst 0, 1) := by decide +kernel
theorem dX5_readLine_179 : decode cX5_readLine 179 = .ok (.ireturn, 1) := by decide +kernel
theorem dX5_readLine_180 : decode cX5_readLine 180 = .ok (.aload_n 0, 1) := by decide +kernel
theorem dX5_readLine_181 : decode cX5_readLine 181 = .ok (.iconst 0, 1) := by decide +kernel
theorem dX5_readLine_182 : decode cX5_readLine 182 = .ok (.iconst 3, 1) := by decide +kernel
theorem dX5_readLine_183 : decode cX5_readLine 183 = .ok (.invokevirtual 63, 3) := by decide +kernel
theorem dX5_readLine_186 : decode cX5_readLine 186 = .ok (.ifCond .eq 43, 3) := by decide +kernel
theorem dX5_readLine_189 : decode cX5_readLine 189 = .ok (.aload_n 0, 1) := by decide +kernel
theorem dX5_readLine_190 : decode cX5_readLine 190 = .ok (.iconst 1, 1) := by decide +kernel
theorem dX5_readLine_191 : decode cX5_readLine 191 = .ok (.bipush 60, 2) := by decide +kernel
theorem dX5_readLine_193 : decode cX5_readLine 193 = .ok (.invokevirtual 63, 3) := by decide +kernel
theorem dX5_readLine_196 : decode cX5_readLine 196 = .ok (.ifCond .eq 33, 3) := by decide +kernel
theorem dX5_readLine_199 : decode cX5_readLine 199 = .ok (.aload_n 0, 1) := by decide +kernel
theorem dX5_readLine_200 : decode cX5_readLine 200 = .ok (.iconst 1, 1) := by decide +kernel
theorem dX5_readLine_201 : decode cX5_readLine 201 = .ok (.iconst 5, 1) := by decide +kernel
theorem dX5_readLine_202 : decode cX5_readLine 202 = .ok (.invokevirtual 63, 3) := by decide +kernel
theorem dX5_readLine_205 : decode cX5_readLine 205 = .ok (.ifCond .eq 24, 3) := by decide +kernel
theorem dX5_readLine_208 : decode cX5_readLine 208 = .ok (.aload_n 0, 1) := by decide +kernel
theorem dX5_readLine_209 : decode cX5_readLine 209 = .ok (.invokevirtual 67, 3) := by decide +kernel
theorem dX5_readLine_212 : decode cX5_readLine 212 = .ok (.ifCond .eq 17, 3) := by decide +kernel
theorem dX5_readLine_215 : decode cX5_readLine 215 = .ok (.aload_n 0, 1) := by decide +kernel
theorem dX5_readLine_216 : decode cX5_readLine 216 = .ok (.iconst 0, 1) := by decide +kernel
theorem dX5_readLine_217 : decode cX5_readLine 217 = .ok (.bipush 99, 2) := by decide +kernel
theorem dX5_readLine_219 : decode cX5_readLine 219 = .ok (.invokevirtual 63, 3) := by decide +kernel
theorem dX5_readLine_222 : decode cX5_readLine 222 = .ok (.ifCond .eq 7, 3) := by decide +kernel
theorem dX5_readLine_225 : decode cX5_readLine 225 = .ok (.iconst 1, 1) := by decide +kernel
theorem dX5_readLine_226 : decode cX5_readLine 226 = .ok (.goto 4, 3) := by decide +kernel
theorem dX5_readLine_229 : decode cX5_readLine 229 = .ok (.iconst 0, 1) := by decide +kernel
theorem dX5_readLine_230 : decode cX5_readLine 230 = .ok (.ireturn, 1) := by decide +kernel
theorem dX5_readLine_231 : decode cX5_readLine 231 = .ok (.aload_n 0, 1) := by decide +kernel
theorem dX5_readLine_232 : decode cX5_readLine 232 = .ok (.iconst 0, 1) := by decide +kernel
theorem dX5_readLine_233 : decode cX5_readLine 233 = .ok (.iconst 3, 1) := by decide +kernel
theorem dX5_readLine_234 : decode cX5_readLine 234 = .ok (.invokevirtual 63, 3) := by decide +kernel
theorem dX5_readLine_237 : decode cX5_readLine 237 = .ok (.ireturn, 1) := by decide +kernel
theorem dX5_readLine_238 : decode cX5_readLine 238 = .ok (.aload_n 0, 1) := by decide +kernel
theorem dX5_readLine_239 : decode cX5_readLine 239 = .ok (.iconst 0, 1) := by decide +kernel
theorem dX5_readLine_240 : decode cX5_readLine 240 = .ok (.bipush 9, 2) := by decide +kernel
theorem dX5_readLine_242 : decode cX5_readLine 242 = .ok (.invokevirtual 63, 3) := by decide +kernel
theorem dX5_readLine_245 : decode cX5_readLine 245 = .ok (.ireturn, 1) := by decide +kernel
theorem dX5_readLine_246 : decode cX5_readLine 246 = .ok (.iconst 0, 1) := by decide +kernel
theorem dX5_readLine_247 : decode cX5_readLine 247 = .ok (.ireturn, 1) := by decide +kernel
theorem dX5_wordOfLine_0 : decode cX5_wordOfLine 0 = .ok (.aload_n 0, 1) := by decide +kernel
theorem dX5_wordOfLine_1 : decode cX5_wordOfLine 1 = .ok (.ldc 70, 2) := by decide +kernel
theorem dX5_wordOfLine_3 : decode cX5_wordOfLine 3 = .ok (.invokevirtual 72, 3) := by decide +kernel
theorem dX5_wordOfLine_6 : decode cX5_wordOfLine 6 = .ok (.ifCond .eq 5, 3) := by decide +kernel
theorem dX5_wordOfLine_9 : decode cX5_wordOfLine 9 = .ok (.iconst 0, 1) := by decide +kernel
theorem dX5_wordOfLine_10 : decode cX5_wordOfLine 10 = .ok (.ireturn, 1) := by decide +kernel
theorem dX5_wordOfLine_11 : decode cX5_wordOfLine 11 = .ok (.aload_n 0, 1) := by decide +kernel
theorem dX5_wordOfLine_12 : decode cX5_wordOfLine 12 = .ok (.ldc 76, 2) := by decide +kernel
theorem dX5_wordOfLine_14 : decode cX5_wordOfLine 14 = .ok (.invokevirtual 72, 3) := by decide +kernel
theorem dX5_wordOfLine_17 : decode cX5_wordOfLine 17 = .ok (.ifCond .eq 5, 3) := by decide +kernel
theorem dX5_wordOfLine_20 : decode cX5_wordOfLine 20 = .ok (.iconst 1, 1) := by decide +kernel
theorem dX5_wordOfLine_21 : decode cX5_wordOfLine 21 = .ok (.ireturn, 1) := by decide +kernel
theorem dX5_wordOfLine_22 : decode cX5_wordOfLine 22 = .ok (.aload_n 0, 1) := by decide +kernel
theorem dX5_wordOfLine_23 : decode cX5_wordOfLine 23 = .ok (.ldc 78, 2) := by decide +kernel
theorem dX5_wordOfLine_25 : decode cX5_wordOfLine 25 = .ok (.invokevirtual 72, 3) := by decide +kernel
theorem dX5_wordOfLine_28 : decode cX5_wordOfLine 28 = .ok (.ifCond .eq 5, 3) := by decide +kernel
theorem dX5_wordOfLine_31 : decode cX5_wordOfLine 31 = .ok (.iconst 2, 1) := by decide +kernel
theorem dX5_wordOfLine_32 : decode cX5_wordOfLine 32 = .ok (.ireturn, 1) := by decide +kernel
theorem dX5_wordOfLine_33 : decode cX5_wordOfLine 33 = .ok (.aload_n 0, 1) := by decide +kernel
theorem dX5_wordOfLine_34 : decode cX5_wordOfLine 34 = .ok (.ldc 80, 2) := by decide +kernel
theorem dX5_wordOfLine_36 : decode cX5_wordOfLine 36 = .ok (.invokevirtual 72, 3) := by decide +kernel
theorem dX5_wordOfLine_39 : decode cX5_wordOfLine 39 = .ok (.ifCond .eq 5, 3) := by decide +kernel
theorem dX5_wordOfLine_42 : decode cX5_wordOfLine 42 = .ok (.iconst 3, 1) := by decide +kernel
theorem dX5_wordOfLine_43 : decode cX5_wordOfLine 43 = .ok (.ireturn, 1) := by decide +kernel
theorem dX5_wordOfLine_44 : decode cX5_wordOfLine 44 = .ok (.aload_n 0, 1) := by decide +kernel
theorem dX5_wordOfLine_45 : decode cX5_wordOfLine 45 = .ok (.ldc 82, 2) := by decide +kernel
theorem dX5_wordOfLine_47 : decode cX5_wordOfLine 47 = .ok (.invokevirtual 72, 3) := by decide +kernel
theorem dX5_wordOfLine_50 : decode cX5_wordOfLine 50 = .ok (.ifCond .eq 5, 3) := by decide +kernel
theorem dX5_wordOfLine_53 : decode cX5_wordOfLine 53 = .ok (.iconst 4, 1) := by decide +kernel
theorem dX5_wordOfLine_54 : decode cX5_wordOfLine 54 = .ok (.ireturn, 1) := by decide +kernel
theorem dX5_wordOfLine_55 : decode cX5_wordOfLine 55 = .ok (.aload_n 0, 1) := by decide +kernel
theorem dX5_wordOfLine_56 : decode cX5_wordOfLine 56 = .ok (.ldc 84, 2) := by decide +kernel
theorem dX5_wordOfLine_58 : decode cX5_wordOfLine 58 = .ok (.invokevirtual 72, 3) := by decide +kernel
theorem dX5_wordOfLine_61 : decode cX5_wordOfLine 61 = .ok (.ifCond .eq 5, 3) := by decide +kernel
theorem dX5_wordOfLine_64 : decode cX5_wordOfLine 64 = .ok (.iconst 5, 1) := by decide +kernel
theorem dX5_wordOfLine_65 : decode cX5_wordOfLine 65 = .ok (.ireturn, 1) := by decide +kernel
theorem dX5_wordOfLine_66 : decode cX5_wordOfLine 66 = .ok (.aload_n 0, 1) := by decide +kernel
theorem dX5_wordOfLine_67 : decode cX5_wordOfLine 67 = .ok (.ldc 86, 2) := by decide +kernel
theorem dX5_wordOfLine_69 : decode cX5_wordOfLine 69 = .ok (.invokevirtual 72, 3) := by decide +kernel
theorem dX5_wordOfLine_72 : decode cX5_wordOfLine 72 = .ok (.ifCond .eq 6, 3) := by decide +kernel
theorem dX5_wordOfLine_75 : decode cX5_wordOfLine 75 = .ok (.bipush 6, 2) := by decide +kernel
theorem dX5_wordOfLine_77 : decode cX5_wordOfLine 77 = .ok (.ireturn, 1) := by decide +kernel
theorem dX5_wordOfLine_78 : decode cX5_wordOfLine 78 = .ok (.aload_n 0, 1) := by decide +kernel
theorem dX5_wordOfLine_79 : decode cX5_wordOfLine 79 = .ok (.ldc 88, 2) := by decide +kernel
theorem dX5_wordOfLine_81 : decode cX5_wordOfLine 81 = .ok (.invokevirtual 72, 3) := by decide +kernel
theorem dX5_wordOfLine_84 : decode cX5_wordOfLine 84 = .ok (.ifCond .eq 8, 3) := by decide +kernel
theorem dX5_wordOfLine_87 : decode cX5_wordOfLine 87 = .ok (.bipush 7, 2) := by decide +kernel
theorem dX5_wordOfLine_89 : decode cX5_wordOfLine 89 = .ok (.goto 4, 3) := by decide +kernel
theorem dX5_wordOfLine_92 : decode cX5_wordOfLine 92 = .ok (.iconst (-1), 1) := by decide +kernel
theorem dX5_wordOfLine_93 : decode cX5_wordOfLine 93 = .ok (.ireturn, 1) := by decide +kernel
theorem dX5_kiteOfToken_0 : decode cX5_kiteOfToken 0 = .ok (.aload_n 0, 1) := by decide +kernel
theorem dX5_kiteOfToken_1 : decode cX5_kiteOfToken 1 = .ok (.ldc 90, 2) := by decide +kernel
theorem dX5_kiteOfToken_3 : decode cX5_kiteOfToken 3 = .ok (.invokevirtual 72, 3) := by decide +kernel
theorem dX5_kiteOfToken_6 : decode cX5_kiteOfToken 6 = .ok (.ifCond .eq 5, 3) := by decide +kernel
theorem dX5_kiteOfToken_9 : decode cX5_kiteOfToken 9 = .ok (.iconst 0, 1) := by decide +kernel
theorem dX5_kiteOfToken_10 : decode cX5_kiteOfToken 10 = .ok (.ireturn, 1) := by decide +kernel
theorem dX5_kiteOfToken_11 : decode cX5_kiteOfToken 11 = .ok (.aload_n 0, 1) := by decide +kernel
theorem dX5_kiteOfToken_12 : decode cX5_kiteOfToken 12 = .ok (.ldc 92, 2) := by decide +kernel
theorem dX5_kiteOfToken_14 : decode cX5_kiteOfToken 14 = .ok (.invokevirtual 72, 3) := by decide +kernel
theorem dX5_kiteOfToken_17 : decode cX5_kiteOfToken 17 = .ok (.ifCond .eq 5, 3) := by decide +kernel
theorem dX5_kiteOfToken_20 : decode cX5_kiteOfToken 20 = .ok (.iconst 1, 1) := by decide +kernel
theorem dX5_kiteOfToken_21 : decode cX5_kiteOfToken 21 = .ok (.ireturn, 1) := by decide +kernel
theorem dX5_kiteOfToken_22 : decode cX5_kiteOfToken 22 = .ok (.aload_n 0, 1) := by decide +kernel
theorem dX5_kiteOfToken_23 : decode cX5_kiteOfToken 23 = .ok (.ldc 94, 2) := by decide +kernel
theorem dX5_kiteOfToken_25 : decode cX5_kiteOfToken 25 = .ok (.invokevirtual 72, 3) := by decide +kernel
theorem dX5_kiteOfToken_28 : decode cX5_kiteOfToken 28 = .ok (.ifCond .eq 5, 3) := by decide +kernel
theorem dX5_kiteOfToken_31 : decode cX5_kiteOfToken 31 = .ok (.iconst 2, 1) := by decide +kernel
theorem dX5_kiteOfToken_32 : decode cX5_kiteOfToken 32 = .ok (.ireturn, 1) := by decide +kernel
theorem dX5_kiteOfToken_33 : decode cX5_kiteOfToken 33 = .ok (.aload_n 0, 1) := by decide +kernel
theorem dX5_kiteOfToken_34 : decode cX5_kiteOfToken 34 = .ok (.ldc 96, 2) := by decide +kernel
theorem dX5_kiteOfToken_36 : decode cX5_kiteOfToken 36 = .ok (.invokevirtual 72, 3) := by decide +kernel
theorem dX5_kiteOfToken_39 : decode cX5_kiteOfToken 39 = .ok (.ifCond .eq 5, 3) := by decide +kernel
theorem dX5_kiteOfToken_42 : decode cX5_kiteOfToken 42 = .ok (.iconst 3, 1) := by decide +kernel
theorem dX5_kiteOfToken_43 : decode cX5_kiteOfToken 43 = .ok (.ireturn, 1) := by decide +kernel
theorem dX5_kiteOfToken_44 : decode cX5_kiteOfToken 44 = .ok (.aload_n 0, 1) := by decide +kernel
theorem dX5_kiteOfToken_45 : decode cX5_kiteOfToken 45 = .ok (.ldc 98, 2) := by decide +kernel
theorem dX5_kiteOfToken_47 : decode cX5_kiteOfToken 47 = .ok (.invokevirtual 72, 3) := by decide +kernel
theorem dX5_kiteOfToken_50 : decode cX5_kiteOfToken 50 = .ok (.ifCond .eq 7, 3) := by decide +kernel
theorem dX5_kiteOfToken_53 : decode cX5_kiteOfToken 53 = .ok (.iconst 4, 1) := by decide +kernel
theorem dX5_kiteOfToken_54 : decode cX5_kiteOfToken 54 = .ok (.goto 4, 3) := by decide +kernel
theorem dX5_kiteOfToken_57 : decode cX5_kiteOfToken 57 = .ok (.iconst (-1), 1) := by decide +kernel
theorem dX5_kiteOfToken_58 : decode cX5_kiteOfToken 58 = .ok (.ireturn, 1) := by decide +kernel
theorem dX5_readKite_0 : decode cX5_readKite 0 = .ok (.aload_n 0, 1) := by decide +kernel
theorem dX5_readKite_1 : decode cX5_readKite 1 = .ok (.invokevirtual 56, 3) := by decide +kernel
theorem dX5_readKite_4 : decode cX5_readKite 4 = .ok (.aload_n 0, 1) := by decide +kernel
theorem dX5_readKite_5 : decode cX5_readKite 5 = .ok (.invokevirtual 100, 3) := by decide +kernel
theorem dX5_readKite_8 : decode cX5_readKite 8 = .ok (.istore_n 1, 1) := by decide +kernel
theorem dX5_readKite_9 : decode cX5_readKite 9 = .ok (.iload_n 1, 1) := by decide +kernel
theorem dX5_readKite_10 : decode cX5_readKite 10 = .ok (.iconst (-1), 1) := by decide +kernel
theorem dX5_readKite_11 : decode cX5_readKite 11 = .ok (.if_icmp .eq 15, 3) := by decide +kernel
theorem dX5_readKite_14 : decode cX5_readKite 14 = .ok (.aload_n 0, 1) := by decide +kernel
theorem dX5_readKite_15 : decode cX5_readKite 15 = .ok (.iload_n 1, 1) := by decide +kernel
theorem dX5_readKite_16 : decode cX5_readKite 16 = .ok (.invokevirtual 103, 3) := by decide +kernel
theorem dX5_readKite_19 : decode cX5_readKite 19 = .ok (.ifCond .eq 7, 3) := by decide +kernel
theorem dX5_readKite_22 : decode cX5_readKite 22 = .ok (.iconst 1, 1) := by decide +kernel
theorem dX5_readKite_23 : decode cX5_readKite 23 = .ok (.goto 4, 3) := by decide +kernel
theorem dX5_readKite_26 : decode cX5_readKite 26 = .ok (.iconst 0, 1) := by decide +kernel
theorem dX5_readKite_27 : decode cX5_readKite 27 = .ok (.ireturn, 1) := by decide +kernel
theorem dX5_readNumber_0 : decode cX5_readNumber 0 = .ok (.aload_n 0, 1) := by decide +kernel
theorem dX5_readNumber_1 : decode cX5_readNumber 1 = .ok (.invokevirtual 56, 3) := by decide +kernel
theorem dX5_readNumber_4 : decode cX5_readNumber 4 = .ok (.aload_n 0, 1) := by decide +kernel
theorem dX5_readNumber_5 : decode cX5_readNumber 5 = .ok (.getfield 22, 3) := by decide +kernel
theorem dX5_readNumber_8 : decode cX5_readNumber 8 = .ok (.iconst 1, 1) := by decide +kernel
theorem dX5_readNumber_9 : decode cX5_readNumber 9 = .ok (.if_icmp .ne 16, 3) := by decide +kernel
theorem dX5_readNumber_12 : decode cX5_readNumber 12 = .ok (.aload_n 0, 1) := by decide +kernel
theorem dX5_readNumber_13 : decode cX5_readNumber 13 = .ok (.getfield 28, 3) := by decide +kernel
theorem dX5_readNumber_16 : decode cX5_readNumber 16 = .ok (.aload_n 0, 1) := by decide +kernel
theorem dX5_readNumber_17 : decode cX5_readNumber 17 = .ok (.getfield 25, 3) := by decide +kernel
theorem dX5_readNumber_20 : decode cX5_readNumber 20 = .ok (.isub, 1) := by decide +kernel
theorem dX5_readNumber_21 : decode cX5_readNumber 21 = .ok (.iconst 2, 1) := by decide +kernel
theorem dX5_readNumber_22 : decode cX5_readNumber 22 = .ok (.if_icmp .le 5, 3) := by decide +kernel
theorem dX5_readNumber_25 : decode cX5_readNumber 25 = .ok (.iconst 0, 1) := by decide +kernel
theorem dX5_readNumber_26 : decode cX5_readNumber 26 = .ok (.ireturn, 1) := by decide +kernel
theorem dX5_readNumber_27 : decode cX5_readNumber 27 = .ok (.iconst 0, 1) := by decide +kernel
theorem dX5_readNumber_28 : decode cX5_readNumber 28 = .ok (.istore_n 3, 1) := by decide +kernel
theorem dX5_readNumber_29 : decode cX5_readNumber 29 = .ok (.aload_n 0, 1) := by decide +kernel
theorem dX5_readNumber_30 : decode cX5_readNumber 30 = .ok (.getfield 25, 3) := by decide +kernel
theorem dX5_readNumber_33 : decode cX5_readNumber 33 = .ok (.istore 4, 2) := by decide +kernel
theorem dX5_readNumber_35 : decode cX5_readNumber 35 = .ok (.iload 4, 2) := by decide +kernel
theorem dX5_readNumber_37 : decode cX5_readNumber 37 = .ok (.aload_n 0, 1) := by decide +kernel
theorem dX5_readNumber_38 : decode cX5_readNumber 38 = .ok (.getfield 28, 3) := by decide +kernel
theorem dX5_readNumber_41 : decode cX5_readNumber 41 = .ok (.if_icmp .ge 25, 3) := by decide +kernel
theorem dX5_readNumber_44 : decode cX5_readNumber 44 = .ok (.iload_n 3, 1) := by decide +kernel
theorem dX5_readNumber_45 : decode cX5_readNumber 45 = .ok (.bipush 10, 2) := by decide +kernel
theorem dX5_readNumber_47 : decode cX5_readNumber 47 = .ok (.imul, 1) := by decide +kernel
theorem dX5_readNumber_48 : decode cX5_readNumber 48 = .ok (.aload_n 0, 1) := by decide +kernel
theorem dX5_readNumber_49 : decode cX5_readNumber 49 = .ok (.getfield 18, 3) := by decide +kernel
theorem dX5_readNumber_52 : decode cX5_readNumber 52 = .ok (.iload 4, 2) := by decide +kernel
theorem dX5_readNumber_54 : decode cX5_readNumber 54 = .ok (.iaload, 1) := by decide +kernel
theorem dX5_readNumber_55 : decode cX5_readNumber 55 = .ok (.iadd, 1) := by decide +kernel
theorem dX5_readNumber_56 : decode cX5_readNumber 56 = .ok (.bipush 48, 2) := by decide +kernel
theorem dX5_readNumber_58 : decode cX5_readNumber 58 = .ok (.isub, 1) := by decide +kernel
theorem dX5_readNumber_59 : decode cX5_readNumber 59 = .ok (.istore_n 3, 1) := by decide +kernel
theorem dX5_readNumber_60 : decode cX5_readNumber 60 = .ok (.iinc 4 1, 3) := by decide +kernel
theorem dX5_readNumber_63 : decode cX5_readNumber 63 = .ok (.goto (-28), 3) := by decide +kernel
theorem dX5_readNumber_66 : decode cX5_readNumber 66 = .ok (.iload_n 3, 1) := by decide +kernel
theorem dX5_readNumber_67 : decode cX5_readNumber 67 = .ok (.iload_n 1, 1) := by decide +kernel
theorem dX5_readNumber_68 : decode cX5_readNumber 68 = .ok (.if_icmp .lt 20, 3) := by decide +kernel
theorem dX5_readNumber_71 : decode cX5_readNumber 71 = .ok (.iload_n 3, 1) := by decide +kernel
theorem dX5_readNumber_72 : decode cX5_readNumber 72 = .ok (.iload_n 2, 1) := by decide +kernel
theorem dX5_readNumber_73 : decode cX5_readNumber 73 = .ok (.if_icmp .gt 15, 3) := by decide +kernel
theorem dX5_readNumber_76 : decode cX5_readNumber 76 = .ok (.aload_n 0, 1) := by decide +kernel
theorem dX5_readNumber_77 : decode cX5_readNumber 77 = .ok (.iload_n 3, 1) := by decide +kernel
theorem dX5_readNumber_78 : decode cX5_readNumber 78 = .ok (.invokevirtual 103, 3) := by decide +kernel
theorem dX5_readNumber_81 : decode cX5_readNumber 81 = .ok (.ifCond .eq 7, 3) := by decide +kernel
theorem dX5_readNumber_84 : decode cX5_readNumber 84 = .ok (.iconst 1, 1) := by decide +kernel
theorem dX5_readNumber_85 : decode cX5_readNumber 85 = .ok (.goto 4, 3) := by decide +kernel
theorem dX5_readNumber_88 : decode cX5_readNumber 88 = .ok (.iconst 0, 1) := by decide +kernel
theorem dX5_readNumber_89 : decode cX5_readNumber 89 = .ok (.ireturn, 1) := by decide +kernel
theorem dX5_addNumber_0 : decode cX5_addNumber 0 = .ok (.aload_n 0, 1) := by decide +kernel
theorem dX5_addNumber_1 : decode cX5_addNumber 1 = .ok (.getfield 34, 3) := by decide +kernel
theorem dX5_addNumber_4 : decode cX5_addNumber 4 = .ok (.iconst 5, 1) := by decide +kernel
theorem dX5_addNumber_5 : decode cX5_addNumber 5 = .ok (.if_icmp .lt 5, 3) := by decide +kernel
theorem dX5_addNumber_8 : decode cX5_addNumber 8 = .ok (.iconst 0, 1) := by decide +kernel
theorem dX5_addNumber_9 : decode cX5_addNumber 9 = .ok (.ireturn, 1) := by decide +kernel
theorem dX5_addNumber_10 : decode cX5_addNumber 10 = .ok (.aload_n 0, 1) := by decide +kernel
theorem dX5_addNumber_11 : decode cX5_addNumber 11 = .ok (.getfield 37, 3) := by decide +kernel
theorem dX5_addNumber_14 : decode cX5_addNumber 14 = .ok (.aload_n 0, 1) := by decide +kernel
theorem dX5_addNumber_15 : decode cX5_addNumber 15 = .ok (.dup, 1) := by decide +kernel
theorem dX5_addNumber_16 : decode cX5_addNumber 16 = .ok (.getfield 34, 3) := by decide +kernel
theorem dX5_addNumber_19 : decode cX5_addNumber 19 = .ok (.dup_x1, 1) := by decide +kernel
theorem dX5_addNumber_20 : decode cX5_addNumber 20 = .ok (.iconst 1, 1) := by decide +kernel
theorem dX5_addNumber_21 : decode cX5_addNumber 21 = .ok (.iadd, 1) := by decide +kernel
theorem dX5_addNumber_22 : decode cX5_addNumber 22 = .ok (.putfield 34, 3) := by decide +kernel
theorem dX5_addNumber_25 : decode cX5_addNumber 25 = .ok (.iload_n 1, 1) := by decide +kernel
theorem dX5_addNumber_26 : decode cX5_addNumber 26 = .ok (.iastore, 1) := by decide +kernel
theorem dX5_addNumber_27 : decode cX5_addNumber 27 = .ok (.iconst 1, 1) := by decide +kernel
theorem dX5_addNumber_28 : decode cX5_addNumber 28 = .ok (.ireturn, 1) := by decide +kernel
theorem dX5_readToken_0 : decode cX5_readToken 0 = .ok (.aload_n 0, 1) := by decide +kernel
theorem dX5_readToken_1 : decode cX5_readToken 1 = .ok (.aload_n 0, 1) := by decide +kernel
theorem dX5_readToken_2 : decode cX5_readToken 2 = .ok (.getfield 28, 3) := by decide +kernel
theorem dX5_readToken_5 : decode cX5_readToken 5 = .ok (.putfield 25, 3) := by decide +kernel
theorem dX5_readToken_8 : decode cX5_readToken 8 = .ok (.aload_n 0, 1) := by decide +kernel
theorem dX5_readToken_9 : decode cX5_readToken 9 = .ok (.getfield 25, 3) := by decide +kernel
theorem dX5_readToken_12 : decode cX5_readToken 12 = .ok (.aload_n 0, 1) := by decide +kernel
theorem dX5_readToken_13 : decode cX5_readToken 13 = .ok (.getfield 9, 3) := by decide +kernel
theorem dX5_readToken_16 : decode cX5_readToken 16 = .ok (.if_icmp .ge 30, 3) := by decide +kernel
theorem dX5_readToken_19 : decode cX5_readToken 19 = .ok (.aload_n 0, 1) := by decide +kernel
theorem dX5_readToken_20 : decode cX5_readToken 20 = .ok (.getfield 18, 3) := by decide +kernel
theorem dX5_readToken_23 : decode cX5_readToken 23 = .ok (.aload_n 0, 1) := by decide +kernel
theorem dX5_readToken_24 : decode cX5_readToken 24 = .ok (.getfield 25, 3) := by decide +kernel
theorem dX5_readToken_27 : decode cX5_readToken 27 = .ok (.iaload, 1) := by decide +kernel
theorem dX5_readToken_28 : decode cX5_readToken 28 = .ok (.bipush 32, 2) := by decide +kernel
theorem dX5_readToken_30 : decode cX5_readToken 30 = .ok (.if_icmp .ne 16, 3) := by decide +kernel
theorem dX5_readToken_33 : decode cX5_readToken 33 = .ok (.aload_n 0, 1) := by decide +kernel
theorem dX5_readToken_34 : decode cX5_readToken 34 = .ok (.dup, 1) := by decide +kernel
theorem dX5_readToken_35 : decode cX5_readToken 35 = .ok (.getfield 25, 3) := by decide +kernel
theorem dX5_readToken_38 : decode cX5_readToken 38 = .ok (.iconst 1, 1) := by decide +kernel
theorem dX5_readToken_39 : decode cX5_readToken 39 = .ok (.iadd, 1) := by decide +kernel
theorem dX5_readToken_40 : decode cX5_readToken 40 = .ok (.putfield 25, 3) := by decide +kernel
theorem dX5_readToken_43 : decode cX5_readToken 43 = .ok (.goto (-35), 3) := by decide +kernel
theorem dX5_readToken_46 : decode cX5_readToken 46 = .ok (.aload_n 0, 1) := by decide +kernel
theorem dX5_readToken_47 : decode cX5_readToken 47 = .ok (.aload_n 0, 1) := by decide +kernel
theorem dX5_readToken_48 : decode cX5_readToken 48 = .ok (.aload_n 0, 1) := by decide +kernel
theorem dX5_readToken_49 : decode cX5_readToken 49 = .ok (.getfield 25, 3) := by decide +kernel
theorem dX5_readToken_52 : decode cX5_readToken 52 = .ok (.invokevirtual 107, 3) := by decide +kernel
theorem dX5_readToken_55 : decode cX5_readToken 55 = .ok (.putfield 22, 3) := by decide +kernel
theorem dX5_readToken_58 : decode cX5_readToken 58 = .ok (.aload_n 0, 1) := by decide +kernel
theorem dX5_readToken_59 : decode cX5_readToken 59 = .ok (.aload_n 0, 1) := by decide +kernel
theorem dX5_readToken_60 : decode cX5_readToken 60 = .ok (.getfield 25, 3) := by decide +kernel
theorem dX5_readToken_63 : decode cX5_readToken 63 = .ok (.putfield 28, 3) := by decide +kernel
theorem dX5_readToken_66 : decode cX5_readToken 66 = .ok (.aload_n 0, 1) := by decide +kernel
theorem dX5_readToken_67 : decode cX5_readToken 67 = .ok (.getfield 28, 3) := by decide +kernel
theorem dX5_readToken_70 : decode cX5_readToken 70 = .ok (.aload_n 0, 1) := by decide +kernel
theorem dX5_readToken_71 : decode cX5_readToken 71 = .ok (.getfield 9, 3) := by decide +kernel
theorem dX5_readToken_74 : decode cX5_readToken 74 = .ok (.if_icmp .ge 39, 3) := by decide +kernel
theorem dX5_readToken_77 : decode cX5_readToken 77 = .ok (.aload_n 0, 1) := by decide +kernel
theorem dX5_readToken_78 : decode cX5_readToken 78 = .ok (.aload_n 0, 1) := by decide +kernel
theorem dX5_readToken_79 : decode cX5_readToken 79 = .ok (.getfield 28, 3) := by decide +kernel
theorem dX5_readToken_82 : decode cX5_readToken 82 = .ok (.invokevirtual 107, 3) := by decide +kernel
theorem dX5_readToken_85 : decode cX5_readToken 85 = .ok (.aload_n 0, 1) := by decide +kernel
theorem dX5_readToken_86 : decode cX5_readToken 86 = .ok (.getfield 22, 3) := by decide +kernel
theorem dX5_readToken_89 : decode cX5_readToken 89 = .ok (.if_icmp .ne 24, 3) := by decide +kernel
theorem dX5_readToken_92 : decode cX5_readToken 92 = .ok (.aload_n 0, 1) := by decide +kernel
theorem dX5_readToken_93 : decode cX5_readToken 93 = .ok (.dup, 1) := by decide +kernel
theorem dX5_readToken_94 : decode cX5_readToken 94 = .ok (.getfield 28, 3) := by decide +kernel
theorem dX5_readToken_97 : decode cX5_readToken 97 = .ok (.iconst 1, 1) := by decide +kernel
theorem dX5_readToken_98 : decode cX5_readToken 98 = .ok (.iadd, 1) := by decide +kernel
theorem dX5_readToken_99 : decode cX5_readToken 99 = .ok (.putfield 28, 3) := by decide +kernel
theorem dX5_readToken_102 : decode cX5_readToken 102 = .ok (.aload_n 0, 1) := by decide +kernel
theorem dX5_readToken_103 : decode cX5_readToken 103 = .ok (.getfield 22, 3) := by decide +kernel
theorem dX5_readToken_106 : decode cX5_readToken 106 = .ok (.iconst 2, 1) := by decide +kernel
theorem dX5_readToken_107 : decode cX5_readToken 107 = .ok (.if_icmp .ne (-41), 3) := by decide +kernel
theorem dX5_readToken_110 : decode cX5_readToken 110 = .ok (.goto 3, 3) := by decide +kernel
theorem dX5_readToken_113 : decode cX5_readToken 113 = .ok (.return_, 1) := by decide +kernel
theorem dX5_kindAt_0 : decode cX5_kindAt 0 = .ok (.iload_n 1, 1) := by decide +kernel
theorem dX5_kindAt_1 : decode cX5_kindAt 1 = .ok (.aload_n 0, 1) := by decide +kernel
theorem dX5_kindAt_2 : decode cX5_kindAt 2 = .ok (.getfield 9, 3) := by decide +kernel
theorem dX5_kindAt_5 : decode cX5_kindAt 5 = .ok (.if_icmp .lt 5, 3) := by decide +kernel
theorem dX5_kindAt_8 : decode cX5_kindAt 8 = .ok (.iconst 3, 1) := by decide +kernel
theorem dX5_kindAt_9 : decode cX5_kindAt 9 = .ok (.ireturn, 1) := by decide +kernel
theorem dX5_kindAt_10 : decode cX5_kindAt 10 = .ok (.aload_n 0, 1) := by decide +kernel
theorem dX5_kindAt_11 : decode cX5_kindAt 11 = .ok (.getfield 18, 3) := by decide +kernel
theorem dX5_kindAt_14 : decode cX5_kindAt 14 = .ok (.iload_n 1, 1) := by decide +kernel
theorem dX5_kindAt_15 : decode cX5_kindAt 15 = .ok (.iaload, 1) := by decide +kernel
theorem dX5_kindAt_16 : decode cX5_kindAt 16 = .ok (.bipush 97, 2) := by decide +kernel
theorem dX5_kindAt_18 : decode cX5_kindAt 18 = .ok (.if_icmp .lt 16, 3) := by decide +kernel
theorem dX5_kindAt_21 : decode cX5_kindAt 21 = .ok (.aload_n 0, 1) := by decide +kernel
theorem dX5_kindAt_22 : decode cX5_kindAt 22 = .ok (.getfield 18, 3) := by decide +kernel
theorem dX5_kindAt_25 : decode cX5_kindAt 25 = .ok (.iload_n 1, 1) := by decide +kernel
theorem dX5_kindAt_26 : decode cX5_kindAt 26 = .ok (.iaload, 1) := by decide +kernel
theorem dX5_kindAt_27 : decode cX5_kindAt 27 = .ok (.bipush 122, 2) := by decide +kernel
theorem dX5_kindAt_29 : decode cX5_kindAt 29 = .ok (.if_icmp .gt 5, 3) := by decide +kernel
theorem dX5_kindAt_32 : decode cX5_kindAt 32 = .ok (.iconst 0, 1) := by decide +kernel
theorem dX5_kindAt_33 : decode cX5_kindAt 33 = .ok (.ireturn, 1) := by decide +kernel
theorem dX5_kindAt_34 : decode cX5_kindAt 34 = .ok (.aload_n 0, 1) := by decide +kernel
theorem dX5_kindAt_35 : decode cX5_kindAt 35 = .ok (.getfield 18, 3) := by decide +kernel
theorem dX5_kindAt_38 : decode cX5_kindAt 38 = .ok (.iload_n 1, 1) := by decide +kernel
theorem dX5_kindAt_39 : decode cX5_kindAt 39 = .ok (.iaload, 1) := by decide +kernel
theorem dX5_kindAt_40 : decode cX5_kindAt 40 = .ok (.bipush 48, 2) := by decide +kernel
theorem dX5_kindAt_42 : decode cX5_kindAt 42 = .ok (.if_icmp .lt 18, 3) := by decide +kernel
theorem dX5_kindAt_45 : decode cX5_kindAt 45 = .ok (.aload_n 0, 1) := by decide +kernel
theorem dX5_kindAt_46 : decode cX5_kindAt 46 = .ok (.getfield 18, 3) := by decide +kernel
theorem dX5_kindAt_49 : decode cX5_kindAt 49 = .ok (.iload_n 1, 1) := by decide +kernel
theorem dX5_kindAt_50 : decode cX5_kindAt 50 = .ok (.iaload, 1) := by decide +kernel
theorem dX5_kindAt_51 : decode cX5_kindAt 51 = .ok (.bipush 57, 2) := by decide +kernel
theorem dX5_kindAt_53 : decode cX5_kindAt 53 = .ok (.if_icmp .gt 7, 3) := by decide +kernel
theorem dX5_kindAt_56 : decode cX5_kindAt 56 = .ok (.iconst 1, 1) := by decide +kernel
theorem dX5_kindAt_57 : decode cX5_kindAt 57 = .ok (.goto 4, 3) := by decide +kernel
theorem dX5_kindAt_60 : decode cX5_kindAt 60 = .ok (.iconst 2, 1) := by decide +kernel
theorem dX5_kindAt_61 : decode cX5_kindAt 61 = .ok (.ireturn, 1) := by decide +kernel
theorem dX5_tokenIs_0 : decode cX5_tokenIs 0 = .ok (.aload_n 0, 1) := by decide +kernel
theorem dX5_tokenIs_1 : decode cX5_tokenIs 1 = .ok (.getfield 28, 3) := by decide +kernel
theorem dX5_tokenIs_4 : decode cX5_tokenIs 4 = .ok (.aload_n 0, 1) := by decide +kernel
theorem dX5_tokenIs_5 : decode cX5_tokenIs 5 = .ok (.getfield 25, 3) := by decide +kernel
theorem dX5_tokenIs_8 : decode cX5_tokenIs 8 = .ok (.isub, 1) := by decide +kernel
theorem dX5_tokenIs_9 : decode cX5_tokenIs 9 = .ok (.aload_n 1, 1) := by decide +kernel
theorem dX5_tokenIs_10 : decode cX5_tokenIs 10 = .ok (.invokevirtual 111, 3) := by decide +kernel
theorem dX5_tokenIs_13 : decode cX5_tokenIs 13 = .ok (.if_icmp .eq 5, 3) := by decide +kernel
theorem dX5_tokenIs_16 : decode cX5_tokenIs 16 = .ok (.iconst 0, 1) := by decide +kernel
theorem dX5_tokenIs_17 : decode cX5_tokenIs 17 = .ok (.ireturn, 1) := by decide +kernel
theorem dX5_tokenIs_18 : decode cX5_tokenIs 18 = .ok (.aload_n 0, 1) := by decide +kernel
theorem dX5_tokenIs_19 : decode cX5_tokenIs 19 = .ok (.getfield 25, 3) := by decide +kernel
theorem dX5_tokenIs_22 : decode cX5_tokenIs 22 = .ok (.istore_n 2, 1) := by decide +kernel
theorem dX5_tokenIs_23 : decode cX5_tokenIs 23 = .ok (.iload_n 2, 1) := by decide +kernel
theorem dX5_tokenIs_24 : decode cX5_tokenIs 24 = .ok (.aload_n 0, 1) := by decide +kernel
theorem dX5_tokenIs_25 : decode cX5_tokenIs 25 = .ok (.getfield 28, 3) := by decide +kernel
theorem dX5_tokenIs_28 : decode cX5_tokenIs 28 = .ok (.if_icmp .ge 30, 3) := by decide +kernel
theorem dX5_tokenIs_31 : decode cX5_tokenIs 31 = .ok (.aload_n 0, 1) := by decide +kernel
theorem dX5_tokenIs_32 : decode cX5_tokenIs 32 = .ok (.getfield 18, 3) := by decide +kernel
theorem dX5_tokenIs_35 : decode cX5_tokenIs 35 = .ok (.iload_n 2, 1) := by decide +kernel
theorem dX5_tokenIs_36 : decode cX5_tokenIs 36 = .ok (.iaload, 1) := by decide +kernel
theorem dX5_tokenIs_37 : decode cX5_tokenIs 37 = .ok (.aload_n 1, 1) := by decide +kernel
theorem dX5_tokenIs_38 : decode cX5_tokenIs 38 = .ok (.iload_n 2, 1) := by decide +kernel
theorem dX5_tokenIs_39 : decode cX5_tokenIs 39 = .ok (.aload_n 0, 1) := by decide +kernel
theorem dX5_tokenIs_40 : decode cX5_tokenIs 40 = .ok (.getfield 25, 3) := by decide +kernel
theorem dX5_tokenIs_43 : decode cX5_tokenIs 43 = .ok (.isub, 1) := by decide +kernel
theorem dX5_tokenIs_44 : decode cX5_tokenIs 44 = .ok (.invokevirtual 115, 3) := by decide +kernel
theorem dX5_tokenIs_47 : decode cX5_tokenIs 47 = .ok (.if_icmp .eq 5, 3) := by decide +kernel
theorem dX5_tokenIs_50 : decode cX5_tokenIs 50 = .ok (.iconst 0, 1) := by decide +kernel
theorem dX5_tokenIs_51 : decode cX5_tokenIs 51 = .ok (.ireturn, 1) := by decide +kernel
theorem dX5_tokenIs_52 : decode cX5_tokenIs 52 = .ok (.iinc 2 1, 3) := by decide +kernel
theorem dX5_tokenIs_55 : decode cX5_tokenIs 55 = .ok (.goto (-32), 3) := by decide +kernel
theorem dX5_tokenIs_58 : decode cX5_tokenIs 58 = .ok (.iconst 1, 1) := by decide +kernel
theorem dX5_tokenIs_59 : decode cX5_tokenIs 59 = .ok (.ireturn, 1) := by decide +kernel
theorem dX6_init_0 : decode cX6_init 0 = .ok (.aload_n 0, 1) := by decide +kernel
theorem dX6_init_1 : decode cX6_init 1 = .ok (.invokespecial 3, 3) := by decide +kernel
theorem dX6_init_4 : decode cX6_init 4 = .ok (.new 9, 3) := by decide +kernel
theorem dX6_init_7 : decode cX6_init 7 = .ok (.dup, 1) := by decide +kernel
theorem dX6_init_8 : decode cX6_init 8 = .ok (.invokespecial 11, 3) := by decide +kernel
theorem dX6_init_11 : decode cX6_init 11 = .ok (.astore_n 1, 1) := by decide +kernel
theorem dX6_init_12 : decode cX6_init 12 = .ok (.aload_n 0, 1) := by decide +kernel
theorem dX6_init_13 : decode cX6_init 13 = .ok (.aload_n 1, 1) := by decide +kernel
theorem dX6_init_14 : decode cX6_init 14 = .ok (.putfield 12, 3) := by decide +kernel
theorem dX6_init_17 : decode cX6_init 17 = .ok (.aload_n 0, 1) := by decide +kernel
theorem dX6_init_18 : decode cX6_init 18 = .ok (.new 16, 3) := by decide +kernel
theorem dX6_init_21 : decode cX6_init 21 = .ok (.dup, 1) := by decide +kernel
theorem dX6_init_22 : decode cX6_init 22 = .ok (.invokespecial 18, 3) := by decide +kernel
theorem dX6_init_25 : decode cX6_init 25 = .ok (.putfield 19, 3) := by decide +kernel
theorem dX6_init_28 : decode cX6_init 28 = .ok (.aload_n 0, 1) := by decide +kernel
theorem dX6_init_29 : decode cX6_init 29 = .ok (.new 23, 3) := by decide +kernel
theorem dX6_init_32 : decode cX6_init 32 = .ok (.dup, 1) := by decide +kernel
theorem dX6_init_33 : decode cX6_init 33 = .ok (.invokespecial 25, 3) := by decide +kernel
theorem dX6_init_36 : decode cX6_init 36 = .ok (.putfield 26, 3) := by decide +kernel
theorem dX6_init_39 : decode cX6_init 39 = .ok (.aload_n 0, 1) := by decide +kernel
theorem dX6_init_40 : decode cX6_init 40 = .ok (.iconst 2, 1) := by decide +kernel
theorem dX6_init_41 : decode cX6_init 41 = .ok (.anewarray 23, 3) := by decide +kernel
theorem dX6_init_44 : decode cX6_init 44 = .ok (.dup, 1) := by decide +kernel
theorem dX6_init_45 : decode cX6_init 45 = .ok (.iconst 0, 1) := by decide +kernel
theorem dX6_init_46 : decode cX6_init 46 = .ok (.new 23, 3) := by decide +kernel
theorem dX6_init_49 : decode cX6_init 49 = .ok (.dup, 1) := by decide +kernel
theorem dX6_init_50 : decode cX6_init 50 = .ok (.invokespecial 25, 3) := by decide +kernel
theorem dX6_init_53 : decode cX6_init 53 = .ok (.aastore, 1) := by decide +kernel
theorem dX6_init_54 : decode cX6_init 54 = .ok (.dup, 1) := by decide +kernel
theorem dX6_init_55 : decode cX6_init 55 = .ok (.iconst 1, 1) := by decide +kernel
theorem dX6_init_56 : decode cX6_init 56 = .ok (.new 23, 3) := by decide +kernel
theorem dX6_init_59 : decode cX6_init 59 = .ok (.dup, 1) := by decide +kernel
theorem dX6_init_60 : decode cX6_init 60 = .ok (.invokespecial 25, 3) := by decide +kernel
theorem dX6_init_63 : decode cX6_init 63 = .ok (.aastore, 1) := by decide +kernel
theorem dX6_init_64 : decode cX6_init 64 = .ok (.putfield 30, 3) := by decide +kernel
theorem dX6_init_67 : decode cX6_init 67 = .ok (.aload_n 0, 1) := by decide +kernel
theorem dX6_init_68 : decode cX6_init 68 = .ok (.iconst 2, 1) := by decide +kernel
theorem dX6_init_69 : decode cX6_init 69 = .ok (.newarray .boolean, 2) := by decide +kernel
theorem dX6_init_71 : decode cX6_init 71 = .ok (.putfield 34, 3) := by decide +kernel
theorem dX6_init_74 : decode cX6_init 74 = .ok (.aload_n 0, 1) := by decide +kernel
theorem dX6_init_75 : decode cX6_init 75 = .ok (.new 38, 3) := by decide +kernel
theorem dX6_init_78 : decode cX6_init 78 = .ok (.dup, 1) := by decide +kernel
theorem dX6_init_79 : decode cX6_init 79 = .ok (.aload_n 1, 1) := by decide +kernel
theorem dX6_init_80 : decode cX6_init 80 = .ok (.invokespecial 40, 3) := by decide +kernel
theorem dX6_init_83 : decode cX6_init 83 = .ok (.putfield 43, 3) := by decide +kernel
theorem dX6_init_86 : decode cX6_init 86 = .ok (.aload_n 0, 1) := by decide +kernel
theorem dX6_init_87 : decode cX6_init 87 = .ok (.new 47, 3) := by decide +kernel
theorem dX6_init_90 : decode cX6_init 90 = .ok (.dup, 1) := by decide +kernel
theorem dX6_init_91 : decode cX6_init 91 = .ok (.aload_n 1, 1) := by decide +kernel
theorem dX6_init_92 : decode cX6_init 92 = .ok (.invokespecial 49, 3) := by decide +kernel
theorem dX6_init_95 : decode cX6_init 95 = .ok (.putfield 50, 3) := by decide +kernel
theorem dX6_init_98 : decode cX6_init 98 = .ok (.return_, 1) := by decide +kernel
theorem dX6_write_0 : decode cX6_write 0 = .ok (.iload_n 3, 1) := by decide +kernel
theorem dX6_write_1 : decode cX6_write 1 = .ok (.iconst 1, 1) := by decide +kernel
theorem dX6_write_2 : decode cX6_write 2 = .ok (.if_icmp .lt 9, 3) := by decide +kernel
theorem dX6_write_5 : decode cX6_write 5 = .ok (.iload_n 3, 1) := by decide +kernel
theorem dX6_write_6 : decode cX6_write 6 = .ok (.bipush 8, 2) := by decide +kernel
theorem dX6_write_8 : decode cX6_write 8 = .ok (.if_icmp .le 6, 3) := by decide +kernel
theorem dX6_write_11 : decode cX6_write 11 = .ok (.bipush (-3), 2) := by decide +kernel
theorem dX6_write_13 : decode cX6_write 13 = .ok (.ireturn, 1) := by decide +kernel
theorem dX6_write_14 : decode cX6_write 14 = .ok (.aload_n 0, 1) := by decide +kernel
theorem dX6_write_15 : decode cX6_write 15 = .ok (.getfield 19, 3) := by decide +kernel
theorem dX6_write_18 : decode cX6_write 18 = .ok (.lload_n 1, 1) := by decide +kernel
theorem dX6_write_19 : decode cX6_write 19 = .ok (.iload_n 3, 1) := by decide +kernel
theorem dX6_write_20 : decode cX6_write 20 = .ok (.invokevirtual 54, 3) := by decide +kernel
theorem dX6_write_23 : decode cX6_write 23 = .ok (.ifCond .eq 13, 3) := by decide +kernel
theorem dX6_write_26 : decode cX6_write 26 = .ok (.aload_n 0, 1) := by decide +kernel
theorem dX6_write_27 : decode cX6_write 27 = .ok (.getfield 19, 3) := by decide +kernel
theorem dX6_write_30 : decode cX6_write 30 = .ok (.getfield 58, 3) := by decide +kernel
theorem dX6_write_33 : decode cX6_write 33 = .ok (.goto 5, 3) := by decide +kernel
theorem dX6_write_36 : decode cX6_write 36 = .ok (.bipush (-5), 2) := by decide +kernel
theorem dX6_write_38 : decode cX6_write 38 = .ok (.ireturn, 1) := by decide +kernel
theorem dX6_erase_0 : decode cX6_erase 0 = .ok (.aload_n 0, 1) := by decide +kernel
theorem dX6_erase_1 : decode cX6_erase 1 = .ok (.getfield 19, 3) := by decide +kernel
theorem dX6_erase_4 : decode cX6_erase 4 = .ok (.getfield 58, 3) := by decide +kernel
theorem dX6_erase_7 : decode cX6_erase 7 = .ok (.istore_n 1, 1) := by decide +kernel
theorem dX6_erase_8 : decode cX6_erase 8 = .ok (.aload_n 0, 1) := by decide +kernel
theorem dX6_erase_9 : decode cX6_erase 9 = .ok (.getfield 19, 3) := by decide +kernel
theorem dX6_erase_12 : decode cX6_erase 12 = .ok (.iconst 0, 1) := by decide +kernel
theorem dX6_erase_13 : decode cX6_erase 13 = .ok (.putfield 58, 3) := by decide +kernel
theorem dX6_erase_16 : decode cX6_erase 16 = .ok (.iload_n 1, 1) := by decide +kernel
theorem dX6_erase_17 : decode cX6_erase 17 = .ok (.ireturn, 1) := by decide +kernel
theorem dX6_fault_0 : decode cX6_fault 0 = .ok (.aload_n 0, 1) := by decide +kernel
theorem dX6_fault_1 : decode cX6_fault 1 = .ok (.getfield 19, 3) := by decide +kernel
theorem dX6_fault_4 : decode cX6_fault 4 = .ok (.aload_n 0, 1) := by decide +kernel
theorem dX6_fault_5 : decode cX6_fault 5 = .ok (.getfield 12, 3) := by decide +kernel
theorem dX6_fault_8 : decode cX6_fault 8 = .ok (.iconst 0, 1) := by decide +kernel
theorem dX6_fault_9 : decode cX6_fault 9 = .ok (.invokevirtual 62, 3) := by decide +kernel
theorem dX6_fault_12 : decode cX6_fault 12 = .ok (.ireturn, 1) := by decide +kernel
theorem dX6_river_0 : decode cX6_river 0 = .ok (.aload_n 0, 1) := by decide +kernel
theorem dX6_river_1 : decode cX6_river 1 = .ok (.getfield 19, 3) := by decide +kernel
theorem dX6_river_4 : decode cX6_river 4 = .ok (.aload_n 0, 1) := by decide +kernel
theorem dX6_river_5 : decode cX6_river 5 = .ok (.getfield 12, 3) := by decide +kernel
theorem dX6_river_8 : decode cX6_river 8 = .ok (.iconst 0, 1) := by decide +kernel
theorem dX6_river_9 : decode cX6_river 9 = .ok (.invokevirtual 62, 3) := by decide +kernel
theorem dX6_river_12 : decode cX6_river 12 = .ok (.iconst (-1), 1) := by decide +kernel
theorem dX6_river_13 : decode cX6_river 13 = .ok (.if_icmp .eq 6, 3) := by decide +kernel
theorem dX6_river_16 : decode cX6_river 16 = .ok (.bipush (-4), 2) := by decide +kernel
theorem dX6_river_18 : decode cX6_river 18 = .ok (.ireturn, 1) := by decide +kernel
theorem dX6_river_19 : decode cX6_river 19 = .ok (.aload_n 0, 1) := by decide +kernel
theorem dX6_river_20 : decode cX6_river 20 = .ok (.getfield 19, 3) := by decide +kernel
theorem dX6_river_23 : decode cX6_river 23 = .ok (.aload_n 0, 1) := by decide +kernel
theorem dX6_river_24 : decode cX6_river 24 = .ok (.getfield 12, 3) := by decide +kernel
theorem dX6_river_27 : decode cX6_river 27 = .ok (.iconst 1, 1) := by decide +kernel
theorem dX6_river_28 : decode cX6_river 28 = .ok (.invokevirtual 62, 3) := by decide +kernel
theorem dX6_river_31 : decode cX6_river 31 = .ok (.pop, 1) := by decide +kernel
theorem dX6_river_32 : decode cX6_river 32 = .ok (.aload_n 0, 1) := by decide +kernel
theorem dX6_river_33 : decode cX6_river 33 = .ok (.getfield 19, 3) := by decide +kernel
theorem dX6_river_36 : decode cX6_river 36 = .ok (.iconst 0, 1) := by decide +kernel
theorem dX6_river_37 : decode cX6_river 37 = .ok (.putfield 58, 3) := by decide +kernel
theorem dX6_river_40 : decode cX6_river 40 = .ok (.aload_n 0, 1) := by decide +kernel
theorem dX6_river_41 : decode cX6_river 41 = .ok (.getfield 26, 3) := by decide +kernel
theorem dX6_river_44 : decode cX6_river 44 = .ok (.aload_n 0, 1) := by decide +kernel
theorem dX6_river_45 : decode cX6_river 45 = .ok (.getfield 12, 3) := by decide +kernel
theorem dX6_river_48 : decode cX6_river 48 = .ok (.invokevirtual 66, 3) := by decide +kernel
theorem dX6_river_51 : decode cX6_river 51 = .ok (.invokevirtual 70, 3) := by decide +kernel
theorem dX6_river_54 : decode cX6_river 54 = .ok (.iconst 0, 1) := by decide +kernel
theorem dX6_river_55 : decode cX6_river 55 = .ok (.istore_n 1, 1) := by decide +kernel
theorem dX6_river_56 : decode cX6_river 56 = .ok (.iload_n 1, 1) := by decide +kernel
theorem dX6_river_57 : decode cX6_river 57 = .ok (.iconst 2, 1) := by decide +kernel
theorem dX6_river_58 : decode cX6_river 58 = .ok (.if_icmp .ge 16, 3) := by decide +kernel
theorem dX6_river_61 : decode cX6_river 61 = .ok (.aload_n 0, 1) := by decide +kernel
theorem dX6_river_62 : decode cX6_river 62 = .ok (.getfield 34, 3) := by decide +kernel
theorem dX6_river_65 : decode cX6_river 65 = .ok (.iload_n 1, 1) := by decide +kernel
theorem dX6_river_66 : decode cX6_river 66 = .ok (.iconst 0, 1) := by decide +kernel
theorem dX6_river_67 : decode cX6_river 67 = .ok (.bastore, 1) := by decide +kernel
theorem dX6_river_68 : decode cX6_river 68 = .ok (.iinc 1 1, 3) := by decide +kernel
theorem dX6_river_71 : decode cX6_river 71 = .ok (.goto (-15), 3) := by decide +kernel
theorem dX6_river_74 : decode cX6_river 74 = .ok (.aload_n 0, 1) := by decide +kernel
theorem dX6_river_75 : decode cX6_river 75 = .ok (.getfield 43, 3) := by decide +kernel
theorem dX6_river_78 : decode cX6_river 78 = .ok (.invokevirtual 73, 3) := by decide +kernel
theorem dX6_river_81 : decode cX6_river 81 = .ok (.aload_n 0, 1) := by decide +kernel
theorem dX6_river_82 : decode cX6_river 82 = .ok (.getfield 19, 3) := by decide +kernel
theorem dX6_river_85 : decode cX6_river 85 = .ok (.getfield 76, 3) := by decide +kernel
theorem dX6_river_88 : decode cX6_river 88 = .ok (.ireturn, 1) := by decide +kernel
theorem dX6_reach_0 : decode cX6_reach 0 = .ok (.aload_n 0, 1) := by decide +kernel
theorem dX6_reach_1 : decode cX6_reach 1 = .ok (.getfield 12, 3) := by decide +kernel
theorem dX6_reach_4 : decode cX6_reach 4 = .ok (.iload_n 1, 1) := by decide +kernel
theorem dX6_reach_5 : decode cX6_reach 5 = .ok (.invokevirtual 79, 3) := by decide +kernel
theorem dX6_reach_8 : decode cX6_reach 8 = .ok (.ifCond .ne 6, 3) := by decide +kernel
theorem dX6_reach_11 : decode cX6_reach 11 = .ok (.bipush (-2), 2) := by decide +kernel
theorem dX6_reach_13 : decode cX6_reach 13 = .ok (.ireturn, 1) := by decide +kernel
theorem dX6_reach_14 : decode cX6_reach 14 = .ok (.iload_n 2, 1) := by decide +kernel
theorem dX6_reach_15 : decode cX6_reach 15 = .ok (.tableswitch 55 0 2 #[25, 35, 45], 25) := by decide +kernel
theorem dX6_reach_40 : decode cX6_reach 40 = .ok (.aload_n 0, 1) := by decide +kernel
theorem dX6_reach_41 : decode cX6_reach 41 = .ok (.getfield 12, 3) := by decide +kernel
theorem dX6_reach_44 : decode cX6_reach 44 = .ok (.getfield 83, 3) := by decide +kernel
theorem dX6_reach_47 : decode cX6_reach 47 = .ok (.iload_n 1, 1) := by decide +kernel
theorem dX6_reach_48 : decode cX6_reach 48 = .ok (.iaload, 1) := by decide +kernel
theorem dX6_reach_49 : decode cX6_reach 49 = .ok (.ireturn, 1) := by decide +kernel
theorem dX6_reach_50 : decode cX6_reach 50 = .ok (.aload_n 0, 1) := by decide +kernel
theorem dX6_reach_51 : decode cX6_reach 51 = .ok (.getfield 12, 3) := by decide +kernel
theorem dX6_reach_54 : decode cX6_reach 54 = .ok (.getfield 87, 3) := by decide +kernel
theorem dX6_reach_57 : decode cX6_reach 57 = .ok (.iload_n 1, 1) := by decide +kernel
theorem dX6_reach_58 : decode cX6_reach 58 = .ok (.iaload, 1) := by decide +kernel
theorem dX6_reach_59 : decode cX6_reach 59 = .ok (.ireturn, 1) := by decide +kernel
theorem dX6_reach_60 : decode cX6_reach 60 = .ok (.aload_n 0, 1) := by decide +kernel
theorem dX6_reach_61 : decode cX6_reach 61 = .ok (.getfield 12, 3) := by decide +kernel
theorem dX6_reach_64 : decode cX6_reach 64 = .ok (.getfield 90, 3) := by decide +kernel
theorem dX6_reach_67 : decode cX6_reach 67 = .ok (.iload_n 1, 1) := by decide +kernel
theorem dX6_reach_68 : decode cX6_reach 68 = .ok (.iaload, 1) := by decide +kernel
theorem dX6_reach_69 : decode cX6_reach 69 = .ok (.ireturn, 1) := by decide +kernel
theorem dX6_reach_70 : decode cX6_reach 70 = .ok (.bipush (-3), 2) := by decide +kernel
theorem dX6_reach_72 : decode cX6_reach 72 = .ok (.ireturn, 1) := by decide +kernel
theorem dX6_wind_0 : decode cX6_wind 0 = .ok (.iload_n 1, 1) := by decide +kernel
theorem dX6_wind_1 : decode cX6_wind 1 = .ok (.invokestatic 93, 3) := by decide +kernel
theorem dX6_wind_4 : decode cX6_wind 4 = .ok (.ifCond .eq 10, 3) := by decide +kernel
theorem dX6_wind_7 : decode cX6_wind 7 = .ok (.iload_n 2, 1) := by decide +kernel
theorem dX6_wind_8 : decode cX6_wind 8 = .ok (.invokestatic 96, 3) := by decide +kernel
theorem dX6_wind_11 : decode cX6_wind 11 = .ok (.ifCond .ne 6, 3) := by decide +kernel
theorem dX6_wind_14 : decode cX6_wind 14 = .ok (.bipush (-2), 2) := by decide +kernel
theorem dX6_wind_16 : decode cX6_wind 16 = .ok (.ireturn, 1) := by decide +kernel
theorem dX6_wind_17 : decode cX6_wind 17 = .ok (.iload_n 3, 1) := by decide +kernel
theorem dX6_wind_18 : decode cX6_wind 18 = .ok (.lookupswitch 56 #[(0, 26), (1, 41)], 26) := by decide +kernel
theorem dX6_wind_44 : decode cX6_wind 44 = .ok (.aload_n 0, 1) := by decide +kernel
theorem dX6_wind_45 : decode cX6_wind 45 = .ok (.getfield 12, 3) := by decide +kernel
theorem dX6_wind_48 : decode cX6_wind 48 = .ok (.getfield 99, 3) := by decide +kernel
theorem dX6_wind_51 : decode cX6_wind 51 = .ok (.iload_n 1, 1) := by decide +kernel
theorem dX6_wind_52 : decode cX6_wind 52 = .ok (.bipush 24, 2) := by decide +kernel
theorem dX6_wind_54 : decode cX6_wind 54 = .ok (.imul, 1) := by decide +kernel
theorem dX6_wind_55 : decode cX6_wind 55 = .ok (.iload_n 2, 1) := by decide +kernel
theorem dX6_wind_56 : decode cX6_wind 56 = .ok (.iadd, 1) := by decide +kernel
theorem dX6_wind_57 : decode cX6_wind 57 = .ok (.iaload, 1) := by decide +kernel
theorem dX6_wind_58 : decode cX6_wind 58 = .ok (.ireturn, 1) := by decide +kernel
theorem dX6_wind_59 : decode cX6_wind 59 = .ok (.aload_n 0, 1) := by decide +kernel
theorem dX6_wind_60 : decode cX6_wind 60 = .ok (.getfield 12, 3) := by decide +kernel
theorem dX6_wind_63 : decode cX6_wind 63 = .ok (.getfield 102, 3) := by decide +kernel
theorem dX6_wind_66 : decode cX6_wind 66 = .ok (.iload_n 1, 1) := by decide +kernel
theorem dX6_wind_67 : decode cX6_wind 67 = .ok (.bipush 24, 2) := by decide +kernel
theorem dX6_wind_69 : decode cX6_wind 69 = .ok (.imul, 1) := by decide +kernel
theorem dX6_wind_70 : decode cX6_wind 70 = .ok (.iload_n 2, 1) := by decide +kernel
theorem dX6_wind_71 : decode cX6_wind 71 = .ok (.iadd, 1) := by decide +kernel
theorem dX6_wind_72 : decode cX6_wind 72 = .ok (.iaload, 1) := by decide +kernel
theorem dX6_wind_73 : decode cX6_wind 73 = .ok (.ireturn, 1) := by decide +kernel
theorem dX6_wind_74 : decode cX6_wind 74 = .ok (.bipush (-3), 2) := by decide +kernel
theorem dX6_wind_76 : decode cX6_wind 76 = .ok (.ireturn, 1) := by decide +kernel
theorem dX6_barge_0 : decode cX6_barge 0 = .ok (.aload_n 0, 1) := by decide +kernel
theorem dX6_barge_1 : decode cX6_barge 1 = .ok (.getfield 12, 3) := by decide +kernel
theorem dX6_barge_4 : decode cX6_barge 4 = .ok (.iload_n 1, 1) := by decide +kernel
theorem dX6_barge_5 : decode cX6_barge 5 = .ok (.invokevirtual 105, 3) := by decide +kernel
theorem dX6_barge_8 : decode cX6_barge 8 = .ok (.ifCond .ne 6, 3) := by decide +kernel
theorem dX6_barge_11 : decode cX6_barge 11 = .ok (.bipush (-2), 2) := by decide +kernel
theorem dX6_barge_13 : decode cX6_barge 13 = .ok (.ireturn, 1) := by decide +kernel
theorem dX6_barge_14 : decode cX6_barge 14 = .ok (.iload_n 2, 1) := by decide +kernel
theorem dX6_barge_15 : decode cX6_barge 15 = .ok (.tableswitch 68 0 3 #[29, 39, 48, 58], 29) := by decide +kernel
theorem dX6_barge_44 : decode cX6_barge 44 = .ok (.aload_n 0, 1) := by decide +kernel
theorem dX6_barge_45 : decode cX6_barge 45 = .ok (.getfield 12, 3) := by decide +kernel
theorem dX6_barge_48 : decode cX6_barge 48 = .ok (.getfield 108, 3) := by decide +kernel
theorem dX6_barge_51 : decode cX6_barge 51 = .ok (.iload_n 1, 1) := by decide +kernel
theorem dX6_barge_52 : decode cX6_barge 52 = .ok (.iaload, 1) := by decide +kernel
theorem dX6_barge_53 : decode cX6_barge 53 = .ok (.ireturn, 1) := by decide +kernel
theorem dX6_barge_54 : decode cX6_barge 54 = .ok (.aload_n 0, 1) := by decide +kernel
theorem dX6_barge_55 : decode cX6_barge 55 = .ok (.getfield 12, 3) := by decide +kernel
theorem dX6_barge_58 : decode cX6_barge 58 = .ok (.iload_n 1, 1) := by decide +kernel
theorem dX6_barge_59 : decode cX6_barge 59 = .ok (.invokevirtual 111, 3) := by decide +kernel
theorem dX6_barge_62 : decode cX6_barge 62 = .ok (.ireturn, 1) := by decide +kernel
theorem dX6_barge_63 : decode cX6_barge 63 = .ok (.aload_n 0, 1) := by decide +kernel
theorem dX6_barge_64 : decode cX6_barge 64 = .ok (.getfield 12, 3) := by decide +kernel
theorem dX6_barge_67 : decode cX6_barge 67 = .ok (.getfield 115, 3) := by decide +kernel
theorem dX6_barge_70 : decode cX6_barge 70 = .ok (.iload_n 1, 1) := by decide +kernel
theorem dX6_barge_71 : decode cX6_barge 71 = .ok (.iaload, 1) := by decide +kernel
theorem dX6_barge_72 : decode cX6_barge 72 = .ok (.ireturn, 1) := by decide +kernel
theorem dX6_barge_73 : decode cX6_barge 73 = .ok (.aload_n 0, 1) := by decide +kernel
theorem dX6_barge_74 : decode cX6_barge 74 = .ok (.getfield 12, 3) := by decide +kernel
theorem dX6_barge_77 : decode cX6_barge 77 = .ok (.getfield 118, 3) := by decide +kernel
theorem dX6_barge_80 : decode cX6_barge 80 = .ok (.iload_n 1, 1) := by decide +kernel
theorem dX6_barge_81 : decode cX6_barge 81 = .ok (.iaload, 1) := by decide +kernel
theorem dX6_barge_82 : decode cX6_barge 82 = .ok (.ireturn, 1) := by decide +kernel
theorem dX6_barge_83 : decode cX6_barge 83 = .ok (.bipush (-3), 2) := by decide +kernel
theorem dX6_barge_85 : decode cX6_barge 85 = .ok (.ireturn, 1) := by decide +kernel
theorem dX6_as_0 : decode cX6_as 0 = .ok (.aload_n 0, 1) := by decide +kernel
theorem dX6_as_1 : decode cX6_as 1 = .ok (.getfield 12, 3) := by decide +kernel
theorem dX6_as_4 : decode cX6_as 4 = .ok (.iload_n 1, 1) := by decide +kernel
theorem dX6_as_5 : decode cX6_as 5 = .ok (.invokevirtual 105, 3) := by decide +kernel
theorem dX6_as_8 : decode cX6_as 8 = .ok (.ifCond .ne 6, 3) := by decide +kernel
theorem dX6_as_11 : decode cX6_as 11 = .ok (.bipush (-2), 2) := by decide +kernel
theorem dX6_as_13 : decode cX6_as 13 = .ok (.ireturn, 1) := by decide +kernel
theorem dX6_as_14 : decode cX6_as 14 = .ok (.iload_n 2, 1) := by decide +kernel
theorem dX6_as_15 : decode cX6_as 15 = .ok (.ifCond .lt 8, 3) := by decide +kernel
theorem dX6_as_18 : decode cX6_as 18 = .ok (.iload_n 2, 1) := by decide +kernel
theorem dX6_as_19 : decode cX6_as 19 = .ok (.iconst 4, 1) := by decide +kernel
theorem dX6_as_20 : decode cX6_as 20 = .ok (.if_icmp .le 6, 3) := by decide +kernel
theorem dX6_as_23 : decode cX6_as 23 = .ok (.bipush (-3), 2) := by decide +kernel
theorem dX6_as_25 : decode cX6_as 25 = .ok (.ireturn, 1) := by decide +kernel
theorem dX6_as_26 : decode cX6_as 26 = .ok (.aload_n 0, 1) := by decide +kernel
theorem dX6_as_27 : decode cX6_as 27 = .ok (.getfield 12, 3) := by decide +kernel
theorem dX6_as_30 : decode cX6_as 30 = .ok (.getfield 115, 3) := by decide +kernel
theorem dX6_as_33 : decode cX6_as 33 = .ok (.iload_n 1, 1) := by decide +kernel
theorem dX6_as_34 : decode cX6_as 34 = .ok (.iaload, 1) := by decide +kernel
theorem dX6_as_35 : decode cX6_as 35 = .ok (.istore_n 3, 1) := by decide +kernel
theorem dX6_as_36 : decode cX6_as 36 = .ok (.iload_n 2, 1) := by decide +kernel
theorem dX6_as_37 : decode cX6_as 37 = .ok (.ifCond .eq 18, 3) := by decide +kernel
theorem dX6_as_40 : decode cX6_as 40 = .ok (.iload_n 3, 1) := by decide +kernel
theorem dX6_as_41 : decode cX6_as 41 = .ok (.iload_n 2, 1) := by decide +kernel
theorem dX6_as_42 : decode cX6_as 42 = .ok (.if_icmp .eq 13, 3) := by decide +kernel
theorem dX6_as_45 : decode cX6_as 45 = .ok (.iload_n 2, 1) := by decide +kernel
theorem dX6_as_46 : decode cX6_as 46 = .ok (.iconst 3, 1) := by decide +kernel
theorem dX6_as_47 : decode cX6_as 47 = .ok (.if_icmp .ne 12, 3) := by decide +kernel
theorem dX6_as_50 : decode cX6_as 50 = .ok (.iload_n 3, 1) := by decide +kernel
theorem dX6_as_51 : decode cX6_as 51 = .ok (.iconst 4, 1) := by decide +kernel
theorem dX6_as_52 : decode cX6_as 52 = .ok (.if_icmp .ne 7, 3) := by decide +kernel
theorem dX6_as_55 : decode cX6_as 55 = .ok (.iconst 1, 1) := by decide +kernel
theorem dX6_as_56 : decode cX6_as 56 = .ok (.goto 4, 3) := by decide +kernel
theorem dX6_as_59 : decode cX6_as 59 = .ok (.iconst 0, 1) := by decide +kernel
theorem dX6_as_60 : decode cX6_as 60 = .ok (.istore 4, 2) := by decide +kernel
theorem dX6_as_62 : decode cX6_as 62 = .ok (.iload 4, 2) := by decide +kernel
theorem dX6_as_64 : decode cX6_as 64 = .ok (.ifCond .eq 22, 3) := by decide +kernel
theorem dX6_as_67 : decode cX6_as 67 = .ok (.bipush 100, 2) := by decide +kernel
theorem dX6_as_69 : decode cX6_as 69 = .ok (.iload_n 3, 1) := by decide +kernel
theorem dX6_as_70 : decode cX6_as 70 = .ok (.iconst 0, 1) := by decide +kernel
theorem dX6_as_71 : decode cX6_as 71 = .ok (.iconst 1, 1) := by decide +kernel
theorem dX6_as_72 : decode cX6_as 72 = .ok (.invokestatic 121, 3) := by decide +kernel
theorem dX6_as_75 : decode cX6_as 75 = .ok (.imul, 1) := by decide +kernel
theorem dX6_as_76 : decode cX6_as 76 = .ok (.iload_n 3, 1) := by decide +kernel
theorem dX6_as_77 : decode cX6_as 77 = .ok (.iconst 2, 1) := by decide +kernel
theorem dX6_as_78 : decode cX6_as 78 = .ok (.iconst 1, 1) := by decide +kernel
theorem dX6_as_79 : decode cX6_as 79 = .ok (.invokestatic 121, 3) := by decide +kernel
theorem dX6_as_82 : decode cX6_as 82 = .ok (.iadd, 1) := by decide +kernel
theorem dX6_as_83 : decode cX6_as 83 = .ok (.goto 5, 3) := by decide +kernel
theorem dX6_as_86 : decode cX6_as 86 = .ok (.bipush (-4), 2) := by decide +kernel
theorem dX6_as_88 : decode cX6_as 88 = .ok (.ireturn, 1) := by decide +kernel
theorem dX6_yards_0 : decode cX6_yards 0 = .ok (.aload_n 0, 1) := by decide +kernel
theorem dX6_yards_1 : decode cX6_yards 1 = .ok (.getfield 12, 3) := by decide +kernel
theorem dX6_yards_4 : decode cX6_yards 4 = .ok (.iload_n 1, 1) := by decide +kernel
theorem dX6_yards_5 : decode cX6_yards 5 = .ok (.invokevirtual 105, 3) := by decide +kernel
theorem dX6_yards_8 : decode cX6_yards 8 = .ok (.ifCond .eq 29, 3) := by decide +kernel
theorem dX6_yards_11 : decode cX6_yards 11 = .ok (.aload_n 0, 1) := by decide +kernel
theorem dX6_yards_12 : decode cX6_yards 12 = .ok (.getfield 12, 3) := by decide +kernel
theorem dX6_yards_15 : decode cX6_yards 15 = .ok (.iload_n 2, 1) := by decide +kernel
theorem dX6_yards_16 : decode cX6_yards 16 = .ok (.invokevirtual 79, 3) := by decide +kernel
theorem dX6_yards_19 : decode cX6_yards 19 = .ok (.ifCond .eq 18, 3) := by decide +kernel
theorem dX6_yards_22 : decode cX6_yards 22 = .ok (.iload_n 3, 1) := by decide +kernel
theorem dX6_yards_23 : decode cX6_yards 23 = .ok (.invokestatic 93, 3) := by decide +kernel
theorem dX6_yards_26 : decode cX6_yards 26 = .ok (.ifCond .eq 11, 3) := by decide +kernel
theorem dX6_yards_29 : decode cX6_yards 29 = .ok (.iload 4, 2) := by decide +kernel
theorem dX6_yards_31 : decode cX6_yards 31 = .ok (.invokestatic 96, 3) := by decide +kernel
theorem dX6_yards_34 : decode cX6_yards 34 = .ok (.ifCond .ne 6, 3) := by decide +kernel
theorem dX6_yards_37 : decode cX6_yards 37 = .ok (.bipush (-2), 2) := by decide +kernel
theorem dX6_yards_39 : decode cX6_yards 39 = .ok (.ireturn, 1) := by decide +kernel
theorem dX6_yards_40 : decode cX6_yards 40 = .ok (.aload_n 0, 1) := by decide +kernel
theorem dX6_yards_41 : decode cX6_yards 41 = .ok (.getfield 12, 3) := by decide +kernel
theorem dX6_yards_44 : decode cX6_yards 44 = .ok (.iload_n 1, 1) := by decide +kernel
theorem dX6_yards_45 : decode cX6_yards 45 = .ok (.iload_n 2, 1) := by decide +kernel
theorem dX6_yards_46 : decode cX6_yards 46 = .ok (.iload_n 3, 1) := by decide +kernel
theorem dX6_yards_47 : decode cX6_yards 47 = .ok (.iload 4, 2) := by decide +kernel
theorem dX6_yards_49 : decode cX6_yards 49 = .ok (.invokevirtual 125, 3) := by decide +kernel
theorem dX6_yards_52 : decode cX6_yards 52 = .ok (.ireturn, 1) := by decide +kernel
theorem dX6_cord_0 : decode cX6_cord 0 = .ok (.aload_n 0, 1) := by decide +kernel
theorem dX6_cord_1 : decode cX6_cord 1 = .ok (.getfield 12, 3) := by decide +kernel
theorem dX6_cord_4 : decode cX6_cord 4 = .ok (.iload_n 1, 1) := by decide +kernel
theorem dX6_cord_5 : decode cX6_cord 5 = .ok (.invokevirtual 105, 3) := by decide +kernel
theorem dX6_cord_8 : decode cX6_cord 8 = .ok (.ifCond .ne 6, 3) := by decide +kernel
theorem dX6_cord_11 : decode cX6_cord 11 = .ok (.bipush (-2), 2) := by decide +kernel
theorem dX6_cord_13 : decode cX6_cord 13 = .ok (.ireturn, 1) := by decide +kernel
theorem dX6_cord_14 : decode cX6_cord 14 = .ok (.iload_n 2, 1) := by decide +kernel
theorem dX6_cord_15 : decode cX6_cord 15 = .ok (.invokestatic 93, 3) := by decide +kernel
theorem dX6_cord_18 : decode cX6_cord 18 = .ok (.ifCond .eq 28, 3) := by decide +kernel
theorem dX6_cord_21 : decode cX6_cord 21 = .ok (.iload_n 2, 1) := by decide +kernel
theorem dX6_cord_22 : decode cX6_cord 22 = .ok (.aload_n 0, 1) := by decide +kernel
theorem dX6_cord_23 : decode cX6_cord 23 = .ok (.getfield 26, 3) := by decide +kernel
theorem dX6_cord_26 : decode cX6_cord 26 = .ok (.getfield 129, 3) := by decide +kernel
theorem dX6_cord_29 : decode cX6_cord 29 = .ok (.iload_n 1, 1) := by decide +kernel
theorem dX6_cord_30 : decode cX6_cord 30 = .ok (.iaload, 1) := by decide +kernel
theorem dX6_cord_31 : decode cX6_cord 31 = .ok (.isub, 1) := by decide +kernel
theorem dX6_cord_32 : decode cX6_cord 32 = .ok (.invokestatic 132, 3) := by decide +kernel
theorem dX6_cord_35 : decode cX6_cord 35 = .ok (.aload_n 0, 1) := by decide +kernel
theorem dX6_cord_36 : decode cX6_cord 36 = .ok (.getfield 12, 3) := by decide +kernel
theorem dX6_cord_39 : decode cX6_cord 39 = .ok (.iload_n 1, 1) := by decide +kernel
theorem dX6_cord_40 : decode cX6_cord 40 = .ok (.invokevirtual 111, 3) := by decide +kernel
theorem dX6_cord_43 : decode cX6_cord 43 = .ok (.if_icmp .le 6, 3) := by decide +kernel
theorem dX6_cord_46 : decode cX6_cord 46 = .ok (.bipush (-3), 2) := by decide +kernel
theorem dX6_cord_48 : decode cX6_cord 48 = .ok (.ireturn, 1) := by decide +kernel
theorem dX6_cord_49 : decode cX6_cord 49 = .ok (.aload_n 0, 1) := by decide +kernel
theorem dX6_cord_50 : decode cX6_cord 50 = .ok (.getfield 26, 3) := by decide +kernel
theorem dX6_cord_53 : decode cX6_cord 53 = .ok (.getfield 137, 3) := by decide +kernel
theorem dX6_cord_56 : decode cX6_cord 56 = .ok (.iload_n 1, 1) := by decide +kernel
theorem dX6_cord_57 : decode cX6_cord 57 = .ok (.iaload, 1) := by decide +kernel
theorem dX6_cord_58 : decode cX6_cord 58 = .ok (.sipush 160, 3) := by decide +kernel
theorem dX6_cord_61 : decode cX6_cord 61 = .ok (.if_icmp .eq 15, 3) := by decide +kernel
theorem dX6_cord_64 : decode cX6_cord 64 = .ok (.aload_n 0, 1) := by decide +kernel
theorem dX6_cord_65 : decode cX6_cord 65 = .ok (.getfield 26, 3) := by decide +kernel
theorem dX6_cord_68 : decode cX6_cord 68 = .ok (.getfield 140, 3) := by decide +kernel
theorem dX6_cord_71 : decode cX6_cord 71 = .ok (.bipush 24, 2) := by decide +kernel
theorem dX6_cord_73 : decode cX6_cord 73 = .ok (.if_icmp .lt 6, 3) := by decide +kernel
theorem dX6_cord_76 : decode cX6_cord 76 = .ok (.bipush (-4), 2) := by decide +kernel
theorem dX6_cord_78 : decode cX6_cord 78 = .ok (.ireturn, 1) := by decide +kernel
theorem dX6_cord_79 : decode cX6_cord 79 = .ok (.aload_n 0, 1) := by decide +kernel
theorem dX6_cord_80 : decode cX6_cord 80 = .ok (.getfield 26, 3) := by decide +kernel
theorem dX6_cord_83 : decode cX6_cord 83 = .ok (.iload_n 1, 1) := by decide +kernel
theorem dX6_cord_84 : decode cX6_cord 84 = .ok (.iload_n 2, 1) := by decide +kernel
theorem dX6_cord_85 : decode cX6_cord 85 = .ok (.invokevirtual 143, 3) := by decide +kernel
theorem dX6_cord_88 : decode cX6_cord 88 = .ok (.ireturn, 1) := by decide +kernel
theorem dX6_go_0 : decode cX6_go 0 = .ok (.iload_n 1, 1) := by decide +kernel
theorem dX6_go_1 : decode cX6_go 1 = .ok (.iconst 1, 1) := by decide +kernel
theorem dX6_go_2 : decode cX6_go 2 = .ok (.if_icmp .lt 9, 3) := by decide +kernel
theorem dX6_go_5 : decode cX6_go 5 = .ok (.iload_n 1, 1) := by decide +kernel
theorem dX6_go_6 : decode cX6_go 6 = .ok (.bipush 24, 2) := by decide +kernel
theorem dX6_go_8 : decode cX6_go 8 = .ok (.if_icmp .le 6, 3) := by decide +kernel
theorem dX6_go_11 : decode cX6_go 11 = .ok (.bipush (-3), 2) := by decide +kernel
theorem dX6_go_13 : decode cX6_go 13 = .ok (.ireturn, 1) := by decide +kernel
theorem dX6_go_14 : decode cX6_go 14 = .ok (.bipush 24, 2) := by decide +kernel
theorem dX6_go_16 : decode cX6_go 16 = .ok (.aload_n 0, 1) := by decide +kernel
theorem dX6_go_17 : decode cX6_go 17 = .ok (.getfield 26, 3) := by decide +kernel
theorem dX6_go_20 : decode cX6_go 20 = .ok (.getfield 140, 3) := by decide +kernel
theorem dX6_go_23 : decode cX6_go 23 = .ok (.iload_n 1, 1) := by decide +kernel
theorem dX6_go_24 : decode cX6_go 24 = .ok (.iadd, 1) := by decide +kernel
theorem dX6_go_25 : decode cX6_go 25 = .ok (.invokestatic 147, 3) := by decide +kernel
theorem dX6_go_28 : decode cX6_go 28 = .ok (.istore_n 2, 1) := by decide +kernel
theorem dX6_go_29 : decode cX6_go 29 = .ok (.aload_n 0, 1) := by decide +kernel
theorem dX6_go_30 : decode cX6_go 30 = .ok (.getfield 26, 3) := by decide +kernel
theorem dX6_go_33 : decode cX6_go 33 = .ok (.getfield 140, 3) := by decide +kernel
theorem dX6_go_36 : decode cX6_go 36 = .ok (.istore_n 3, 1) := by decide +kernel
theorem dX6_go_37 : decode cX6_go 37 = .ok (.iload_n 3, 1) := by decide +kernel
theorem dX6_go_38 : decode cX6_go 38 = .ok (.iload_n 2, 1) := by decide +kernel
theorem dX6_go_39 : decode cX6_go 39 = .ok (.if_icmp .ge 21, 3) := by decide +kernel
theorem dX6_go_42 : decode cX6_go 42 = .ok (.aload_n 0, 1) := by decide +kernel
theorem dX6_go_43 : decode cX6_go 43 = .ok (.getfield 26, 3) := by decide +kernel
theorem dX6_go_46 : decode cX6_go 46 = .ok (.aload_n 0, 1) := by decide +kernel
theorem dX6_go_47 : decode cX6_go 47 = .ok (.getfield 12, 3) := by decide +kernel
theorem dX6_go_50 : decode cX6_go 50 = .ok (.iload_n 3, 1) := by decide +kernel
theorem dX6_go_51 : decode cX6_go 51 = .ok (.invokevirtual 150, 3) := by decide +kernel
theorem dX6_go_54 : decode cX6_go 54 = .ok (.iinc 3 1, 3) := by decide +kernel
theorem dX6_go_57 : decode cX6_go 57 = .ok (.goto (-20), 3) := by decide +kernel
theorem dX6_go_60 : decode cX6_go 60 = .ok (.aload_n 0, 1) := by decide +kernel
theorem dX6_go_61 : decode cX6_go 61 = .ok (.getfield 26, 3) := by decide +kernel
theorem dX6_go_64 : decode cX6_go 64 = .ok (.getfield 140, 3) := by decide +kernel
theorem dX6_go_67 : decode cX6_go 67 = .ok (.ireturn, 1) := by decide +kernel
theorem dX6_at_0 : decode cX6_at 0 = .ok (.aload_n 0, 1) := by decide +kernel
theorem dX6_at_1 : decode cX6_at 1 = .ok (.getfield 12, 3) := by decide +kernel
theorem dX6_at_4 : decode cX6_at 4 = .ok (.iload_n 1, 1) := by decide +kernel
theorem dX6_at_5 : decode cX6_at 5 = .ok (.invokevirtual 105, 3) := by decide +kernel
theorem dX6_at_8 : decode cX6_at 8 = .ok (.ifCond .ne 6, 3) := by decide +kernel
theorem dX6_at_11 : decode cX6_at 11 = .ok (.bipush (-2), 2) := by decide +kernel
theorem dX6_at_13 : decode cX6_at 13 = .ok (.ireturn, 1) := by decide +kernel
theorem dX6_at_14 : decode cX6_at 14 = .ok (.aload_n 0, 1) := by decide +kernel
theorem dX6_at_15 : decode cX6_at 15 = .ok (.getfield 26, 3) := by decide +kernel
theorem dX6_at_18 : decode cX6_at 18 = .ok (.getfield 137, 3) := by decide +kernel
theorem dX6_at_21 : decode cX6_at 21 = .ok (.iload_n 1, 1) := by decide +kernel
theorem dX6_at_22 : decode cX6_at 22 = .ok (.iaload, 1) := by decide +kernel
theorem dX6_at_23 : decode cX6_at 23 = .ok (.istore_n 3, 1) := by decide +kernel
theorem dX6_at_24 : decode cX6_at 24 = .ok (.iload_n 2, 1) := by decide +kernel
theorem dX6_at_25 : decode cX6_at 25 = .ok (.tableswitch 86 0 4 #[35, 51, 56, 66, 76], 35) := by decide +kernel
theorem dX6_at_60 : decode cX6_at 60 = .ok (.iload_n 3, 1) := by decide +kernel
theorem dX6_at_61 : decode cX6_at 61 = .ok (.sipush 160, 3) := by decide +kernel
theorem dX6_at_64 : decode cX6_at 64 = .ok (.if_icmp .ne 7, 3) := by decide +kernel
theorem dX6_at_67 : decode cX6_at 67 = .ok (.iconst (-1), 1) := by decide +kernel
theorem dX6_at_68 : decode cX6_at 68 = .ok (.goto 7, 3) := by decide +kernel
theorem dX6_at_71 : decode cX6_at 71 = .ok (.iload_n 3, 1) := by decide +kernel
theorem dX6_at_72 : decode cX6_at 72 = .ok (.bipush 20, 2) := by decide +kernel
theorem dX6_at_74 : decode cX6_at 74 = .ok (.idiv, 1) := by decide +kernel
theorem dX6_at_75 : decode cX6_at 75 = .ok (.ireturn, 1) := by decide +kernel
theorem dX6_at_76 : decode cX6_at 76 = .ok (.iload_n 3, 1) := by decide +kernel
theorem dX6_at_77 : decode cX6_at 77 = .ok (.bipush 20, 2) := by decide +kernel
theorem dX6_at_79 : decode cX6_at 79 = .ok (.irem, 1) := by decide +kernel
theorem dX6_at_80 : decode cX6_at 80 = .ok (.ireturn, 1) := by decide +kernel
theorem dX6_at_81 : decode cX6_at 81 = .ok (.aload_n 0, 1) := by decide +kernel
theorem dX6_at_82 : decode cX6_at 82 = .ok (.getfield 26, 3) := by decide +kernel
theorem dX6_at_85 : decode cX6_at 85 = .ok (.getfield 154, 3) := by decide +kernel
theorem dX6_at_88 : decode cX6_at 88 = .ok (.iload_n 1, 1) := by decide +kernel
theorem dX6_at_89 : decode cX6_at 89 = .ok (.iaload, 1) := by decide +kernel
theorem dX6_at_90 : decode cX6_at 90 = .ok (.ireturn, 1) := by decide +kernel
theorem dX6_at_91 : decode cX6_at 91 = .ok (.aload_n 0, 1) := by decide +kernel
theorem dX6_at_92 : decode cX6_at 92 = .ok (.getfield 26, 3) := by decide +kernel
theorem dX6_at_95 : decode cX6_at 95 = .ok (.getfield 157, 3) := by decide +kernel
theorem dX6_at_98 : decode cX6_at 98 = .ok (.iload_n 1, 1) := by decide +kernel
theorem dX6_at_99 : decode cX6_at 99 = .ok (.iaload, 1) := by decide +kernel
theorem dX6_at_100 : decode cX6_at 100 = .ok (.ireturn, 1) := by decide +kernel
theorem dX6_at_101 : decode cX6_at 101 = .ok (.aload_n 0, 1) := by decide +kernel
theorem dX6_at_102 : decode cX6_at 102 = .ok (.getfield 26, 3) := by decide +kernel
theorem dX6_at_105 : decode cX6_at 105 = .ok (.getfield 160, 3) := by decide +kernel
theorem dX6_at_108 : decode cX6_at 108 = .ok (.iload_n 1, 1) := by decide +kernel
theorem dX6_at_109 : decode cX6_at 109 = .ok (.iaload, 1) := by decide +kernel
theorem dX6_at_110 : decode cX6_at 110 = .ok (.ireturn, 1) := by decide +kernel
theorem dX6_at_111 : decode cX6_at 111 = .ok (.bipush (-3), 2) := by decide +kernel
theorem dX6_at_113 : decode cX6_at 113 = .ok (.ireturn, 1) := by decide +kernel
theorem dX6_knots_0 : decode cX6_knots 0 = .ok (.aload_n 0, 1) := by decide +kernel
theorem dX6_knots_1 : decode cX6_knots 1 = .ok (.getfield 12, 3) := by decide +kernel
theorem dX6_knots_4 : decode cX6_knots 4 = .ok (.iload_n 1, 1) := by decide +kernel
theorem dX6_knots_5 : decode cX6_knots 5 = .ok (.invokevirtual 105, 3) := by decide +kernel
theorem dX6_knots_8 : decode cX6_knots 8 = .ok (.ifCond .ne 6, 3) := by decide +kernel
theorem dX6_knots_11 : decode cX6_knots 11 = .ok (.bipush (-2), 2) := by decide +kernel
theorem dX6_knots_13 : decode cX6_knots 13 = .ok (.ireturn, 1) := by decide +kernel
theorem dX6_knots_14 : decode cX6_knots 14 = .ok (.iconst 0, 1) := by decide +kernel
theorem dX6_knots_15 : decode cX6_knots 15 = .ok (.istore_n 2, 1) := by decide +kernel
theorem dX6_knots_16 : decode cX6_knots 16 = .ok (.iconst 0, 1) := by decide +kernel
theorem dX6_knots_17 : decode cX6_knots 17 = .ok (.istore_n 3, 1) := by decide +kernel
theorem dX6_knots_18 : decode cX6_knots 18 = .ok (.iload_n 3, 1) := by decide +kernel
theorem dX6_knots_19 : decode cX6_knots 19 = .ok (.iconst 4, 1) := by decide +kernel
theorem dX6_knots_20 : decode cX6_knots 20 = .ok (.if_icmp .ge 44, 3) := by decide +kernel
theorem dX6_knots_23 : decode cX6_knots 23 = .ok (.iload_n 3, 1) := by decide +kernel
theorem dX6_knots_24 : decode cX6_knots 24 = .ok (.iload_n 1, 1) := by decide +kernel
theorem dX6_knots_25 : decode cX6_knots 25 = .ok (.if_icmp .eq 33, 3) := by decide +kernel
theorem dX6_knots_28 : decode cX6_knots 28 = .ok (.aload_n 0, 1) := by decide +kernel
theorem dX6_knots_29 : decode cX6_knots 29 = .ok (.getfield 12, 3) := by decide +kernel
theorem dX6_knots_32 : decode cX6_knots 32 = .ok (.getfield 163, 3) := by decide +kernel
theorem dX6_knots_35 : decode cX6_knots 35 = .ok (.iload_n 3, 1) := by decide +kernel
theorem dX6_knots_36 : decode cX6_knots 36 = .ok (.baload, 1) := by decide +kernel
theorem dX6_knots_37 : decode cX6_knots 37 = .ok (.ifCond .eq 21, 3) := by decide +kernel
theorem dX6_knots_40 : decode cX6_knots 40 = .ok (.aload_n 0, 1) := by decide +kernel
theorem dX6_knots_41 : decode cX6_knots 41 = .ok (.getfield 26, 3) := by decide +kernel
theorem dX6_knots_44 : decode cX6_knots 44 = .ok (.iload_n 1, 1) := by decide +kernel
theorem dX6_knots_45 : decode cX6_knots 45 = .ok (.iload_n 3, 1) := by decide +kernel
theorem dX6_knots_46 : decode cX6_knots 46 = .ok (.invokevirtual 166, 3) := by decide +kernel
theorem dX6_knots_49 : decode cX6_knots 49 = .ok (.ifCond .eq 9, 3) := by decide +kernel
theorem dX6_knots_52 : decode cX6_knots 52 = .ok (.iload_n 2, 1) := by decide +kernel
theorem dX6_knots_53 : decode cX6_knots 53 = .ok (.iconst 1, 1) := by decide +kernel
theorem dX6_knots_54 : decode cX6_knots 54 = .ok (.iload_n 3, 1) := by decide +kernel
theorem dX6_knots_55 : decode cX6_knots 55 = .ok (.ishl, 1) := by decide +kernel
theorem dX6_knots_56 : decode cX6_knots 56 = .ok (.ior, 1) := by decide +kernel
theorem dX6_knots_57 : decode cX6_knots 57 = .ok (.istore_n 2, 1) := by decide +kernel
theorem dX6_knots_58 : decode cX6_knots 58 = .ok (.iinc 3 1, 3) := by decide +kernel
theorem dX6_knots_61 : decode cX6_knots 61 = .ok (.goto (-43), 3) := by decide +kernel
theorem dX6_knots_64 : decode cX6_knots 64 = .ok (.iload_n 2, 1) := by decide +kernel
theorem dX6_knots_65 : decode cX6_knots 65 = .ok (.ireturn, 1) := by decide +kernel
theorem dX6_keep_0 : decode cX6_keep 0 = .ok (.iload_n 1, 1) := by decide +kernel
theorem dX6_keep_1 : decode cX6_keep 1 = .ok (.ifCond .lt 8, 3) := by decide +kernel
theorem dX6_keep_4 : decode cX6_keep 4 = .ok (.iload_n 1, 1) := by decide +kernel
theorem dX6_keep_5 : decode cX6_keep 5 = .ok (.iconst 2, 1) := by decide +kernel
theorem dX6_keep_6 : decode cX6_keep 6 = .ok (.if_icmp .lt 6, 3) := by decide +kernel
theorem dX6_keep_9 : decode cX6_keep 9 = .ok (.bipush (-2), 2) := by decide +kernel
theorem dX6_keep_11 : decode cX6_keep 11 = .ok (.ireturn, 1) := by decide +kernel
theorem dX6_keep_12 : decode cX6_keep 12 = .ok (.aload_n 0, 1) := by decide +kernel
theorem dX6_keep_13 : decode cX6_keep 13 = .ok (.getfield 30, 3) := by decide +kernel
theorem dX6_keep_16 : decode cX6_keep 16 = .ok (.iload_n 1, 1) := by decide +kernel
theorem dX6_keep_17 : decode cX6_keep 17 = .ok (.aaload, 1) := by decide +kernel
theorem dX6_keep_18 : decode cX6_keep 18 = .ok (.aload_n 0, 1) := by decide +kernel
theorem dX6_keep_19 : decode cX6_keep 19 = .ok (.getfield 26, 3) := by decide +kernel
theorem dX6_keep_22 : decode cX6_keep 22 = .ok (.invokevirtual 170, 3) := by decide +kernel
theorem dX6_keep_25 : decode cX6_keep 25 = .ok (.aload_n 0, 1) := by decide +kernel
theorem dX6_keep_26 : decode cX6_keep 26 = .ok (.getfield 34, 3) := by decide +kernel
theorem dX6_keep_29 : decode cX6_keep 29 = .ok (.iload_n 1, 1) := by decide +kernel
theorem dX6_keep_30 : decode cX6_keep 30 = .ok (.iconst 1, 1) := by decide +kernel
theorem dX6_keep_31 : decode cX6_keep 31 = .ok (.bastore, 1) := by decide +kernel
theorem dX6_keep_32 : decode cX6_keep 32 = .ok (.aload_n 0, 1) := by decide +kernel
theorem dX6_keep_33 : decode cX6_keep 33 = .ok (.getfield 26, 3) := by decide +kernel
theorem dX6_keep_36 : decode cX6_keep 36 = .ok (.getfield 140, 3) := by decide +kernel
theorem dX6_keep_39 : decode cX6_keep 39 = .ok (.ireturn, 1) := by decide +kernel
theorem dX6_back_0 : decode cX6_back 0 = .ok (.iload_n 1, 1) := by decide +kernel
theorem dX6_back_1 : decode cX6_back 1 = .ok (.ifCond .lt 8, 3) := by decide +kernel
theorem dX6_back_4 : decode cX6_back 4 = .ok (.iload_n 1, 1) := by decide +kernel
theorem dX6_back_5 : decode cX6_back 5 = .ok (.iconst 2, 1) := by decide +kernel
theorem dX6_back_6 : decode cX6_back 6 = .ok (.if_icmp .lt 6, 3) := by decide +kernel
theorem dX6_back_9 : decode cX6_back 9 = .ok (.bipush (-2), 2) := by decide +kernel
theorem dX6_back_11 : decode cX6_back 11 = .ok (.ireturn, 1) := by decide +kernel
theorem dX6_back_12 : decode cX6_back 12 = .ok (.aload_n 0, 1) := by decide +kernel
theorem dX6_back_13 : decode cX6_back 13 = .ok (.getfield 34, 3) := by decide +kernel
theorem dX6_back_16 : decode cX6_back 16 = .ok (.iload_n 1, 1) := by decide +kernel
theorem dX6_back_17 : decode cX6_back 17 = .ok (.baload, 1) := by decide +kernel
theorem dX6_back_18 : decode cX6_back 18 = .ok (.ifCond .ne 6, 3) := by decide +kernel
theorem dX6_back_21 : decode cX6_back 21 = .ok (.bipush (-4), 2) := by decide +kernel
theorem dX6_back_23 : decode cX6_back 23 = .ok (.ireturn, 1) := by decide +kernel
theorem dX6_back_24 : decode cX6_back 24 = .ok (.aload_n 0, 1) := by decide +kernel
theorem dX6_back_25 : decode cX6_back 25 = .ok (.getfield 26, 3) := by decide +kernel
theorem dX6_back_28 : decode cX6_back 28 = .ok (.aload_n 0, 1) := by decide +kernel
theorem dX6_back_29 : decode cX6_back 29 = .ok (.getfield 30, 3) := by decide +kernel
theorem dX6_back_32 : decode cX6_back 32 = .ok (.iload_n 1, 1) := by decide +kernel
theorem dX6_back_33 : decode cX6_back 33 = .ok (.aaload, 1) := by decide +kernel
theorem dX6_back_34 : decode cX6_back 34 = .ok (.invokevirtual 170, 3) := by decide +kernel
theorem dX6_back_37 : decode cX6_back 37 = .ok (.aload_n 0, 1) := by decide +kernel
theorem dX6_back_38 : decode cX6_back 38 = .ok (.getfield 26, 3) := by decide +kernel
theorem dX6_back_41 : decode cX6_back 41 = .ok (.getfield 140, 3) := by decide +kernel
theorem dX6_back_44 : decode cX6_back 44 = .ok (.ireturn, 1) := by decide +kernel
theorem dX6_soonest_0 : decode cX6_soonest 0 = .ok (.aload_n 0, 1) := by decide +kernel
theorem dX6_soonest_1 : decode cX6_soonest 1 = .ok (.getfield 12, 3) := by decide +kernel
theorem dX6_soonest_4 : decode cX6_soonest 4 = .ok (.iload_n 1, 1) := by decide +kernel
theorem dX6_soonest_5 : decode cX6_soonest 5 = .ok (.invokevirtual 105, 3) := by decide +kernel
theorem dX6_soonest_8 : decode cX6_soonest 8 = .ok (.ifCond .eq 10, 3) := by decide +kernel
theorem dX6_soonest_11 : decode cX6_soonest 11 = .ok (.iload_n 2, 1) := by decide +kernel
theorem dX6_soonest_12 : decode cX6_soonest 12 = .ok (.invokestatic 96, 3) := by decide +kernel
theorem dX6_soonest_15 : decode cX6_soonest 15 = .ok (.ifCond .ne 6, 3) := by decide +kernel
theorem dX6_soonest_18 : decode cX6_soonest 18 = .ok (.bipush (-2), 2) := by decide +kernel
theorem dX6_soonest_20 : decode cX6_soonest 20 = .ok (.ireturn, 1) := by decide +kernel
theorem dX6_soonest_21 : decode cX6_soonest 21 = .ok (.iload_n 3, 1) := by decide +kernel
theorem dX6_soonest_22 : decode cX6_soonest 22 = .ok (.bipush (-2), 2) := by decide +kernel
theorem dX6_soonest_24 : decode cX6_soonest 24 = .ok (.if_icmp .ge 6, 3) := by decide +kernel
theorem dX6_soonest_27 : decode cX6_soonest 27 = .ok (.bipush (-3), 2) := by decide +kernel
theorem dX6_soonest_29 : decode cX6_soonest 29 = .ok (.ireturn, 1) := by decide +kernel
theorem dX6_soonest_30 : decode cX6_soonest 30 = .ok (.aload_n 0, 1) := by decide +kernel
theorem dX6_soonest_31 : decode cX6_soonest 31 = .ok (.getfield 43, 3) := by decide +kernel
theorem dX6_soonest_34 : decode cX6_soonest 34 = .ok (.aload_n 0, 1) := by decide +kernel
theorem dX6_soonest_35 : decode cX6_soonest 35 = .ok (.getfield 43, 3) := by decide +kernel
theorem dX6_soonest_38 : decode cX6_soonest 38 = .ok (.iload_n 1, 1) := by decide +kernel
theorem dX6_soonest_39 : decode cX6_soonest 39 = .ok (.iload_n 2, 1) := by decide +kernel
theorem dX6_soonest_40 : decode cX6_soonest 40 = .ok (.invokevirtual 174, 3) := by decide +kernel
theorem dX6_soonest_43 : decode cX6_soonest 43 = .ok (.iload_n 3, 1) := by decide +kernel
theorem dX6_soonest_44 : decode cX6_soonest 44 = .ok (.invokevirtual 177, 3) := by decide +kernel
theorem dX6_soonest_47 : decode cX6_soonest 47 = .ok (.ireturn, 1) := by decide +kernel
theorem dX6_clear_0 : decode cX6_clear 0 = .ok (.aload_n 0, 1) := by decide +kernel
theorem dX6_clear_1 : decode cX6_clear 1 = .ok (.getfield 12, 3) := by decide +kernel
theorem dX6_clear_4 : decode cX6_clear 4 = .ok (.iload_n 1, 1) := by decide +kernel
theorem dX6_clear_5 : decode cX6_clear 5 = .ok (.invokevirtual 105, 3) := by decide +kernel
theorem dX6_clear_8 : decode cX6_clear 8 = .ok (.ifCond .eq 14, 3) := by decide +kernel
theorem dX6_clear_11 : decode cX6_clear 11 = .ok (.aload_n 0, 1) := by decide +kernel
theorem dX6_clear_12 : decode cX6_clear 12 = .ok (.getfield 12, 3) := by decide +kernel
theorem dX6_clear_15 : decode cX6_clear 15 = .ok (.iload_n 2, 1) := by decide +kernel
theorem dX6_clear_16 : decode cX6_clear 16 = .ok (.invokevirtual 105, 3) := by decide +kernel
theorem dX6_clear_19 : decode cX6_clear 19 = .ok (.ifCond .ne 6, 3) := by decide +kernel
theorem dX6_clear_22 : decode cX6_clear 22 = .ok (.bipush (-2), 2) := by decide +kernel
theorem dX6_clear_24 : decode cX6_clear 24 = .ok (.ireturn, 1) := by decide +kernel
theorem dX6_clear_25 : decode cX6_clear 25 = .ok (.iload_n 1, 1) := by decide +kernel
theorem dX6_clear_26 : decode cX6_clear 26 = .ok (.iload_n 2, 1) := by decide +kernel
theorem dX6_clear_27 : decode cX6_clear 27 = .ok (.if_icmp .eq 9, 3) := by decide +kernel
theorem dX6_clear_30 : decode cX6_clear 30 = .ok (.iload_n 3, 1) := by decide +kernel
theorem dX6_clear_31 : decode cX6_clear 31 = .ok (.bipush (-2), 2) := by decide +kernel
theorem dX6_clear_33 : decode cX6_clear 33 = .ok (.if_icmp .ge 6, 3) := by decide +kernel
theorem dX6_clear_36 : decode cX6_clear 36 = .ok (.bipush (-3), 2) := by decide +kernel
theorem dX6_clear_38 : decode cX6_clear 38 = .ok (.ireturn, 1) := by decide +kernel
theorem dX6_clear_39 : decode cX6_clear 39 = .ok (.aload_n 0, 1) := by decide +kernel
theorem dX6_clear_40 : decode cX6_clear 40 = .ok (.getfield 43, 3) := by decide +kernel
theorem dX6_clear_43 : decode cX6_clear 43 = .ok (.iload_n 2, 1) := by decide +kernel
theorem dX6_clear_44 : decode cX6_clear 44 = .ok (.iconst 0, 1) := by decide +kernel
theorem dX6_clear_45 : decode cX6_clear 45 = .ok (.invokevirtual 174, 3) := by decide +kernel
theorem dX6_clear_48 : decode cX6_clear 48 = .ok (.istore 4, 2) := by decide +kernel
theorem dX6_clear_50 : decode cX6_clear 50 = .ok (.aload_n 0, 1) := by decide +kernel
theorem dX6_clear_51 : decode cX6_clear 51 = .ok (.getfield 43, 3) := by decide +kernel
theorem dX6_clear_54 : decode cX6_clear 54 = .ok (.getfield 180, 3) := by decide +kernel
theorem dX6_clear_57 : decode cX6_clear 57 = .ok (.iload 4, 2) := by decide +kernel
theorem dX6_clear_59 : decode cX6_clear 59 = .ok (.iaload, 1) := by decide +kernel
theorem dX6_clear_60 : decode cX6_clear 60 = .ok (.iconst (-1), 1) := by decide +kernel
theorem dX6_clear_61 : decode cX6_clear 61 = .ok (.if_icmp .ne 6, 3) := by decide +kernel
theorem dX6_clear_64 : decode cX6_clear 64 = .ok (.bipush (-4), 2) := by decide +kernel
theorem dX6_clear_66 : decode cX6_clear 66 = .ok (.ireturn, 1) := by decide +kernel
theorem dX6_clear_67 : decode cX6_clear 67 = .ok (.aload_n 0, 1) := by decide +kernel
theorem dX6_clear_68 : decode cX6_clear 68 = .ok (.getfield 43, 3) := by decide +kernel
theorem dX6_clear_71 : decode cX6_clear 71 = .ok (.aload_n 0, 1) := by decide +kernel
theorem dX6_clear_72 : decode cX6_clear 72 = .ok (.getfield 43, 3) := by decide +kernel
theorem dX6_clear_75 : decode cX6_clear 75 = .ok (.iload_n 1, 1) := by decide +kernel
theorem dX6_clear_76 : decode cX6_clear 76 = .ok (.iload_n 2, 1) := by decide +kernel
theorem dX6_clear_77 : decode cX6_clear 77 = .ok (.iload 4, 2) := by decide +kernel
theorem dX6_clear_79 : decode cX6_clear 79 = .ok (.invokevirtual 183, 3) := by decide +kernel
theorem dX6_clear_82 : decode cX6_clear 82 = .ok (.iload_n 3, 1) := by decide +kernel
theorem dX6_clear_83 : decode cX6_clear 83 = .ok (.invokevirtual 177, 3) := by decide +kernel
theorem dX6_clear_86 : decode cX6_clear 86 = .ok (.ireturn, 1) := by decide +kernel
theorem dX6_odds_0 : decode cX6_odds 0 = .ok (.aload_n 0, 1) := by decide +kernel
theorem dX6_odds_1 : decode cX6_odds 1 = .ok (.iload_n 1, 1) := by decide +kernel
theorem dX6_odds_2 : decode cX6_odds 2 = .ok (.iload_n 2, 1) := by decide +kernel
theorem dX6_odds_3 : decode cX6_odds 3 = .ok (.iload_n 3, 1) := by decide +kernel
theorem dX6_odds_4 : decode cX6_odds 4 = .ok (.iload 4, 2) := by decide +kernel
theorem dX6_odds_6 : decode cX6_odds 6 = .ok (.bipush 8, 2) := by decide +kernel
theorem dX6_odds_8 : decode cX6_odds 8 = .ok (.invokevirtual 186, 3) := by decide +kernel
theorem dX6_odds_11 : decode cX6_odds 11 = .ok (.istore 5, 2) := by decide +kernel
theorem dX6_odds_13 : decode cX6_odds 13 = .ok (.iload 5, 2) := by decide +kernel
theorem dX6_odds_15 : decode cX6_odds 15 = .ok (.ifCond .eq 7, 3) := by decide +kernel
theorem dX6_odds_18 : decode cX6_odds 18 = .ok (.iload 5, 2) := by decide +kernel
theorem dX6_odds_20 : decode cX6_odds 20 = .ok (.i2l, 1) := by decide +kernel
theorem dX6_odds_21 : decode cX6_odds 21 = .ok (.lreturn, 1) := by decide +kernel
theorem dX6_odds_22 : decode cX6_odds 22 = .ok (.aload_n 0, 1) := by decide +kernel
theorem dX6_odds_23 : decode cX6_odds 23 = .ok (.getfield 43, 3) := by decide +kernel
theorem dX6_odds_26 : decode cX6_odds 26 = .ok (.iload_n 1, 1) := by decide +kernel
theorem dX6_odds_27 : decode cX6_odds 27 = .ok (.iconst 0, 1) := by decide +kernel
theorem dX6_odds_28 : decode cX6_odds 28 = .ok (.invokevirtual 174, 3) := by decide +kernel
theorem dX6_odds_31 : decode cX6_odds 31 = .ok (.istore 6, 2) := by decide +kernel
theorem dX6_odds_33 : decode cX6_odds 33 = .ok (.aload_n 0, 1) := by decide +kernel
theorem dX6_odds_34 : decode cX6_odds 34 = .ok (.getfield 43, 3) := by decide +kernel
theorem dX6_odds_37 : decode cX6_odds 37 = .ok (.getfield 180, 3) := by decide +kernel
theorem dX6_odds_40 : decode cX6_odds 40 = .ok (.iload 6, 2) := by decide +kernel
theorem dX6_odds_42 : decode cX6_odds 42 = .ok (.iaload, 1) := by decide +kernel
theorem dX6_odds_43 : decode cX6_odds 43 = .ok (.iconst (-1), 1) := by decide +kernel
theorem dX6_odds_44 : decode cX6_odds 44 = .ok (.if_icmp .ne 7, 3) := by decide +kernel
theorem dX6_odds_47 : decode cX6_odds 47 = .ok (.ldc2_w 190, 3) := by decide +kernel
theorem dX6_odds_50 : decode cX6_odds 50 = .ok (.lreturn, 1) := by decide +kernel
theorem dX6_odds_51 : decode cX6_odds 51 = .ok (.aload_n 0, 1) := by decide +kernel
theorem dX6_odds_52 : decode cX6_odds 52 = .ok (.getfield 50, 3) := by decide +kernel
theorem dX6_odds_55 : decode cX6_odds 55 = .ok (.iload_n 2, 1) := by decide +kernel
theorem dX6_odds_56 : decode cX6_odds 56 = .ok (.iload_n 3, 1) := by decide +kernel
theorem dX6_odds_57 : decode cX6_odds 57 = .ok (.invokevirtual 192, 3) := by decide +kernel
theorem dX6_odds_60 : decode cX6_odds 60 = .ok (.iconst 0, 1) := by decide +kernel
theorem dX6_odds_61 : decode cX6_odds 61 = .ok (.istore 7, 2) := by decide +kernel
theorem dX6_odds_63 : decode cX6_odds 63 = .ok (.iload 7, 2) := by decide +kernel
theorem dX6_odds_65 : decode cX6_odds 65 = .ok (.iload_n 2, 1) := by decide +kernel
theorem dX6_odds_66 : decode cX6_odds 66 = .ok (.if_icmp .ge 30, 3) := by decide +kernel
theorem dX6_odds_69 : decode cX6_odds 69 = .ok (.aload_n 0, 1) := by decide +kernel
theorem dX6_odds_70 : decode cX6_odds 70 = .ok (.getfield 50, 3) := by decide +kernel
theorem dX6_odds_73 : decode cX6_odds 73 = .ok (.iload_n 1, 1) := by decide +kernel
theorem dX6_odds_74 : decode cX6_odds 74 = .ok (.iload 7, 2) := by decide +kernel
theorem dX6_odds_76 : decode cX6_odds 76 = .ok (.aload_n 0, 1) := by decide +kernel
theorem dX6_odds_77 : decode cX6_odds 77 = .ok (.getfield 43, 3) := by decide +kernel
theorem dX6_odds_80 : decode cX6_odds 80 = .ok (.iload 6, 2) := by decide +kernel
theorem dX6_odds_82 : decode cX6_odds 82 = .ok (.iload 7, 2) := by decide +kernel
theorem dX6_odds_84 : decode cX6_odds 84 = .ok (.invokevirtual 196, 3) := by decide +kernel
theorem dX6_odds_87 : decode cX6_odds 87 = .ok (.invokevirtual 199, 3) := by decide +kernel
theorem dX6_odds_90 : decode cX6_odds 90 = .ok (.iinc 7 1, 3) := by decide +kernel
theorem dX6_odds_93 : decode cX6_odds 93 = .ok (.goto (-30), 3) := by decide +kernel
theorem dX6_odds_96 : decode cX6_odds 96 = .ok (.aload_n 0, 1) := by decide +kernel
theorem dX6_odds_97 : decode cX6_odds 97 = .ok (.getfield 50, 3) := by decide +kernel
theorem dX6_odds_100 : decode cX6_odds 100 = .ok (.iload_n 2, 1) := by decide +kernel
theorem dX6_odds_101 : decode cX6_odds 101 = .ok (.invokevirtual 203, 3) := by decide +kernel
theorem dX6_odds_104 : decode cX6_odds 104 = .ok (.iload_n 2, 1) := by decide +kernel
theorem dX6_odds_105 : decode cX6_odds 105 = .ok (.iload 4, 2) := by decide +kernel
theorem dX6_odds_107 : decode cX6_odds 107 = .ok (.invokestatic 207, 3) := by decide +kernel
theorem dX6_odds_110 : decode cX6_odds 110 = .ok (.lreturn, 1) := by decide +kernel
theorem dX6_sight_0 : decode cX6_sight 0 = .ok (.aload_n 0, 1) := by decide +kernel
theorem dX6_sight_1 : decode cX6_sight 1 = .ok (.iload_n 1, 1) := by decide +kernel
theorem dX6_sight_2 : decode cX6_sight 2 = .ok (.iload_n 2, 1) := by decide +kernel
theorem dX6_sight_3 : decode cX6_sight 3 = .ok (.iload_n 3, 1) := by decide +kernel
theorem dX6_sight_4 : decode cX6_sight 4 = .ok (.iload 4, 2) := by decide +kernel
theorem dX6_sight_6 : decode cX6_sight 6 = .ok (.bipush 8, 2) := by decide +kernel
theorem dX6_sight_8 : decode cX6_sight 8 = .ok (.invokevirtual 186, 3) := by decide +kernel
theorem dX6_sight_11 : decode cX6_sight 11 = .ok (.istore 5, 2) := by decide +kernel
theorem dX6_sight_13 : decode cX6_sight 13 = .ok (.iload 5, 2) := by decide +kernel
theorem dX6_sight_15 : decode cX6_sight 15 = .ok (.ifCond .eq 9, 3) := by decide +kernel
theorem dX6_sight_18 : decode cX6_sight 18 = .ok (.iload 5, 2) := by decide +kernel
theorem dX6_sight_20 : decode cX6_sight 20 = .ok (.i2l, 1) := by decide +kernel
theorem dX6_sight_21 : decode cX6_sight 21 = .ok (.goto 19, 3) := by decide +kernel
theorem dX6_sight_24 : decode cX6_sight 24 = .ok (.aload_n 0, 1) := by decide +kernel
theorem dX6_sight_25 : decode cX6_sight 25 = .ok (.getfield 50, 3) := by decide +kernel
theorem dX6_sight_28 : decode cX6_sight 28 = .ok (.iload_n 1, 1) := by decide +kernel
theorem dX6_sight_29 : decode cX6_sight 29 = .ok (.iload_n 2, 1) := by decide +kernel
theorem dX6_sight_30 : decode cX6_sight 30 = .ok (.iload_n 3, 1) := by decide +kernel
theorem dX6_sight_31 : decode cX6_sight 31 = .ok (.invokevirtual 211, 3) := by decide +kernel
theorem dX6_sight_34 : decode cX6_sight 34 = .ok (.iload_n 2, 1) := by decide +kernel
theorem dX6_sight_35 : decode cX6_sight 35 = .ok (.iload 4, 2) := by decide +kernel
theorem dX6_sight_37 : decode cX6_sight 37 = .ok (.invokestatic 207, 3) := by decide +kernel
theorem dX6_sight_40 : decode cX6_sight 40 = .ok (.lreturn, 1) := by decide +kernel
theorem dX6_blind_0 : decode cX6_blind 0 = .ok (.aload_n 0, 1) := by decide +kernel
theorem dX6_blind_1 : decode cX6_blind 1 = .ok (.iload_n 1, 1) := by decide +kernel
theorem dX6_blind_2 : decode cX6_blind 2 = .ok (.iload_n 2, 1) := by decide +kernel
theorem dX6_blind_3 : decode cX6_blind 3 = .ok (.iload_n 3, 1) := by decide +kernel
theorem dX6_blind_4 : decode cX6_blind 4 = .ok (.iload 4, 2) := by decide +kernel
theorem dX6_blind_6 : decode cX6_blind 6 = .ok (.iconst 4, 1) := by decide +kernel
theorem dX6_blind_7 : decode cX6_blind 7 = .ok (.invokevirtual 186, 3) := by decide +kernel
theorem dX6_blind_10 : decode cX6_blind 10 = .ok (.istore 5, 2) := by decide +kernel
theorem dX6_blind_12 : decode cX6_blind 12 = .ok (.iload 5, 2) := by decide +kernel
theorem dX6_blind_14 : decode cX6_blind 14 = .ok (.ifCond .eq 9, 3) := by decide +kernel
theorem dX6_blind_17 : decode cX6_blind 17 = .ok (.iload 5, 2) := by decide +kernel
theorem dX6_blind_19 : decode cX6_blind 19 = .ok (.i2l, 1) := by decide +kernel
theorem dX6_blind_20 : decode cX6_blind 20 = .ok (.goto 19, 3) := by decide +kernel
theorem dX6_blind_23 : decode cX6_blind 23 = .ok (.aload_n 0, 1) := by decide +kernel
theorem dX6_blind_24 : decode cX6_blind 24 = .ok (.getfield 50, 3) := by decide +kernel
theorem dX6_blind_27 : decode cX6_blind 27 = .ok (.iload_n 1, 1) := by decide +kernel
theorem dX6_blind_28 : decode cX6_blind 28 = .ok (.iload_n 2, 1) := by decide +kernel
theorem dX6_blind_29 : decode cX6_blind 29 = .ok (.iload_n 3, 1) := by decide +kernel
theorem dX6_blind_30 : decode cX6_blind 30 = .ok (.invokevirtual 215, 3) := by decide +kernel
theorem dX6_blind_33 : decode cX6_blind 33 = .ok (.iload_n 2, 1) := by decide +kernel
theorem dX6_blind_34 : decode cX6_blind 34 = .ok (.iload 4, 2) := by decide +kernel
theorem dX6_blind_36 : decode cX6_blind 36 = .ok (.invokestatic 207, 3) := by decide +kernel
theorem dX6_blind_39 : decode cX6_blind 39 = .ok (.lreturn, 1) := by decide +kernel
theorem dX6_worth_0 : decode cX6_worth 0 = .ok (.aload_n 0, 1) := by decide +kernel
theorem dX6_worth_1 : decode cX6_worth 1 = .ok (.iload_n 1, 1) := by decide +kernel
theorem dX6_worth_2 : decode cX6_worth 2 = .ok (.iload_n 2, 1) := by decide +kernel
theorem dX6_worth_3 : decode cX6_worth 3 = .ok (.iload_n 3, 1) := by decide +kernel
theorem dX6_worth_4 : decode cX6_worth 4 = .ok (.iload 4, 2) := by decide +kernel
theorem dX6_worth_6 : decode cX6_worth 6 = .ok (.iconst 4, 1) := by decide +kernel
theorem dX6_worth_7 : decode cX6_worth 7 = .ok (.invokevirtual 186, 3) := by decide +kernel
theorem dX6_worth_10 : decode cX6_worth 10 = .ok (.istore 5, 2) := by decide +kernel
theorem dX6_worth_12 : decode cX6_worth 12 = .ok (.iload 5, 2) := by decide +kernel
theorem dX6_worth_14 : decode cX6_worth 14 = .ok (.ifCond .eq 7, 3) := by decide +kernel
theorem dX6_worth_17 : decode cX6_worth 17 = .ok (.iload 5, 2) := by decide +kernel
theorem dX6_worth_19 : decode cX6_worth 19 = .ok (.i2l, 1) := by decide +kernel
theorem dX6_worth_20 : decode cX6_worth 20 = .ok (.lreturn, 1) := by decide +kernel
theorem dX6_worth_21 : decode cX6_worth 21 = .ok (.aload_n 0, 1) := by decide +kernel
theorem dX6_worth_22 : decode cX6_worth 22 = .ok (.getfield 50, 3) := by decide +kernel
theorem dX6_worth_25 : decode cX6_worth 25 = .ok (.iload_n 1, 1) := by decide +kernel
theorem dX6_worth_26 : decode cX6_worth 26 = .ok (.iload_n 2, 1) := by decide +kernel
theorem dX6_worth_27 : decode cX6_worth 27 = .ok (.iload_n 3, 1) := by decide +kernel
theorem dX6_worth_28 : decode cX6_worth 28 = .ok (.invokevirtual 211, 3) := by decide +kernel
theorem dX6_worth_31 : decode cX6_worth 31 = .ok (.aload_n 0, 1) := by decide +kernel
theorem dX6_worth_32 : decode cX6_worth 32 = .ok (.getfield 50, 3) := by decide +kernel
theorem dX6_worth_35 : decode cX6_worth 35 = .ok (.iload_n 1, 1) := by decide +kernel
theorem dX6_worth_36 : decode cX6_worth 36 = .ok (.iload_n 2, 1) := by decide +kernel
theorem dX6_worth_37 : decode cX6_worth 37 = .ok (.iload_n 3, 1) := by decide +kernel
theorem dX6_worth_38 : decode cX6_worth 38 = .ok (.invokevirtual 215, 3) := by decide +kernel
theorem dX6_worth_41 : decode cX6_worth 41 = .ok (.lsub, 1) := by decide +kernel
theorem dX6_worth_42 : decode cX6_worth 42 = .ok (.iload_n 2, 1) := by decide +kernel
theorem dX6_worth_43 : decode cX6_worth 43 = .ok (.iload 4, 2) := by decide +kernel
theorem dX6_worth_45 : decode cX6_worth 45 = .ok (.invokestatic 207, 3) := by decide +kernel
theorem dX6_worth_48 : decode cX6_worth 48 = .ok (.lreturn, 1) := by decide +kernel
theorem dX6_found_0 : decode cX6_found 0 = .ok (.aload_n 0, 1) := by decide +kernel
theorem dX6_found_1 : decode cX6_found 1 = .ok (.getfield 12, 3) := by decide +kernel
theorem dX6_found_4 : decode cX6_found 4 = .ok (.iload_n 1, 1) := by decide +kernel
theorem dX6_found_5 : decode cX6_found 5 = .ok (.invokevirtual 79, 3) := by decide +kernel
theorem dX6_found_8 : decode cX6_found 8 = .ok (.ifCond .eq 10, 3) := by decide +kernel
theorem dX6_found_11 : decode cX6_found 11 = .ok (.iload_n 2, 1) := by decide +kernel
theorem dX6_found_12 : decode cX6_found 12 = .ok (.invokestatic 93, 3) := by decide +kernel
theorem dX6_found_15 : decode cX6_found 15 = .ok (.ifCond .ne 6, 3) := by decide +kernel
theorem dX6_found_18 : decode cX6_found 18 = .ok (.bipush (-2), 2) := by decide +kernel
theorem dX6_found_20 : decode cX6_found 20 = .ok (.ireturn, 1) := by decide +kernel
theorem dX6_found_21 : decode cX6_found 21 = .ok (.iconst 0, 1) := by decide +kernel
theorem dX6_found_22 : decode cX6_found 22 = .ok (.istore_n 3, 1) := by decide +kernel
theorem dX6_found_23 : decode cX6_found 23 = .ok (.iconst 0, 1) := by decide +kernel
theorem dX6_found_24 : decode cX6_found 24 = .ok (.istore 4, 2) := by decide +kernel
theorem dX6_found_26 : decode cX6_found 26 = .ok (.iload 4, 2) := by decide +kernel
theorem dX6_found_28 : decode cX6_found 28 = .ok (.iconst 4, 1) := by decide +kernel
theorem dX6_found_29 : decode cX6_found 29 = .ok (.if_icmp .ge 54, 3) := by decide +kernel
theorem dX6_found_32 : decode cX6_found 32 = .ok (.aload_n 0, 1) := by decide +kernel
theorem dX6_found_33 : decode cX6_found 33 = .ok (.getfield 12, 3) := by decide +kernel
theorem dX6_found_36 : decode cX6_found 36 = .ok (.getfield 163, 3) := by decide +kernel
theorem dX6_found_39 : decode cX6_found 39 = .ok (.iload 4, 2) := by decide +kernel
theorem dX6_found_41 : decode cX6_found 41 = .ok (.baload, 1) := by decide +kernel
theorem dX6_found_42 : decode cX6_found 42 = .ok (.ifCond .eq 35, 3) := by decide +kernel
theorem dX6_found_45 : decode cX6_found 45 = .ok (.aload_n 0, 1) := by decide +kernel
theorem dX6_found_46 : decode cX6_found 46 = .ok (.getfield 43, 3) := by decide +kernel
theorem dX6_found_49 : decode cX6_found 49 = .ok (.iload 4, 2) := by decide +kernel
theorem dX6_found_51 : decode cX6_found 51 = .ok (.aload_n 0, 1) := by decide +kernel
theorem dX6_found_52 : decode cX6_found 52 = .ok (.getfield 43, 3) := by decide +kernel
theorem dX6_found_55 : decode cX6_found 55 = .ok (.iload 4, 2) := by decide +kernel
theorem dX6_found_57 : decode cX6_found 57 = .ok (.iconst 0, 1) := by decide +kernel
theorem dX6_found_58 : decode cX6_found 58 = .ok (.invokevirtual 174, 3) := by decide +kernel
theorem dX6_found_61 : decode cX6_found 61 = .ok (.iload_n 1, 1) := by decide +kernel
theorem dX6_found_62 : decode cX6_found 62 = .ok (.iload_n 2, 1) := by decide +kernel
theorem dX6_found_63 : decode cX6_found 63 = .ok (.invokevirtual 218, 3) := by decide +kernel
theorem dX6_found_66 : decode cX6_found 66 = .ok (.iconst (-1), 1) := by decide +kernel
theorem dX6_found_67 : decode cX6_found 67 = .ok (.if_icmp .eq 10, 3) := by decide +kernel
theorem dX6_found_70 : decode cX6_found 70 = .ok (.iload_n 3, 1) := by decide +kernel
theorem dX6_found_71 : decode cX6_found 71 = .ok (.iconst 1, 1) := by decide +kernel
theorem dX6_found_72 : decode cX6_found 72 = .ok (.iload 4, 2) := by decide +kernel
theorem dX6_found_74 : decode cX6_found 74 = .ok (.ishl, 1) := by decide +kernel
theorem dX6_found_75 : decode cX6_found 75 = .ok (.ior, 1) := by decide +kernel
theorem dX6_found_76 : decode cX6_found 76 = .ok (.istore_n 3, 1) := by decide +kernel
theorem dX6_found_77 : decode cX6_found 77 = .ok (.iinc 4 1, 3) := by decide +kernel
theorem dX6_found_80 : decode cX6_found 80 = .ok (.goto (-54), 3) := by decide +kernel
theorem dX6_found_83 : decode cX6_found 83 = .ok (.iload_n 3, 1) := by decide +kernel
theorem dX6_found_84 : decode cX6_found 84 = .ok (.ireturn, 1) := by decide +kernel
theorem dX6_first_0 : decode cX6_first 0 = .ok (.aload_n 0, 1) := by decide +kernel
theorem dX6_first_1 : decode cX6_first 1 = .ok (.getfield 12, 3) := by decide +kernel
theorem dX6_first_4 : decode cX6_first 4 = .ok (.iload_n 1, 1) := by decide +kernel
theorem dX6_first_5 : decode cX6_first 5 = .ok (.invokevirtual 105, 3) := by decide +kernel
theorem dX6_first_8 : decode cX6_first 8 = .ok (.ifCond .eq 21, 3) := by decide +kernel
theorem dX6_first_11 : decode cX6_first 11 = .ok (.aload_n 0, 1) := by decide +kernel
theorem dX6_first_12 : decode cX6_first 12 = .ok (.getfield 12, 3) := by decide +kernel
theorem dX6_first_15 : decode cX6_first 15 = .ok (.iload_n 2, 1) := by decide +kernel
theorem dX6_first_16 : decode cX6_first 16 = .ok (.invokevirtual 79, 3) := by decide +kernel
theorem dX6_first_19 : decode cX6_first 19 = .ok (.ifCond .eq 10, 3) := by decide +kernel
theorem dX6_first_22 : decode cX6_first 22 = .ok (.iload_n 3, 1) := by decide +kernel
theorem dX6_first_23 : decode cX6_first 23 = .ok (.invokestatic 93, 3) := by decide +kernel
theorem dX6_first_26 : decode cX6_first 26 = .ok (.ifCond .ne 6, 3) := by decide +kernel
theorem dX6_first_29 : decode cX6_first 29 = .ok (.bipush (-2), 2) := by decide +kernel
theorem dX6_first_31 : decode cX6_first 31 = .ok (.ireturn, 1) := by decide +kernel
theorem dX6_first_32 : decode cX6_first 32 = .ok (.aload_n 0, 1) := by decide +kernel
theorem dX6_first_33 : decode cX6_first 33 = .ok (.getfield 43, 3) := by decide +kernel
theorem dX6_first_36 : decode cX6_first 36 = .ok (.iload_n 1, 1) := by decide +kernel
theorem dX6_first_37 : decode cX6_first 37 = .ok (.aload_n 0, 1) := by decide +kernel
theorem dX6_first_38 : decode cX6_first 38 = .ok (.getfield 43, 3) := by decide +kernel
theorem dX6_first_41 : decode cX6_first 41 = .ok (.iload_n 1, 1) := by decide +kernel
theorem dX6_first_42 : decode cX6_first 42 = .ok (.iconst 0, 1) := by decide +kernel
theorem dX6_first_43 : decode cX6_first 43 = .ok (.invokevirtual 174, 3) := by decide +kernel
theorem dX6_first_46 : decode cX6_first 46 = .ok (.iload_n 2, 1) := by decide +kernel
theorem dX6_first_47 : decode cX6_first 47 = .ok (.iload_n 3, 1) := by decide +kernel
theorem dX6_first_48 : decode cX6_first 48 = .ok (.invokevirtual 218, 3) := by decide +kernel
theorem dX6_first_51 : decode cX6_first 51 = .ok (.ireturn, 1) := by decide +kernel
theorem dX6_books_0 : decode cX6_books 0 = .ok (.aload_n 0, 1) := by decide +kernel
theorem dX6_books_1 : decode cX6_books 1 = .ok (.getfield 12, 3) := by decide +kernel
theorem dX6_books_4 : decode cX6_books 4 = .ok (.iload_n 1, 1) := by decide +kernel
theorem dX6_books_5 : decode cX6_books 5 = .ok (.invokevirtual 105, 3) := by decide +kernel
theorem dX6_books_8 : decode cX6_books 8 = .ok (.ifCond .ne 6, 3) := by decide +kernel
theorem dX6_books_11 : decode cX6_books 11 = .ok (.bipush (-2), 2) := by decide +kernel
theorem dX6_books_13 : decode cX6_books 13 = .ok (.ireturn, 1) := by decide +kernel
theorem dX6_books_14 : decode cX6_books 14 = .ok (.iload_n 2, 1) := by decide +kernel
theorem dX6_books_15 : decode cX6_books 15 = .ok (.ifCond .lt 8, 3) := by decide +kernel
theorem dX6_books_18 : decode cX6_books 18 = .ok (.iload_n 2, 1) := by decide +kernel
theorem dX6_books_19 : decode cX6_books 19 = .ok (.iconst 1, 1) := by decide +kernel
theorem dX6_books_20 : decode cX6_books 20 = .ok (.if_icmp .le 6, 3) := by decide +kernel
theorem dX6_books_23 : decode cX6_books 23 = .ok (.bipush (-3), 2) := by decide +kernel
theorem dX6_books_25 : decode cX6_books 25 = .ok (.ireturn, 1) := by decide +kernel
theorem dX6_books_26 : decode cX6_books 26 = .ok (.aload_n 0, 1) := by decide +kernel
theorem dX6_books_27 : decode cX6_books 27 = .ok (.getfield 12, 3) := by decide +kernel
theorem dX6_books_30 : decode cX6_books 30 = .ok (.getfield 221, 3) := by decide +kernel
theorem dX6_books_33 : decode cX6_books 33 = .ok (.ifCond .ne 6, 3) := by decide +kernel
theorem dX6_books_36 : decode cX6_books 36 = .ok (.bipush (-4), 2) := by decide +kernel
theorem dX6_books_38 : decode cX6_books 38 = .ok (.ireturn, 1) := by decide +kernel
theorem dX6_books_39 : decode cX6_books 39 = .ok (.aload_n 0, 1) := by decide +kernel
theorem dX6_books_40 : decode cX6_books 40 = .ok (.iload_n 1, 1) := by decide +kernel
theorem dX6_books_41 : decode cX6_books 41 = .ok (.invokevirtual 224, 3) := by decide +kernel
theorem dX6_books_44 : decode cX6_books 44 = .ok (.istore_n 3, 1) := by decide +kernel
theorem dX6_books_45 : decode cX6_books 45 = .ok (.iload_n 2, 1) := by decide +kernel
theorem dX6_books_46 : decode cX6_books 46 = .ok (.ifCond .ne 7, 3) := by decide +kernel
theorem dX6_books_49 : decode cX6_books 49 = .ok (.iload_n 3, 1) := by decide +kernel
theorem dX6_books_50 : decode cX6_books 50 = .ok (.goto 14, 3) := by decide +kernel
theorem dX6_books_53 : decode cX6_books 53 = .ok (.iload_n 3, 1) := by decide +kernel
theorem dX6_books_54 : decode cX6_books 54 = .ok (.aload_n 0, 1) := by decide +kernel
theorem dX6_books_55 : decode cX6_books 55 = .ok (.getfield 12, 3) := by decide +kernel
theorem dX6_books_58 : decode cX6_books 58 = .ok (.getfield 118, 3) := by decide +kernel
theorem dX6_books_61 : decode cX6_books 61 = .ok (.iload_n 1, 1) := by decide +kernel
theorem dX6_books_62 : decode cX6_books 62 = .ok (.iaload, 1) := by decide +kernel
theorem dX6_books_63 : decode cX6_books 63 = .ok (.imul, 1) := by decide +kernel
theorem dX6_books_64 : decode cX6_books 64 = .ok (.ireturn, 1) := by decide +kernel
theorem dX6_count_0 : decode cX6_count 0 = .ok (.iload_n 1, 1) := by decide +kernel
theorem dX6_count_1 : decode cX6_count 1 = .ok (.tableswitch 87 0 5 #[39, 47, 55, 63, 71, 79], 39) := by decide +kernel
theorem dX6_count_40 : decode cX6_count 40 = .ok (.aload_n 0, 1) := by decide +kernel
theorem dX6_count_41 : decode cX6_count 41 = .ok (.getfield 12, 3) := by decide +kernel
theorem dX6_count_44 : decode cX6_count 44 = .ok (.getfield 221, 3) := by decide +kernel
theorem dX6_count_47 : decode cX6_count 47 = .ok (.ireturn, 1) := by decide +kernel
theorem dX6_count_48 : decode cX6_count 48 = .ok (.aload_n 0, 1) := by decide +kernel
theorem dX6_count_49 : decode cX6_count 49 = .ok (.getfield 12, 3) := by decide +kernel
theorem dX6_count_52 : decode cX6_count 52 = .ok (.invokevirtual 227, 3) := by decide +kernel
theorem dX6_count_55 : decode cX6_count 55 = .ok (.ireturn, 1) := by decide +kernel
theorem dX6_count_56 : decode cX6_count 56 = .ok (.aload_n 0, 1) := by decide +kernel
theorem dX6_count_57 : decode cX6_count 57 = .ok (.getfield 12, 3) := by decide +kernel
theorem dX6_count_60 : decode cX6_count 60 = .ok (.getfield 230, 3) := by decide +kernel
theorem dX6_count_63 : decode cX6_count 63 = .ok (.ireturn, 1) := by decide +kernel
theorem dX6_count_64 : decode cX6_count 64 = .ok (.aload_n 0, 1) := by decide +kernel
theorem dX6_count_65 : decode cX6_count 65 = .ok (.getfield 26, 3) := by decide +kernel
theorem dX6_count_68 : decode cX6_count 68 = .ok (.getfield 140, 3) := by decide +kernel
theorem dX6_count_71 : decode cX6_count 71 = .ok (.ireturn, 1) := by decide +kernel
theorem dX6_count_72 : decode cX6_count 72 = .ok (.aload_n 0, 1) := by decide +kernel
theorem dX6_count_73 : decode cX6_count 73 = .ok (.getfield 19, 3) := by decide +kernel
theorem dX6_count_76 : decode cX6_count 76 = .ok (.getfield 58, 3) := by decide +kernel
theorem dX6_count_79 : decode cX6_count 79 = .ok (.ireturn, 1) := by decide +kernel
theorem dX6_count_80 : decode cX6_count 80 = .ok (.aload_n 0, 1) := by decide +kernel
theorem dX6_count_81 : decode cX6_count 81 = .ok (.getfield 12, 3) := by decide +kernel
theorem dX6_count_84 : decode cX6_count 84 = .ok (.invokevirtual 233, 3) := by decide +kernel
theorem dX6_count_87 : decode cX6_count 87 = .ok (.ireturn, 1) := by decide +kernel
theorem dX6_count_88 : decode cX6_count 88 = .ok (.bipush (-3), 2) := by decide +kernel
theorem dX6_count_90 : decode cX6_count 90 = .ok (.ireturn, 1) := by decide +kernel
theorem dX6_isLayer_0 : decode cX6_isLayer 0 = .ok (.iload_n 0, 1) := by decide +kernel
theorem dX6_isLayer_1 : decode cX6_isLayer 1 = .ok (.ifCond .lt 13, 3) := by decide +kernel
theorem dX6_isLayer_4 : decode cX6_isLayer 4 = .ok (.iload_n 0, 1) := by decide +kernel
theorem dX6_isLayer_5 : decode cX6_isLayer 5 = .ok (.bipush 6, 2) := by decide +kernel
theorem dX6_isLayer_7 : decode cX6_isLayer 7 = .ok (.if_icmp .ge 7, 3) := by decide +kernel
theorem dX6_isLayer_10 : decode cX6_isLayer 10 = .ok (.iconst 1, 1) := by decide +kernel
theorem dX6_isLayer_11 : decode cX6_isLayer 11 = .ok (.goto 4, 3) := by decide +kernel
theorem dX6_isLayer_14 : decode cX6_isLayer 14 = .ok (.iconst 0, 1) := by decide +kernel
theorem dX6_isLayer_15 : decode cX6_isLayer 15 = .ok (.ireturn, 1) := by decide +kernel
theorem dX6_isHour_0 : decode cX6_isHour 0 = .ok (.iload_n 0, 1) := by decide +kernel
theorem dX6_isHour_1 : decode cX6_isHour 1 = .ok (.ifCond .lt 13, 3) := by decide +kernel
theorem dX6_isHour_4 : decode cX6_isHour 4 = .ok (.iload_n 0, 1) := by decide +kernel
theorem dX6_isHour_5 : decode cX6_isHour 5 = .ok (.bipush 24, 2) := by decide +kernel
theorem dX6_isHour_7 : decode cX6_isHour 7 = .ok (.if_icmp .ge 7, 3) := by decide +kernel
theorem dX6_isHour_10 : decode cX6_isHour 10 = .ok (.iconst 1, 1) := by decide +kernel
theorem dX6_isHour_11 : decode cX6_isHour 11 = .ok (.goto 4, 3) := by decide +kernel
theorem dX6_isHour_14 : decode cX6_isHour 14 = .ok (.iconst 0, 1) := by decide +kernel
theorem dX6_isHour_15 : decode cX6_isHour 15 = .ok (.ireturn, 1) := by decide +kernel
theorem dX6_isKnot_0 : decode cX6_isKnot 0 = .ok (.iload_n 0, 1) := by decide +kernel
theorem dX6_isKnot_1 : decode cX6_isKnot 1 = .ok (.sipush 160, 3) := by decide +kernel
theorem dX6_isKnot_4 : decode cX6_isKnot 4 = .ok (.if_icmp .eq 40, 3) := by decide +kernel
theorem dX6_isKnot_7 : decode cX6_isKnot 7 = .ok (.iload_n 2, 1) := by decide +kernel
theorem dX6_isKnot_8 : decode cX6_isKnot 8 = .ok (.sipush 160, 3) := by decide +kernel
theorem dX6_isKnot_11 : decode cX6_isKnot 11 = .ok (.if_icmp .eq 33, 3) := by decide +kernel
theorem dX6_isKnot_14 : decode cX6_isKnot 14 = .ok (.iload_n 1, 1) := by decide +kernel
theorem dX6_isKnot_15 : decode cX6_isKnot 15 = .ok (.iload_n 3, 1) := by decide +kernel
theorem dX6_isKnot_16 : decode cX6_isKnot 16 = .ok (.if_icmp .ne 28, 3) := by decide +kernel
theorem dX6_isKnot_19 : decode cX6_isKnot 19 = .ok (.iload_n 0, 1) := by decide +kernel
theorem dX6_isKnot_20 : decode cX6_isKnot 20 = .ok (.bipush 20, 2) := by decide +kernel
theorem dX6_isKnot_22 : decode cX6_isKnot 22 = .ok (.idiv, 1) := by decide +kernel
theorem dX6_isKnot_23 : decode cX6_isKnot 23 = .ok (.iload_n 2, 1) := by decide +kernel
theorem dX6_isKnot_24 : decode cX6_isKnot 24 = .ok (.bipush 20, 2) := by decide +kernel
theorem dX6_isKnot_26 : decode cX6_isKnot 26 = .ok (.idiv, 1) := by decide +kernel
theorem dX6_isKnot_27 : decode cX6_isKnot 27 = .ok (.if_icmp .ne 17, 3) := by decide +kernel
theorem dX6_isKnot_30 : decode cX6_isKnot 30 = .ok (.iload_n 0, 1) := by decide +kernel
theorem dX6_isKnot_31 : decode cX6_isKnot 31 = .ok (.iload_n 2, 1) := by decide +kernel
theorem dX6_isKnot_32 : decode cX6_isKnot 32 = .ok (.isub, 1) := by decide +kernel
theorem dX6_isKnot_33 : decode cX6_isKnot 33 = .ok (.invokestatic 132, 3) := by decide +kernel
theorem dX6_isKnot_36 : decode cX6_isKnot 36 = .ok (.iconst 2, 1) := by decide +kernel
theorem dX6_isKnot_37 : decode cX6_isKnot 37 = .ok (.if_icmp .ge 7, 3) := by decide +kernel
theorem dX6_isKnot_40 : decode cX6_isKnot 40 = .ok (.iconst 1, 1) := by decide +kernel
theorem dX6_isKnot_41 : decode cX6_isKnot 41 = .ok (.goto 4, 3) := by decide +kernel
theorem dX6_isKnot_44 : decode cX6_isKnot 44 = .ok (.iconst 0, 1) := by decide +kernel
theorem dX6_isKnot_45 : decode cX6_isKnot 45 = .ok (.ireturn, 1) := by decide +kernel
theorem dX6_oddsRefused_0 : decode cX6_oddsRefused 0 = .ok (.aload_n 0, 1) := by decide +kernel
theorem dX6_oddsRefused_1 : decode cX6_oddsRefused 1 = .ok (.getfield 12, 3) := by decide +kernel
theorem dX6_oddsRefused_4 : decode cX6_oddsRefused 4 = .ok (.iload_n 1, 1) := by decide +kernel
theorem dX6_oddsRefused_5 : decode cX6_oddsRefused 5 = .ok (.invokevirtual 105, 3) := by decide +kernel
theorem dX6_oddsRefused_8 : decode cX6_oddsRefused 8 = .ok (.ifCond .ne 6, 3) := by decide +kernel
theorem dX6_oddsRefused_11 : decode cX6_oddsRefused 11 = .ok (.bipush (-2), 2) := by decide +kernel
theorem dX6_oddsRefused_13 : decode cX6_oddsRefused 13 = .ok (.ireturn, 1) := by decide +kernel
theorem dX6_oddsRefused_14 : decode cX6_oddsRefused 14 = .ok (.iload_n 2, 1) := by decide +kernel
theorem dX6_oddsRefused_15 : decode cX6_oddsRefused 15 = .ok (.ifCond .lt 34, 3) := by decide +kernel
theorem dX6_oddsRefused_18 : decode cX6_oddsRefused 18 = .ok (.iload_n 2, 1) := by decide +kernel
theorem dX6_oddsRefused_19 : decode cX6_oddsRefused 19 = .ok (.iload 5, 2) := by decide +kernel
theorem dX6_oddsRefused_21 : decode cX6_oddsRefused 21 = .ok (.if_icmp .gt 28, 3) := by decide +kernel
theorem dX6_oddsRefused_24 : decode cX6_oddsRefused 24 = .ok (.iload_n 3, 1) := by decide +kernel
theorem dX6_oddsRefused_25 : decode cX6_oddsRefused 25 = .ok (.ifCond .lt 24, 3) := by decide +kernel
theorem dX6_oddsRefused_28 : decode cX6_oddsRefused 28 = .ok (.iload_n 3, 1) := by decide +kernel
theorem dX6_oddsRefused_29 : decode cX6_oddsRefused 29 = .ok (.bipush 10, 2) := by decide +kernel
theorem dX6_oddsRefused_31 : decode cX6_oddsRefused 31 = .ok (.if_icmp .gt 18, 3) := by decide +kernel
theorem dX6_oddsRefused_34 : decode cX6_oddsRefused 34 = .ok (.iload 4, 2) := by decide +kernel
theorem dX6_oddsRefused_36 : decode cX6_oddsRefused 36 = .ok (.ifCond .eq 9, 3) := by decide +kernel
theorem dX6_oddsRefused_39 : decode cX6_oddsRefused 39 = .ok (.iload 4, 2) := by decide +kernel
theorem dX6_oddsRefused_41 : decode cX6_oddsRefused 41 = .ok (.iconst 1, 1) := by decide +kernel
theorem dX6_oddsRefused_42 : decode cX6_oddsRefused 42 = .ok (.if_icmp .ne 7, 3) := by decide +kernel
theorem dX6_oddsRefused_45 : decode cX6_oddsRefused 45 = .ok (.iconst 1, 1) := by decide +kernel
theorem dX6_oddsRefused_46 : decode cX6_oddsRefused 46 = .ok (.goto 4, 3) := by decide +kernel
theorem dX6_oddsRefused_49 : decode cX6_oddsRefused 49 = .ok (.iconst 0, 1) := by decide +kernel
theorem dX6_oddsRefused_50 : decode cX6_oddsRefused 50 = .ok (.istore 6, 2) := by decide +kernel
theorem dX6_oddsRefused_52 : decode cX6_oddsRefused 52 = .ok (.iload 6, 2) := by decide +kernel
theorem dX6_oddsRefused_54 : decode cX6_oddsRefused 54 = .ok (.ifCond .eq 7, 3) := by decide +kernel
theorem dX6_oddsRefused_57 : decode cX6_oddsRefused 57 = .ok (.iconst 0, 1) := by decide +kernel
theorem dX6_oddsRefused_58 : decode cX6_oddsRefused 58 = .ok (.goto 5, 3) := by decide +kernel
theorem dX6_oddsRefused_61 : decode cX6_oddsRefused 61 = .ok (.bipush (-3), 2) := by decide +kernel
theorem dX6_oddsRefused_63 : decode cX6_oddsRefused 63 = .ok (.ireturn, 1) := by decide +kernel
theorem dX6_lowestTerms_0 : decode cX6_lowestTerms 0 = .ok (.lload_n 0, 1) := by decide +kernel
theorem dX6_lowestTerms_1 : decode cX6_lowestTerms 1 = .ok (.lstore 4, 2) := by decide +kernel
theorem dX6_lowestTerms_3 : decode cX6_lowestTerms 3 = .ok (.lconst 1, 1) := by decide +kernel
theorem dX6_lowestTerms_4 : decode cX6_lowestTerms 4 = .ok (.lstore 6, 2) := by decide +kernel
theorem dX6_lowestTerms_6 : decode cX6_lowestTerms 6 = .ok (.iconst 0, 1) := by decide +kernel
theorem dX6_lowestTerms_7 : decode cX6_lowestTerms 7 = .ok (.istore 8, 2) := by decide +kernel
theorem dX6_lowestTerms_9 : decode cX6_lowestTerms 9 = .ok (.iload 8, 2) := by decide +kernel
theorem dX6_lowestTerms_11 : decode cX6_lowestTerms 11 = .ok (.iload_n 2, 1) := by decide +kernel
theorem dX6_lowestTerms_12 : decode cX6_lowestTerms 12 = .ok (.if_icmp .ge 17, 3) := by decide +kernel
theorem dX6_lowestTerms_15 : decode cX6_lowestTerms 15 = .ok (.lload 6, 2) := by decide +kernel
theorem dX6_lowestTerms_17 : decode cX6_lowestTerms 17 = .ok (.ldc2_w 236, 3) := by decide +kernel
theorem dX6_lowestTerms_20 : decode cX6_lowestTerms 20 = .ok (.lmul, 1) := by decide +kernel
theorem dX6_lowestTerms_21 : decode cX6_lowestTerms 21 = .ok (.lstore 6, 2) := by decide +kernel
theorem dX6_lowestTerms_23 : decode cX6_lowestTerms 23 = .ok (.iinc 8 1, 3) := by decide +kernel
theorem dX6_lowestTerms_26 : decode cX6_lowestTerms 26 = .ok (.goto (-17), 3) := by decide +kernel
theorem dX6_lowestTerms_29 : decode cX6_lowestTerms 29 = .ok (.iconst 0, 1) := by decide +kernel
theorem dX6_lowestTerms_30 : decode cX6_lowestTerms 30 = .ok (.istore 8, 2) := by decide +kernel
theorem dX6_lowestTerms_32 : decode cX6_lowestTerms 32 = .ok (.iload 8, 2) := by decide +kernel
theorem dX6_lowestTerms_34 : decode cX6_lowestTerms 34 = .ok (.iload_n 2, 1) := by decide +kernel
theorem dX6_lowestTerms_35 : decode cX6_lowestTerms 35 = .ok (.if_icmp .ge 63, 3) := by decide +kernel
theorem dX6_lowestTerms_38 : decode cX6_lowestTerms 38 = .ok (.lload 4, 2) := by decide +kernel
theorem dX6_lowestTerms_40 : decode cX6_lowestTerms 40 = .ok (.ldc2_w 238, 3) := by decide +kernel
theorem dX6_lowestTerms_43 : decode cX6_lowestTerms 43 = .ok (.lrem, 1) := by decide +kernel
theorem dX6_lowestTerms_44 : decode cX6_lowestTerms 44 = .ok (.lconst 0, 1) := by decide +kernel
theorem dX6_lowestTerms_45 : decode cX6_lowestTerms 45 = .ok (.lcmp, 1) := by decide +kernel
theorem dX6_lowestTerms_46 : decode cX6_lowestTerms 46 = .ok (.ifCond .ne 19, 3) := by decide +kernel
theorem dX6_lowestTerms_49 : decode cX6_lowestTerms 49 = .ok (.lload 4, 2) := by decide +kernel
theorem dX6_lowestTerms_51 : decode cX6_lowestTerms 51 = .ok (.ldc2_w 238, 3) := by decide +kernel
theorem dX6_lowestTerms_54 : decode cX6_lowestTerms 54 = .ok (.ldiv, 1) := by decide +kernel
theorem dX6_lowestTerms_55 : decode cX6_lowestTerms 55 = .ok (.lstore 4, 2) := by decide +kernel
theorem dX6_lowestTerms_57 : decode cX6_lowestTerms 57 = .ok (.lload 6, 2) := by decide +kernel
theorem dX6_lowestTerms_59 : decode cX6_lowestTerms 59 = .ok (.ldc2_w 238, 3) := by decide +kernel
theorem dX6_lowestTerms_62 : decode cX6_lowestTerms 62 = .ok (.ldiv, 1) := by decide +kernel
theorem dX6_lowestTerms_63 : decode cX6_lowestTerms 63 = .ok (.lstore 6, 2) := by decide +kernel
theorem dX6_lowestTerms_65 : decode cX6_lowestTerms 65 = .ok (.lload 4, 2) := by decide +kernel
theorem dX6_lowestTerms_67 : decode cX6_lowestTerms 67 = .ok (.ldc2_w 240, 3) := by decide +kernel
theorem dX6_lowestTerms_70 : decode cX6_lowestTerms 70 = .ok (.lrem, 1) := by decide +kernel
theorem dX6_lowestTerms_71 : decode cX6_lowestTerms 71 = .ok (.lconst 0, 1) := by decide +kernel
theorem dX6_lowestTerms_72 : decode cX6_lowestTerms 72 = .ok (.lcmp, 1) := by decide +kernel
theorem dX6_lowestTerms_73 : decode cX6_lowestTerms 73 = .ok (.ifCond .ne 19, 3) := by decide +kernel
theorem dX6_lowestTerms_76 : decode cX6_lowestTerms 76 = .ok (.lload 4, 2) := by decide +kernel
theorem dX6_lowestTerms_78 : decode cX6_lowestTerms 78 = .ok (.ldc2_w 240, 3) := by decide +kernel
theorem dX6_lowestTerms_81 : decode cX6_lowestTerms 81 = .ok (.ldiv, 1) := by decide +kernel
theorem dX6_lowestTerms_82 : decode cX6_lowestTerms 82 = .ok (.lstore 4, 2) := by decide +kernel
theorem dX6_lowestTerms_84 : decode cX6_lowestTerms 84 = .ok (.lload 6, 2) := by decide +kernel
theorem dX6_lowestTerms_86 : decode cX6_lowestTerms 86 = .ok (.ldc2_w 240, 3) := by decide +kernel
theorem dX6_lowestTerms_89 : decode cX6_lowestTerms 89 = .ok (.ldiv, 1) := by decide +kernel
theorem dX6_lowestTerms_90 : decode cX6_lowestTerms 90 = .ok (.lstore 6, 2) := by decide +kernel
theorem dX6_lowestTerms_92 : decode cX6_lowestTerms 92 = .ok (.iinc 8 1, 3) := by decide +kernel
theorem dX6_lowestTerms_95 : decode cX6_lowestTerms 95 = .ok (.goto (-63), 3) := by decide +kernel
theorem dX6_lowestTerms_98 : decode cX6_lowestTerms 98 = .ok (.iload_n 3, 1) := by decide +kernel
theorem dX6_lowestTerms_99 : decode cX6_lowestTerms 99 = .ok (.ifCond .ne 8, 3) := by decide +kernel
theorem dX6_lowestTerms_102 : decode cX6_lowestTerms 102 = .ok (.lload 4, 2) := by decide +kernel
theorem dX6_lowestTerms_104 : decode cX6_lowestTerms 104 = .ok (.goto 5, 3) := by decide +kernel
theorem dX6_lowestTerms_107 : decode cX6_lowestTerms 107 = .ok (.lload 6, 2) := by decide +kernel
theorem dX6_lowestTerms_109 : decode cX6_lowestTerms 109 = .ok (.lreturn, 1) := by decide +kernel
theorem dX6_passages_0 : decode cX6_passages 0 = .ok (.iconst 0, 1) := by decide +kernel
theorem dX6_passages_1 : decode cX6_passages 1 = .ok (.istore_n 2, 1) := by decide +kernel
theorem dX6_passages_2 : decode cX6_passages 2 = .ok (.iconst 0, 1) := by decide +kernel
theorem dX6_passages_3 : decode cX6_passages 3 = .ok (.istore_n 3, 1) := by decide +kernel
theorem dX6_passages_4 : decode cX6_passages 4 = .ok (.iconst 0, 1) := by decide +kernel
theorem dX6_passages_5 : decode cX6_passages 5 = .ok (.istore 4, 2) := by decide +kernel
theorem dX6_passages_7 : decode cX6_passages 7 = .ok (.iload 4, 2) := by decide +kernel
theorem dX6_passages_9 : decode cX6_passages 9 = .ok (.bipush 24, 2) := by decide +kernel
theorem dX6_passages_11 : decode cX6_passages 11 = .ok (.if_icmp .ge 51, 3) := by decide +kernel
theorem dX6_passages_14 : decode cX6_passages 14 = .ok (.iload_n 3, 1) := by decide +kernel
theorem dX6_passages_15 : decode cX6_passages 15 = .ok (.bipush 24, 2) := by decide +kernel
theorem dX6_passages_17 : decode cX6_passages 17 = .ok (.if_icmp .ge 45, 3) := by decide +kernel
theorem dX6_passages_20 : decode cX6_passages 20 = .ok (.aload_n 0, 1) := by decide +kernel
theorem dX6_passages_21 : decode cX6_passages 21 = .ok (.getfield 43, 3) := by decide +kernel
theorem dX6_passages_24 : decode cX6_passages 24 = .ok (.getfield 180, 3) := by decide +kernel
theorem dX6_passages_27 : decode cX6_passages 27 = .ok (.aload_n 0, 1) := by decide +kernel
theorem dX6_passages_28 : decode cX6_passages 28 = .ok (.getfield 43, 3) := by decide +kernel
theorem dX6_passages_31 : decode cX6_passages 31 = .ok (.iload_n 1, 1) := by decide +kernel
theorem dX6_passages_32 : decode cX6_passages 32 = .ok (.iload_n 3, 1) := by decide +kernel
theorem dX6_passages_33 : decode cX6_passages 33 = .ok (.invokevirtual 174, 3) := by decide +kernel
theorem dX6_passages_36 : decode cX6_passages 36 = .ok (.iaload, 1) := by decide +kernel
theorem dX6_passages_37 : decode cX6_passages 37 = .ok (.istore 5, 2) := by decide +kernel
theorem dX6_passages_39 : decode cX6_passages 39 = .ok (.iload 5, 2) := by decide +kernel
theorem dX6_passages_41 : decode cX6_passages 41 = .ok (.iconst (-1), 1) := by decide +kernel
theorem dX6_passages_42 : decode cX6_passages 42 = .ok (.if_icmp .ne 6, 3) := by decide +kernel
theorem dX6_passages_45 : decode cX6_passages 45 = .ok (.goto 17, 3) := by decide +kernel
theorem dX6_passages_48 : decode cX6_passages 48 = .ok (.iinc 2 1, 3) := by decide +kernel
theorem dX6_passages_51 : decode cX6_passages 51 = .ok (.iload_n 3, 1) := by decide +kernel
theorem dX6_passages_52 : decode cX6_passages 52 = .ok (.iload 5, 2) := by decide +kernel
theorem dX6_passages_54 : decode cX6_passages 54 = .ok (.iadd, 1) := by decide +kernel
theorem dX6_passages_55 : decode cX6_passages 55 = .ok (.istore_n 3, 1) := by decide +kernel
theorem dX6_passages_56 : decode cX6_passages 56 = .ok (.iinc 4 1, 3) := by decide +kernel
theorem dX6_passages_59 : decode cX6_passages 59 = .ok (.goto (-52), 3) := by decide +kernel
theorem dX6_passages_62 : decode cX6_passages 62 = .ok (.iload_n 2, 1) := by decide +kernel
theorem dX6_passages_63 : decode cX6_passages 63 = .ok (.ireturn, 1) := by decide +kernel
theorem dJ9_abs_0f7a4_0 : decode cJ9_abs_0f7a4 0 = .ok (.iload_n 0, 1) := by decide +kernel
theorem dJ9_abs_0f7a4_1 : decode cJ9_abs_0f7a4 1 = .ok (.ifCond .ge 8, 3) := by decide +kernel
theorem dJ9_abs_0f7a4_4 : decode cJ9_abs_0f7a4 4 = .ok (.iload_n 0, 1) := by decide +kernel
theorem dJ9_abs_0f7a4_5 : decode cJ9_abs_0f7a4 5 = .ok (.ineg, 1) := by decide +kernel
theorem dJ9_abs_0f7a4_6 : decode cJ9_abs_0f7a4 6 = .ok (.goto 4, 3) := by decide +kernel
theorem dJ9_abs_0f7a4_9 : decode cJ9_abs_0f7a4 9 = .ok (.iload_n 0, 1) := by decide +kernel
theorem dJ9_abs_0f7a4_10 : decode cJ9_abs_0f7a4 10 = .ok (.ireturn, 1) := by decide +kernel
theorem dJ9_max_7cf53_0 : decode cJ9_max_7cf53 0 = .ok (.iload_n 0, 1) := by decide +kernel
theorem dJ9_max_7cf53_1 : decode cJ9_max_7cf53 1 = .ok (.iload_n 1, 1) := by decide +kernel
theorem dJ9_max_7cf53_2 : decode cJ9_max_7cf53 2 = .ok (.if_icmp .lt 7, 3) := by decide +kernel
theorem dJ9_max_7cf53_5 : decode cJ9_max_7cf53 5 = .ok (.iload_n 0, 1) := by decide +kernel
theorem dJ9_max_7cf53_6 : decode cJ9_max_7cf53 6 = .ok (.goto 4, 3) := by decide +kernel
theorem dJ9_max_7cf53_9 : decode cJ9_max_7cf53 9 = .ok (.iload_n 1, 1) := by decide +kernel
theorem dJ9_max_7cf53_10 : decode cJ9_max_7cf53 10 = .ok (.ireturn, 1) := by decide +kernel
theorem dJ9_max_f86c9_0 : decode cJ9_max_f86c9 0 = .ok (.lload_n 0, 1) := by decide +kernel
theorem dJ9_max_f86c9_1 : decode cJ9_max_f86c9 1 = .ok (.lload_n 2, 1) := by decide +kernel
theorem dJ9_max_f86c9_2 : decode cJ9_max_f86c9 2 = .ok (.lcmp, 1) := by decide +kernel
theorem dJ9_max_f86c9_3 : decode cJ9_max_f86c9 3 = .ok (.ifCond .lt 7, 3) := by decide +kernel
theorem dJ9_max_f86c9_6 : decode cJ9_max_f86c9 6 = .ok (.lload_n 0, 1) := by decide +kernel
theorem dJ9_max_f86c9_7 : decode cJ9_max_f86c9 7 = .ok (.goto 4, 3) := by decide +kernel
theorem dJ9_max_f86c9_10 : decode cJ9_max_f86c9 10 = .ok (.lload_n 2, 1) := by decide +kernel
theorem dJ9_max_f86c9_11 : decode cJ9_max_f86c9 11 = .ok (.lreturn, 1) := by decide +kernel
theorem dJ9_min_7cf53_0 : decode cJ9_min_7cf53 0 = .ok (.iload_n 0, 1) := by decide +kernel
theorem dJ9_min_7cf53_1 : decode cJ9_min_7cf53 1 = .ok (.iload_n 1, 1) := by decide +kernel
theorem dJ9_min_7cf53_2 : decode cJ9_min_7cf53 2 = .ok (.if_icmp .gt 7, 3) := by decide +kernel
theorem dJ9_min_7cf53_5 : decode cJ9_min_7cf53 5 = .ok (.iload_n 0, 1) := by decide +kernel
theorem dJ9_min_7cf53_6 : decode cJ9_min_7cf53 6 = .ok (.goto 4, 3) := by decide +kernel
theorem dJ9_min_7cf53_9 : decode cJ9_min_7cf53 9 = .ok (.iload_n 1, 1) := by decide +kernel
theorem dJ9_min_7cf53_10 : decode cJ9_min_7cf53 10 = .ok (.ireturn, 1) := by decide +kernel
theorem dJ0_length_8abf5_0 : decode cJ0_length_8abf5 0 = .ok (.aload_n 0, 1) := by decide +kernel
theorem dJ0_length_8abf5_1 : decode cJ0_length_8abf5 1 = .ok (.getfield 9, 3) := by decide +kernel
theorem dJ0_length_8abf5_4 : decode cJ0_length_8abf5 4 = .ok (.arraylength, 1) := by decide +kernel
theorem dJ0_length_8abf5_5 : decode cJ0_length_8abf5 5 = .ok (.aload_n 0, 1) := by decide +kernel
theorem dJ0_length_8abf5_6 : decode cJ0_length_8abf5 6 = .ok (.invokevirtual 335, 3) := by decide +kernel
theorem dJ0_length_8abf5_9 : decode cJ0_length_8abf5 9 = .ok (.ishr, 1) := by decide +kernel
theorem dJ0_length_8abf5_10 : decode cJ0_length_8abf5 10 = .ok (.ireturn, 1) := by decide +kernel
theorem dJ0_charAt_5068e_0 : decode cJ0_charAt_5068e 0 = .ok (.aload_n 0, 1) := by decide +kernel
theorem dJ0_charAt_5068e_1 : decode cJ0_charAt_5068e 1 = .ok (.invokevirtual 492, 3) := by decide +kernel
theorem dJ0_charAt_5068e_4 : decode cJ0_charAt_5068e 4 = .ok (.ifCond .eq 12, 3) := by decide +kernel
theorem dJ0_charAt_5068e_7 : decode cJ0_charAt_5068e 7 = .ok (.aload_n 0, 1) := by decide +kernel
theorem dJ0_charAt_5068e_8 : decode cJ0_charAt_5068e 8 = .ok (.getfield 9, 3) := by decide +kernel
theorem dJ0_charAt_5068e_11 : decode cJ0_charAt_5068e 11 = .ok (.iload_n 1, 1) := by decide +kernel
theorem dJ0_charAt_5068e_12 : decode cJ0_charAt_5068e 12 = .ok (.invokestatic 495, 3) := by decide +kernel
theorem dJ0_charAt_5068e_15 : decode cJ0_charAt_5068e 15 = .ok (.ireturn, 1) := by decide +kernel
theorem dJ0_charAt_5068e_16 : decode cJ0_charAt_5068e 16 = .ok (.aload_n 0, 1) := by decide +kernel
theorem dJ0_charAt_5068e_17 : decode cJ0_charAt_5068e 17 = .ok (.getfield 9, 3) := by decide +kernel
theorem dJ0_charAt_5068e_20 : decode cJ0_charAt_5068e 20 = .ok (.iload_n 1, 1) := by decide +kernel
theorem dJ0_charAt_5068e_21 : decode cJ0_charAt_5068e 21 = .ok (.invokestatic 498, 3) := by decide +kernel
theorem dJ0_charAt_5068e_24 : decode cJ0_charAt_5068e 24 = .ok (.ireturn, 1) := by decide +kernel
theorem dJ0_coder_7d493_0 : decode cJ0_coder_7d493 0 = .ok (.getstatic 38, 3) := by decide +kernel
theorem dJ0_coder_7d493_3 : decode cJ0_coder_7d493 3 = .ok (.ifCond .eq 10, 3) := by decide +kernel
theorem dJ0_coder_7d493_6 : decode cJ0_coder_7d493 6 = .ok (.aload_n 0, 1) := by decide +kernel
theorem dJ0_coder_7d493_7 : decode cJ0_coder_7d493 7 = .ok (.getfield 15, 3) := by decide +kernel
theorem dJ0_coder_7d493_10 : decode cJ0_coder_7d493 10 = .ok (.goto 4, 3) := by decide +kernel
theorem dJ0_coder_7d493_13 : decode cJ0_coder_7d493 13 = .ok (.iconst 1, 1) := by decide +kernel
theorem dJ0_coder_7d493_14 : decode cJ0_coder_7d493 14 = .ok (.ireturn, 1) := by decide +kernel
theorem dJ0_isLatin1_aae02_0 : decode cJ0_isLatin1_aae02 0 = .ok (.getstatic 38, 3) := by decide +kernel
theorem dJ0_isLatin1_aae02_3 : decode cJ0_isLatin1_aae02 3 = .ok (.ifCond .eq 14, 3) := by decide +kernel
theorem dJ0_isLatin1_aae02_6 : decode cJ0_isLatin1_aae02 6 = .ok (.aload_n 0, 1) := by decide +kernel
theorem dJ0_isLatin1_aae02_7 : decode cJ0_isLatin1_aae02 7 = .ok (.getfield 15, 3) := by decide +kernel
theorem dJ0_isLatin1_aae02_10 : decode cJ0_isLatin1_aae02 10 = .ok (.ifCond .ne 7, 3) := by decide +kernel
theorem dJ0_isLatin1_aae02_13 : decode cJ0_isLatin1_aae02 13 = .ok (.iconst 1, 1) := by decide +kernel
theorem dJ0_isLatin1_aae02_14 : decode cJ0_isLatin1_aae02 14 = .ok (.goto 4, 3) := by decide +kernel
theorem dJ0_isLatin1_aae02_17 : decode cJ0_isLatin1_aae02 17 = .ok (.iconst 0, 1) := by decide +kernel
theorem dJ0_isLatin1_aae02_18 : decode cJ0_isLatin1_aae02 18 = .ok (.ireturn, 1) := by decide +kernel
theorem dJ0_checkIndex_df160_0 : decode cJ0_checkIndex_df160 0 = .ok (.iload_n 0, 1) := by decide +kernel
theorem dJ0_checkIndex_df160_1 : decode cJ0_checkIndex_df160 1 = .ok (.iload_n 1, 1) := by decide +kernel
theorem dJ0_checkIndex_df160_2 : decode cJ0_checkIndex_df160 2 = .ok (.getstatic 1053, 3) := by decide +kernel
theorem dJ0_checkIndex_df160_5 : decode cJ0_checkIndex_df160 5 = .ok (.invokestatic 1059, 3) := by decide +kernel
theorem dJ0_checkIndex_df160_8 : decode cJ0_checkIndex_df160 8 = .ok (.pop, 1) := by decide +kernel
theorem dJ0_checkIndex_df160_9 : decode cJ0_checkIndex_df160 9 = .ok (.return_, 1) := by decide +kernel
theorem dJ1_charAt_3b067_0 : decode cJ1_charAt_3b067 0 = .ok (.iload_n 1, 1) := by decide +kernel
theorem dJ1_charAt_3b067_1 : decode cJ1_charAt_3b067 1 = .ok (.aload_n 0, 1) := by decide +kernel
theorem dJ1_charAt_3b067_2 : decode cJ1_charAt_3b067 2 = .ok (.arraylength, 1) := by decide +kernel
theorem dJ1_charAt_3b067_3 : decode cJ1_charAt_3b067 3 = .ok (.invokestatic 9, 3) := by decide +kernel
theorem dJ1_charAt_3b067_6 : decode cJ1_charAt_3b067 6 = .ok (.aload_n 0, 1) := by decide +kernel
theorem dJ1_charAt_3b067_7 : decode cJ1_charAt_3b067 7 = .ok (.iload_n 1, 1) := by decide +kernel
theorem dJ1_charAt_3b067_8 : decode cJ1_charAt_3b067 8 = .ok (.baload, 1) := by decide +kernel
theorem dJ1_charAt_3b067_9 : decode cJ1_charAt_3b067 9 = .ok (.sipush 255, 3) := by decide +kernel
theorem dJ1_charAt_3b067_12 : decode cJ1_charAt_3b067 12 = .ok (.iand, 1) := by decide +kernel
theorem dJ1_charAt_3b067_13 : decode cJ1_charAt_3b067 13 = .ok (.i2c, 1) := by decide +kernel
theorem dJ1_charAt_3b067_14 : decode cJ1_charAt_3b067 14 = .ok (.ireturn, 1) := by decide +kernel
theorem dJ2_getChar_3b067_0 : decode cJ2_getChar_3b067 0 = .ok (.getstatic 44, 3) := by decide +kernel
theorem dJ2_getChar_3b067_3 : decode cJ2_getChar_3b067 3 = .ok (.ifCond .ne 25, 3) := by decide +kernel
theorem dJ2_getChar_3b067_6 : decode cJ2_getChar_3b067 6 = .ok (.iload_n 1, 1) := by decide +kernel
theorem dJ2_getChar_3b067_7 : decode cJ2_getChar_3b067 7 = .ok (.ifCond .lt 11, 3) := by decide +kernel
theorem dJ2_getChar_3b067_10 : decode cJ2_getChar_3b067 10 = .ok (.iload_n 1, 1) := by decide +kernel
theorem dJ2_getChar_3b067_11 : decode cJ2_getChar_3b067 11 = .ok (.aload_n 0, 1) := by decide +kernel
theorem dJ2_getChar_3b067_12 : decode cJ2_getChar_3b067 12 = .ok (.invokestatic 48, 3) := by decide +kernel
theorem dJ2_getChar_3b067_15 : decode cJ2_getChar_3b067 15 = .ok (.if_icmp .lt 13, 3) := by decide +kernel
theorem dJ2_getChar_3b067_18 : decode cJ2_getChar_3b067 18 = .ok (.new 52, 3) := by decide +kernel
theorem dJ2_getChar_3b067_21 : decode cJ2_getChar_3b067 21 = .ok (.dup, 1) := by decide +kernel
theorem dJ2_getChar_3b067_22 : decode cJ2_getChar_3b067 22 = .ok (.ldc 54, 2) := by decide +kernel
theorem dJ2_getChar_3b067_24 : decode cJ2_getChar_3b067 24 = .ok (.invokespecial 56, 3) := by decide +kernel
theorem dJ2_getChar_3b067_27 : decode cJ2_getChar_3b067 27 = .ok (.athrow, 1) := by decide +kernel
theorem dJ2_getChar_3b067_28 : decode cJ2_getChar_3b067 28 = .ok (.iload_n 1, 1) := by decide +kernel
theorem dJ2_getChar_3b067_29 : decode cJ2_getChar_3b067 29 = .ok (.iconst 1, 1) := by decide +kernel
theorem dJ2_getChar_3b067_30 : decode cJ2_getChar_3b067 30 = .ok (.ishl, 1) := by decide +kernel
theorem dJ2_getChar_3b067_31 : decode cJ2_getChar_3b067 31 = .ok (.istore_n 1, 1) := by decide +kernel
theorem dJ2_getChar_3b067_32 : decode cJ2_getChar_3b067 32 = .ok (.aload_n 0, 1) := by decide +kernel
theorem dJ2_getChar_3b067_33 : decode cJ2_getChar_3b067 33 = .ok (.iload_n 1, 1) := by decide +kernel
theorem dJ2_getChar_3b067_34 : decode cJ2_getChar_3b067 34 = .ok (.iinc 1 1, 3) := by decide +kernel
theorem dJ2_getChar_3b067_37 : decode cJ2_getChar_3b067 37 = .ok (.baload, 1) := by decide +kernel
theorem dJ2_getChar_3b067_38 : decode cJ2_getChar_3b067 38 = .ok (.sipush 255, 3) := by decide +kernel
theorem dJ2_getChar_3b067_41 : decode cJ2_getChar_3b067 41 = .ok (.iand, 1) := by decide +kernel
theorem dJ2_getChar_3b067_42 : decode cJ2_getChar_3b067 42 = .ok (.getstatic 59, 3) := by decide +kernel
theorem dJ2_getChar_3b067_45 : decode cJ2_getChar_3b067 45 = .ok (.ishl, 1) := by decide +kernel
theorem dJ2_getChar_3b067_46 : decode cJ2_getChar_3b067 46 = .ok (.aload_n 0, 1) := by decide +kernel
theorem dJ2_getChar_3b067_47 : decode cJ2_getChar_3b067 47 = .ok (.iload_n 1, 1) := by decide +kernel
theorem dJ2_getChar_3b067_48 : decode cJ2_getChar_3b067 48 = .ok (.baload, 1) := by decide +kernel
theorem dJ2_getChar_3b067_49 : decode cJ2_getChar_3b067 49 = .ok (.sipush 255, 3) := by decide +kernel
theorem dJ2_getChar_3b067_52 : decode cJ2_getChar_3b067 52 = .ok (.iand, 1) := by decide +kernel
theorem dJ2_getChar_3b067_53 : decode cJ2_getChar_3b067 53 = .ok (.getstatic 63, 3) := by decide +kernel
theorem dJ2_getChar_3b067_56 : decode cJ2_getChar_3b067 56 = .ok (.ishl, 1) := by decide +kernel
theorem dJ2_getChar_3b067_57 : decode cJ2_getChar_3b067 57 = .ok (.ior, 1) := by decide +kernel
theorem dJ2_getChar_3b067_58 : decode cJ2_getChar_3b067 58 = .ok (.i2c, 1) := by decide +kernel
theorem dJ2_getChar_3b067_59 : decode cJ2_getChar_3b067 59 = .ok (.ireturn, 1) := by decide +kernel
theorem dJ2_length_9d52b_0 : decode cJ2_length_9d52b 0 = .ok (.aload_n 0, 1) := by decide +kernel
theorem dJ2_length_9d52b_1 : decode cJ2_length_9d52b 1 = .ok (.arraylength, 1) := by decide +kernel
theorem dJ2_length_9d52b_2 : decode cJ2_length_9d52b 2 = .ok (.iconst 1, 1) := by decide +kernel
theorem dJ2_length_9d52b_3 : decode cJ2_length_9d52b 3 = .ok (.ishr, 1) := by decide +kernel
theorem dJ2_length_9d52b_4 : decode cJ2_length_9d52b 4 = .ok (.ireturn, 1) := by decide +kernel
theorem dJ2_charAt_3b067_0 : decode cJ2_charAt_3b067 0 = .ok (.iload_n 1, 1) := by decide +kernel
theorem dJ2_charAt_3b067_1 : decode cJ2_charAt_3b067 1 = .ok (.aload_n 0, 1) := by decide +kernel
theorem dJ2_charAt_3b067_2 : decode cJ2_charAt_3b067 2 = .ok (.invokestatic 67, 3) := by decide +kernel
theorem dJ2_charAt_3b067_5 : decode cJ2_charAt_3b067 5 = .ok (.aload_n 0, 1) := by decide +kernel
theorem dJ2_charAt_3b067_6 : decode cJ2_charAt_3b067 6 = .ok (.iload_n 1, 1) := by decide +kernel
theorem dJ2_charAt_3b067_7 : decode cJ2_charAt_3b067 7 = .ok (.invokestatic 71, 3) := by decide +kernel
theorem dJ2_charAt_3b067_10 : decode cJ2_charAt_3b067 10 = .ok (.ireturn, 1) := by decide +kernel
theorem dJ2_checkIndex_2214a_0 : decode cJ2_checkIndex_2214a 0 = .ok (.iload_n 0, 1) := by decide +kernel
theorem dJ2_checkIndex_2214a_1 : decode cJ2_checkIndex_2214a 1 = .ok (.aload_n 1, 1) := by decide +kernel
theorem dJ2_checkIndex_2214a_2 : decode cJ2_checkIndex_2214a 2 = .ok (.invokestatic 48, 3) := by decide +kernel
theorem dJ2_checkIndex_2214a_5 : decode cJ2_checkIndex_2214a 5 = .ok (.invokestatic 414, 3) := by decide +kernel
theorem dJ2_checkIndex_2214a_8 : decode cJ2_checkIndex_2214a 8 = .ok (.return_, 1) := by decide +kernel
theorem dJ7_fill_d0a16_0 : decode cJ7_fill_d0a16 0 = .ok (.iconst 0, 1) := by decide +kernel
theorem dJ7_fill_d0a16_1 : decode cJ7_fill_d0a16 1 = .ok (.istore_n 3, 1) := by decide +kernel
theorem dJ7_fill_d0a16_2 : decode cJ7_fill_d0a16 2 = .ok (.aload_n 0, 1) := by decide +kernel
theorem dJ7_fill_d0a16_3 : decode cJ7_fill_d0a16 3 = .ok (.arraylength, 1) := by decide +kernel
theorem dJ7_fill_d0a16_4 : decode cJ7_fill_d0a16 4 = .ok (.istore 4, 2) := by decide +kernel
theorem dJ7_fill_d0a16_6 : decode cJ7_fill_d0a16 6 = .ok (.iload_n 3, 1) := by decide +kernel
theorem dJ7_fill_d0a16_7 : decode cJ7_fill_d0a16 7 = .ok (.iload 4, 2) := by decide +kernel
theorem dJ7_fill_d0a16_9 : decode cJ7_fill_d0a16 9 = .ok (.if_icmp .ge 13, 3) := by decide +kernel
theorem dJ7_fill_d0a16_12 : decode cJ7_fill_d0a16 12 = .ok (.aload_n 0, 1) := by decide +kernel
theorem dJ7_fill_d0a16_13 : decode cJ7_fill_d0a16 13 = .ok (.iload_n 3, 1) := by decide +kernel
theorem dJ7_fill_d0a16_14 : decode cJ7_fill_d0a16 14 = .ok (.lload_n 1, 1) := by decide +kernel
theorem dJ7_fill_d0a16_15 : decode cJ7_fill_d0a16 15 = .ok (.lastore, 1) := by decide +kernel
theorem dJ7_fill_d0a16_16 : decode cJ7_fill_d0a16 16 = .ok (.iinc 3 1, 3) := by decide +kernel
theorem dJ7_fill_d0a16_19 : decode cJ7_fill_d0a16 19 = .ok (.goto (-13), 3) := by decide +kernel
theorem dJ7_fill_d0a16_22 : decode cJ7_fill_d0a16 22 = .ok (.return_, 1) := by decide +kernel
theorem dJ7_fill_53178_0 : decode cJ7_fill_53178 0 = .ok (.iconst 0, 1) := by decide +kernel
theorem dJ7_fill_53178_1 : decode cJ7_fill_53178 1 = .ok (.istore_n 2, 1) := by decide +kernel
theorem dJ7_fill_53178_2 : decode cJ7_fill_53178 2 = .ok (.aload_n 0, 1) := by decide +kernel
theorem dJ7_fill_53178_3 : decode cJ7_fill_53178 3 = .ok (.arraylength, 1) := by decide +kernel
theorem dJ7_fill_53178_4 : decode cJ7_fill_53178 4 = .ok (.istore_n 3, 1) := by decide +kernel
theorem dJ7_fill_53178_5 : decode cJ7_fill_53178 5 = .ok (.iload_n 2, 1) := by decide +kernel
theorem dJ7_fill_53178_6 : decode cJ7_fill_53178 6 = .ok (.iload_n 3, 1) := by decide +kernel
theorem dJ7_fill_53178_7 : decode cJ7_fill_53178 7 = .ok (.if_icmp .ge 13, 3) := by decide +kernel
theorem dJ7_fill_53178_10 : decode cJ7_fill_53178 10 = .ok (.aload_n 0, 1) := by decide +kernel
theorem dJ7_fill_53178_11 : decode cJ7_fill_53178 11 = .ok (.iload_n 2, 1) := by decide +kernel
theorem dJ7_fill_53178_12 : decode cJ7_fill_53178 12 = .ok (.iload_n 1, 1) := by decide +kernel
theorem dJ7_fill_53178_13 : decode cJ7_fill_53178 13 = .ok (.iastore, 1) := by decide +kernel
theorem dJ7_fill_53178_14 : decode cJ7_fill_53178 14 = .ok (.iinc 2 1, 3) := by decide +kernel
theorem dJ7_fill_53178_17 : decode cJ7_fill_53178 17 = .ok (.goto (-12), 3) := by decide +kernel
theorem dJ7_fill_53178_20 : decode cJ7_fill_53178 20 = .ok (.return_, 1) := by decide +kernel
theorem dJ3_checkIndex_8e157_0 : decode cJ3_checkIndex_8e157 0 = .ok (.iload_n 0, 1) := by decide +kernel
theorem dJ3_checkIndex_8e157_1 : decode cJ3_checkIndex_8e157 1 = .ok (.ifCond .lt 8, 3) := by decide +kernel
theorem dJ3_checkIndex_8e157_4 : decode cJ3_checkIndex_8e157 4 = .ok (.iload_n 0, 1) := by decide +kernel
theorem dJ3_checkIndex_8e157_5 : decode cJ3_checkIndex_8e157 5 = .ok (.iload_n 1, 1) := by decide +kernel
theorem dJ3_checkIndex_8e157_6 : decode cJ3_checkIndex_8e157 6 = .ok (.if_icmp .lt 10, 3) := by decide +kernel
theorem dJ3_checkIndex_8e157_9 : decode cJ3_checkIndex_8e157 9 = .ok (.aload_n 2, 1) := by decide +kernel
theorem dJ3_checkIndex_8e157_10 : decode cJ3_checkIndex_8e157 10 = .ok (.iload_n 0, 1) := by decide +kernel
theorem dJ3_checkIndex_8e157_11 : decode cJ3_checkIndex_8e157 11 = .ok (.iload_n 1, 1) := by decide +kernel
theorem dJ3_checkIndex_8e157_12 : decode cJ3_checkIndex_8e157 12 = .ok (.invokestatic 95, 3) := by decide +kernel
theorem dJ3_checkIndex_8e157_15 : decode cJ3_checkIndex_8e157 15 = .ok (.athrow, 1) := by decide +kernel
theorem dJ3_checkIndex_8e157_16 : decode cJ3_checkIndex_8e157 16 = .ok (.iload_n 0, 1) := by decide +kernel
theorem dJ3_checkIndex_8e157_17 : decode cJ3_checkIndex_8e157 17 = .ok (.ireturn, 1) := by decide +kernel
end
section
theorem dX7_init_0 : decode cX7_init 0 = .ok (.aload_n 0, 1) := by decide +kernel
theorem dX7_init_1 : decode cX7_init 1 = .ok (.invokespecial 1, 3) := by decide +kernel
theorem dX7_init_4 : decode cX7_init 4 = .ok (.aload_n 0, 1) := by decide +kernel
theorem dX7_init_5 : decode cX7_init 5 = .ok (.bipush 24, 2) := by decide +kernel
theorem dX7_init_7 : decode cX7_init 7 = .ok (.newarray .int, 2) := by decide +kernel
theorem dX7_init_9 : decode cX7_init 9 = .ok (.putfield 7, 3) := by decide +kernel
theorem dX7_init_12 : decode cX7_init 12 = .ok (.aload_n 0, 1) := by decide +kernel
theorem dX7_init_13 : decode cX7_init 13 = .ok (.sipush 288, 3) := by decide +kernel
theorem dX7_init_16 : decode cX7_init 16 = .ok (.newarray .int, 2) := by decide +kernel
theorem dX7_init_18 : decode cX7_init 18 = .ok (.putfield 13, 3) := by decide +kernel
theorem dX7_init_21 : decode cX7_init 21 = .ok (.aload_n 0, 1) := by decide +kernel
theorem dX7_init_22 : decode cX7_init 22 = .ok (.iconst 2, 1) := by decide +kernel
theorem dX7_init_23 : decode cX7_init 23 = .ok (.putfield 16, 3) := by decide +kernel
theorem dX7_init_26 : decode cX7_init 26 = .ok (.aload_n 0, 1) := by decide +kernel
theorem dX7_init_27 : decode cX7_init 27 = .ok (.bipush 16, 2) := by decide +kernel
theorem dX7_init_29 : decode cX7_init 29 = .ok (.newarray .int, 2) := by decide +kernel
theorem dX7_init_31 : decode cX7_init 31 = .ok (.putfield 20, 3) := by decide +kernel
theorem dX7_init_34 : decode cX7_init 34 = .ok (.aload_n 0, 1) := by decide +kernel
theorem dX7_init_35 : decode cX7_init 35 = .ok (.sipush 200, 3) := by decide +kernel
theorem dX7_init_38 : decode cX7_init 38 = .ok (.newarray .int, 2) := by decide +kernel
theorem dX7_init_40 : decode cX7_init 40 = .ok (.putfield 23, 3) := by decide +kernel
theorem dX7_init_43 : decode cX7_init 43 = .ok (.aload_n 0, 1) := by decide +kernel
theorem dX7_init_44 : decode cX7_init 44 = .ok (.bipush 48, 2) := by decide +kernel
theorem dX7_init_46 : decode cX7_init 46 = .ok (.newarray .int, 2) := by decide +kernel
theorem dX7_init_48 : decode cX7_init 48 = .ok (.putfield 26, 3) := by decide +kernel
theorem dX7_init_51 : decode cX7_init 51 = .ok (.aload_n 0, 1) := by decide +kernel
theorem dX7_init_52 : decode cX7_init 52 = .ok (.bipush 21, 2) := by decide +kernel
theorem dX7_init_54 : decode cX7_init 54 = .ok (.newarray .int, 2) := by decide +kernel
theorem dX7_init_56 : decode cX7_init 56 = .ok (.putfield 29, 3) := by decide +kernel
theorem dX7_init_59 : decode cX7_init 59 = .ok (.aload_n 0, 1) := by decide +kernel
theorem dX7_init_60 : decode cX7_init 60 = .ok (.bipush 42, 2) := by decide +kernel
theorem dX7_init_62 : decode cX7_init 62 = .ok (.newarray .int, 2) := by decide +kernel
theorem dX7_init_64 : decode cX7_init 64 = .ok (.putfield 32, 3) := by decide +kernel
theorem dX7_init_67 : decode cX7_init 67 = .ok (.aload_n 0, 1) := by decide +kernel
theorem dX7_init_68 : decode cX7_init 68 = .ok (.iconst 2, 1) := by decide +kernel
theorem dX7_init_69 : decode cX7_init 69 = .ok (.newarray .boolean, 2) := by decide +kernel
theorem dX7_init_71 : decode cX7_init 71 = .ok (.putfield 35, 3) := by decide +kernel
theorem dX7_init_74 : decode cX7_init 74 = .ok (.aload_n 0, 1) := by decide +kernel
theorem dX7_init_75 : decode cX7_init 75 = .ok (.sipush 24150, 3) := by decide +kernel
theorem dX7_init_78 : decode cX7_init 78 = .ok (.newarray .int, 2) := by decide +kernel
theorem dX7_init_80 : decode cX7_init 80 = .ok (.putfield 39, 3) := by decide +kernel
theorem dX7_init_83 : decode cX7_init 83 = .ok (.aload_n 0, 1) := by decide +kernel
theorem dX7_init_84 : decode cX7_init 84 = .ok (.bipush 24, 2) := by decide +kernel
theorem dX7_init_86 : decode cX7_init 86 = .ok (.newarray .int, 2) := by decide +kernel
theorem dX7_init_88 : decode cX7_init 88 = .ok (.putfield 42, 3) := by decide +kernel
theorem dX7_init_91 : decode cX7_init 91 = .ok (.aload_n 0, 1) := by decide +kernel
theorem dX7_init_92 : decode cX7_init 92 = .ok (.bipush 24, 2) := by decide +kernel
theorem dX7_init_94 : decode cX7_init 94 = .ok (.newarray .int, 2) := by decide +kernel
theorem dX7_init_96 : decode cX7_init 96 = .ok (.putfield 45, 3) := by decide +kernel
theorem dX7_init_99 : decode cX7_init 99 = .ok (.aload_n 0, 1) := by decide +kernel
theorem dX7_init_100 : decode cX7_init 100 = .ok (.bipush 24, 2) := by decide +kernel
theorem dX7_init_102 : decode cX7_init 102 = .ok (.newarray .int, 2) := by decide +kernel
theorem dX7_init_104 : decode cX7_init 104 = .ok (.putfield 48, 3) := by decide +kernel
theorem dX7_init_107 : decode cX7_init 107 = .ok (.aload_n 0, 1) := by decide +kernel
theorem dX7_init_108 : decode cX7_init 108 = .ok (.bipush 24, 2) := by decide +kernel
theorem dX7_init_110 : decode cX7_init 110 = .ok (.newarray .int, 2) := by decide +kernel
theorem dX7_init_112 : decode cX7_init 112 = .ok (.putfield 51, 3) := by decide +kernel
theorem dX7_init_115 : decode cX7_init 115 = .ok (.aload_n 0, 1) := by decide +kernel
theorem dX7_init_116 : decode cX7_init 116 = .ok (.sipush 8694, 3) := by decide +kernel
theorem dX7_init_119 : decode cX7_init 119 = .ok (.newarray .long, 2) := by decide +kernel
theorem dX7_init_121 : decode cX7_init 121 = .ok (.putfield 54, 3) := by decide +kernel
theorem dX7_init_124 : decode cX7_init 124 = .ok (.aload_n 0, 1) := by decide +kernel
theorem dX7_init_125 : decode cX7_init 125 = .ok (.invokevirtual 58, 3) := by decide +kernel
theorem dX7_init_128 : decode cX7_init 128 = .ok (.return_, 1) := by decide +kernel
theorem dX7_in_0 : decode cX7_in 0 = .ok (.iload_n 0, 1) := by decide +kernel
theorem dX7_in_1 : decode cX7_in 1 = .ok (.iload_n 1, 1) := by decide +kernel
theorem dX7_in_2 : decode cX7_in 2 = .ok (.if_icmp .lt 12, 3) := by decide +kernel
theorem dX7_in_5 : decode cX7_in 5 = .ok (.iload_n 0, 1) := by decide +kernel
theorem dX7_in_6 : decode cX7_in 6 = .ok (.iload_n 2, 1) := by decide +kernel
theorem dX7_in_7 : decode cX7_in 7 = .ok (.if_icmp .gt 7, 3) := by decide +kernel
theorem dX7_in_10 : decode cX7_in 10 = .ok (.iconst 1, 1) := by decide +kernel
theorem dX7_in_11 : decode cX7_in 11 = .ok (.goto 4, 3) := by decide +kernel
theorem dX7_in_14 : decode cX7_in 14 = .ok (.iconst 0, 1) := by decide +kernel
theorem dX7_in_15 : decode cX7_in 15 = .ok (.ireturn, 1) := by decide +kernel
theorem dX7_has_0 : decode cX7_has 0 = .ok (.iload_n 0, 1) := by decide +kernel
theorem dX7_has_1 : decode cX7_has 1 = .ok (.iload_n 1, 1) := by decide +kernel
theorem dX7_has_2 : decode cX7_has 2 = .ok (.ishr, 1) := by decide +kernel
theorem dX7_has_3 : decode cX7_has 3 = .ok (.iconst 1, 1) := by decide +kernel
theorem dX7_has_4 : decode cX7_has 4 = .ok (.iand, 1) := by decide +kernel
theorem dX7_has_5 : decode cX7_has 5 = .ok (.iconst 1, 1) := by decide +kernel
theorem dX7_has_6 : decode cX7_has 6 = .ok (.if_icmp .ne 7, 3) := by decide +kernel
theorem dX7_has_9 : decode cX7_has 9 = .ok (.iconst 1, 1) := by decide +kernel
theorem dX7_has_10 : decode cX7_has 10 = .ok (.goto 4, 3) := by decide +kernel
theorem dX7_has_13 : decode cX7_has 13 = .ok (.iconst 0, 1) := by decide +kernel
theorem dX7_has_14 : decode cX7_has 14 = .ok (.ireturn, 1) := by decide +kernel
theorem dX7_off_0 : decode cX7_off 0 = .ok (.iload_n 0, 1) := by decide +kernel
theorem dX7_off_1 : decode cX7_off 1 = .ok (.iload_n 1, 1) := by decide +kernel
theorem dX7_off_2 : decode cX7_off 2 = .ok (.if_icmp .le 9, 3) := by decide +kernel
theorem dX7_off_5 : decode cX7_off 5 = .ok (.iload_n 0, 1) := by decide +kernel
theorem dX7_off_6 : decode cX7_off 6 = .ok (.iload_n 1, 1) := by decide +kernel
theorem dX7_off_7 : decode cX7_off 7 = .ok (.isub, 1) := by decide +kernel
theorem dX7_off_8 : decode cX7_off 8 = .ok (.goto 6, 3) := by decide +kernel
theorem dX7_off_11 : decode cX7_off 11 = .ok (.iload_n 1, 1) := by decide +kernel
theorem dX7_off_12 : decode cX7_off 12 = .ok (.iload_n 0, 1) := by decide +kernel
theorem dX7_off_13 : decode cX7_off 13 = .ok (.isub, 1) := by decide +kernel
theorem dX7_off_14 : decode cX7_off 14 = .ok (.ireturn, 1) := by decide +kernel
theorem dX7_isBarge_0 : decode cX7_isBarge 0 = .ok (.iload_n 1, 1) := by decide +kernel
theorem dX7_isBarge_1 : decode cX7_isBarge 1 = .ok (.iconst 0, 1) := by decide +kernel
theorem dX7_isBarge_2 : decode cX7_isBarge 2 = .ok (.iconst 3, 1) := by decide +kernel
theorem dX7_isBarge_3 : decode cX7_isBarge 3 = .ok (.invokestatic 61, 3) := by decide +kernel
theorem dX7_isBarge_6 : decode cX7_isBarge 6 = .ok (.ifCond .eq 18, 3) := by decide +kernel
theorem dX7_isBarge_9 : decode cX7_isBarge 9 = .ok (.aload_n 0, 1) := by decide +kernel
theorem dX7_isBarge_10 : decode cX7_isBarge 10 = .ok (.getfield 65, 3) := by decide +kernel
theorem dX7_isBarge_13 : decode cX7_isBarge 13 = .ok (.iload_n 1, 1) := by decide +kernel
theorem dX7_isBarge_14 : decode cX7_isBarge 14 = .ok (.invokestatic 68, 3) := by decide +kernel
theorem dX7_isBarge_17 : decode cX7_isBarge 17 = .ok (.ifCond .eq 7, 3) := by decide +kernel
theorem dX7_isBarge_20 : decode cX7_isBarge 20 = .ok (.iconst 1, 1) := by decide +kernel
theorem dX7_isBarge_21 : decode cX7_isBarge 21 = .ok (.goto 4, 3) := by decide +kernel
theorem dX7_isBarge_24 : decode cX7_isBarge 24 = .ok (.iconst 0, 1) := by decide +kernel
theorem dX7_isBarge_25 : decode cX7_isBarge 25 = .ok (.ireturn, 1) := by decide +kernel
theorem dX7_write_0 : decode cX7_write 0 = .ok (.iload_n 3, 1) := by decide +kernel
theorem dX7_write_1 : decode cX7_write 1 = .ok (.iconst 1, 1) := by decide +kernel
theorem dX7_write_2 : decode cX7_write 2 = .ok (.bipush 8, 2) := by decide +kernel
theorem dX7_write_4 : decode cX7_write 4 = .ok (.invokestatic 61, 3) := by decide +kernel
theorem dX7_write_7 : decode cX7_write 7 = .ok (.ifCond .ne 6, 3) := by decide +kernel
theorem dX7_write_10 : decode cX7_write 10 = .ok (.bipush (-3), 2) := by decide +kernel
theorem dX7_write_12 : decode cX7_write 12 = .ok (.ireturn, 1) := by decide +kernel
theorem dX7_write_13 : decode cX7_write 13 = .ok (.aload_n 0, 1) := by decide +kernel
theorem dX7_write_14 : decode cX7_write 14 = .ok (.getfield 72, 3) := by decide +kernel
theorem dX7_write_17 : decode cX7_write 17 = .ok (.iload_n 3, 1) := by decide +kernel
theorem dX7_write_18 : decode cX7_write 18 = .ok (.iadd, 1) := by decide +kernel
theorem dX7_write_19 : decode cX7_write 19 = .ok (.sipush 200, 3) := by decide +kernel
theorem dX7_write_22 : decode cX7_write 22 = .ok (.if_icmp .le 6, 3) := by decide +kernel
theorem dX7_write_25 : decode cX7_write 25 = .ok (.bipush (-5), 2) := by decide +kernel
theorem dX7_write_27 : decode cX7_write 27 = .ok (.ireturn, 1) := by decide +kernel
theorem dX7_write_28 : decode cX7_write 28 = .ok (.iconst 0, 1) := by decide +kernel
theorem dX7_write_29 : decode cX7_write 29 = .ok (.istore 4, 2) := by decide +kernel
theorem dX7_write_31 : decode cX7_write 31 = .ok (.iload 4, 2) := by decide +kernel
theorem dX7_write_33 : decode cX7_write 33 = .ok (.iload_n 3, 1) := by decide +kernel
theorem dX7_write_34 : decode cX7_write 34 = .ok (.if_icmp .ge 33, 3) := by decide +kernel
theorem dX7_write_37 : decode cX7_write 37 = .ok (.aload_n 0, 1) := by decide +kernel
theorem dX7_write_38 : decode cX7_write 38 = .ok (.getfield 23, 3) := by decide +kernel
theorem dX7_write_41 : decode cX7_write 41 = .ok (.aload_n 0, 1) := by decide +kernel
theorem dX7_write_42 : decode cX7_write 42 = .ok (.getfield 72, 3) := by decide +kernel
theorem dX7_write_45 : decode cX7_write 45 = .ok (.iload 4, 2) := by decide +kernel
theorem dX7_write_47 : decode cX7_write 47 = .ok (.iadd, 1) := by decide +kernel
theorem dX7_write_48 : decode cX7_write 48 = .ok (.lload_n 1, 1) := by decide +kernel
theorem dX7_write_49 : decode cX7_write 49 = .ok (.bipush 8, 2) := by decide +kernel
theorem dX7_write_51 : decode cX7_write 51 = .ok (.iload 4, 2) := by decide +kernel
theorem dX7_write_53 : decode cX7_write 53 = .ok (.imul, 1) := by decide +kernel
theorem dX7_write_54 : decode cX7_write 54 = .ok (.lshr, 1) := by decide +kernel
theorem dX7_write_55 : decode cX7_write 55 = .ok (.ldc2_w 75, 3) := by decide +kernel
theorem dX7_write_58 : decode cX7_write 58 = .ok (.land, 1) := by decide +kernel
theorem dX7_write_59 : decode cX7_write 59 = .ok (.l2i, 1) := by decide +kernel
theorem dX7_write_60 : decode cX7_write 60 = .ok (.iastore, 1) := by decide +kernel
theorem dX7_write_61 : decode cX7_write 61 = .ok (.iinc 4 1, 3) := by decide +kernel
theorem dX7_write_64 : decode cX7_write 64 = .ok (.goto (-33), 3) := by decide +kernel
theorem dX7_write_67 : decode cX7_write 67 = .ok (.aload_n 0, 1) := by decide +kernel
theorem dX7_write_68 : decode cX7_write 68 = .ok (.dup, 1) := by decide +kernel
theorem dX7_write_69 : decode cX7_write 69 = .ok (.getfield 72, 3) := by decide +kernel
theorem dX7_write_72 : decode cX7_write 72 = .ok (.iload_n 3, 1) := by decide +kernel
theorem dX7_write_73 : decode cX7_write 73 = .ok (.iadd, 1) := by decide +kernel
theorem dX7_write_74 : decode cX7_write 74 = .ok (.putfield 72, 3) := by decide +kernel
theorem dX7_write_77 : decode cX7_write 77 = .ok (.aload_n 0, 1) := by decide +kernel
theorem dX7_write_78 : decode cX7_write 78 = .ok (.getfield 72, 3) := by decide +kernel
theorem dX7_write_81 : decode cX7_write 81 = .ok (.ireturn, 1) := by decide +kernel
theorem dX7_erase_0 : decode cX7_erase 0 = .ok (.aload_n 0, 1) := by decide +kernel
theorem dX7_erase_1 : decode cX7_erase 1 = .ok (.getfield 72, 3) := by decide +kernel
theorem dX7_erase_4 : decode cX7_erase 4 = .ok (.istore_n 1, 1) := by decide +kernel
theorem dX7_erase_5 : decode cX7_erase 5 = .ok (.aload_n 0, 1) := by decide +kernel
theorem dX7_erase_6 : decode cX7_erase 6 = .ok (.iconst 0, 1) := by decide +kernel
theorem dX7_erase_7 : decode cX7_erase 7 = .ok (.putfield 72, 3) := by decide +kernel
theorem dX7_erase_10 : decode cX7_erase 10 = .ok (.iload_n 1, 1) := by decide +kernel
theorem dX7_erase_11 : decode cX7_erase 11 = .ok (.ireturn, 1) := by decide +kernel
theorem dX7_nextToken_0 : decode cX7_nextToken 0 = .ok (.aload_n 0, 1) := by decide +kernel
theorem dX7_nextToken_1 : decode cX7_nextToken 1 = .ok (.getfield 77, 3) := by decide +kernel
theorem dX7_nextToken_4 : decode cX7_nextToken 4 = .ok (.aload_n 0, 1) := by decide +kernel
theorem dX7_nextToken_5 : decode cX7_nextToken 5 = .ok (.getfield 72, 3) := by decide +kernel
theorem dX7_nextToken_8 : decode cX7_nextToken 8 = .ok (.if_icmp .ge 30, 3) := by decide +kernel
theorem dX7_nextToken_11 : decode cX7_nextToken 11 = .ok (.aload_n 0, 1) := by decide +kernel
theorem dX7_nextToken_12 : decode cX7_nextToken 12 = .ok (.getfield 23, 3) := by decide +kernel
theorem dX7_nextToken_15 : decode cX7_nextToken 15 = .ok (.aload_n 0, 1) := by decide +kernel
theorem dX7_nextToken_16 : decode cX7_nextToken 16 = .ok (.getfield 77, 3) := by decide +kernel
theorem dX7_nextToken_19 : decode cX7_nextToken 19 = .ok (.iaload, 1) := by decide +kernel
theorem dX7_nextToken_20 : decode cX7_nextToken 20 = .ok (.bipush 32, 2) := by decide +kernel
theorem dX7_nextToken_22 : decode cX7_nextToken 22 = .ok (.if_icmp .ne 16, 3) := by decide +kernel
theorem dX7_nextToken_25 : decode cX7_nextToken 25 = .ok (.aload_n 0, 1) := by decide +kernel
theorem dX7_nextToken_26 : decode cX7_nextToken 26 = .ok (.dup, 1) := by decide +kernel
theorem dX7_nextToken_27 : decode cX7_nextToken 27 = .ok (.getfield 77, 3) := by decide +kernel
theorem dX7_nextToken_30 : decode cX7_nextToken 30 = .ok (.iconst 1, 1) := by decide +kernel
theorem dX7_nextToken_31 : decode cX7_nextToken 31 = .ok (.iadd, 1) := by decide +kernel
theorem dX7_nextToken_32 : decode cX7_nextToken 32 = .ok (.putfield 77, 3) := by decide +kernel
theorem dX7_nextToken_35 : decode cX7_nextToken 35 = .ok (.goto (-35), 3) := by decide +kernel
theorem dX7_nextToken_38 : decode cX7_nextToken 38 = .ok (.aload_n 0, 1) := by decide +kernel
theorem dX7_nextToken_39 : decode cX7_nextToken 39 = .ok (.aload_n 0, 1) := by decide +kernel
theorem dX7_nextToken_40 : decode cX7_nextToken 40 = .ok (.getfield 77, 3) := by decide +kernel
theorem dX7_nextToken_43 : decode cX7_nextToken 43 = .ok (.putfield 80, 3) := by decide +kernel
theorem dX7_nextToken_46 : decode cX7_nextToken 46 = .ok (.aload_n 0, 1) := by decide +kernel
theorem dX7_nextToken_47 : decode cX7_nextToken 47 = .ok (.iconst 0, 1) := by decide +kernel
theorem dX7_nextToken_48 : decode cX7_nextToken 48 = .ok (.putfield 83, 3) := by decide +kernel
theorem dX7_nextToken_51 : decode cX7_nextToken 51 = .ok (.aload_n 0, 1) := by decide +kernel
theorem dX7_nextToken_52 : decode cX7_nextToken 52 = .ok (.iconst 0, 1) := by decide +kernel
theorem dX7_nextToken_53 : decode cX7_nextToken 53 = .ok (.putfield 86, 3) := by decide +kernel
theorem dX7_nextToken_56 : decode cX7_nextToken 56 = .ok (.aload_n 0, 1) := by decide +kernel
theorem dX7_nextToken_57 : decode cX7_nextToken 57 = .ok (.getfield 77, 3) := by decide +kernel
theorem dX7_nextToken_60 : decode cX7_nextToken 60 = .ok (.aload_n 0, 1) := by decide +kernel
theorem dX7_nextToken_61 : decode cX7_nextToken 61 = .ok (.getfield 72, 3) := by decide +kernel
theorem dX7_nextToken_64 : decode cX7_nextToken 64 = .ok (.if_icmp .ne 13, 3) := by decide +kernel
theorem dX7_nextToken_67 : decode cX7_nextToken 67 = .ok (.aload_n 0, 1) := by decide +kernel
theorem dX7_nextToken_68 : decode cX7_nextToken 68 = .ok (.ldc2_w 89, 3) := by decide +kernel
theorem dX7_nextToken_71 : decode cX7_nextToken 71 = .ok (.putfield 91, 3) := by decide +kernel
theorem dX7_nextToken_74 : decode cX7_nextToken 74 = .ok (.goto 320, 3) := by decide +kernel
theorem dX7_nextToken_77 : decode cX7_nextToken 77 = .ok (.aload_n 0, 1) := by decide +kernel
theorem dX7_nextToken_78 : decode cX7_nextToken 78 = .ok (.getfield 23, 3) := by decide +kernel
theorem dX7_nextToken_81 : decode cX7_nextToken 81 = .ok (.aload_n 0, 1) := by decide +kernel
theorem dX7_nextToken_82 : decode cX7_nextToken 82 = .ok (.getfield 77, 3) := by decide +kernel
theorem dX7_nextToken_85 : decode cX7_nextToken 85 = .ok (.iaload, 1) := by decide +kernel
theorem dX7_nextToken_86 : decode cX7_nextToken 86 = .ok (.bipush 97, 2) := by decide +kernel
theorem dX7_nextToken_88 : decode cX7_nextToken 88 = .ok (.bipush 122, 2) := by decide +kernel
theorem dX7_nextToken_90 : decode cX7_nextToken 90 = .ok (.invokestatic 61, 3) := by decide +kernel
theorem dX7_nextToken_93 : decode cX7_nextToken 93 = .ok (.ifCond .eq 129, 3) := by decide +kernel
theorem dX7_nextToken_96 : decode cX7_nextToken 96 = .ok (.aload_n 0, 1) := by decide +kernel
theorem dX7_nextToken_97 : decode cX7_nextToken 97 = .ok (.lconst 0, 1) := by decide +kernel
theorem dX7_nextToken_98 : decode cX7_nextToken 98 = .ok (.putfield 91, 3) := by decide +kernel
theorem dX7_nextToken_101 : decode cX7_nextToken 101 = .ok (.aload_n 0, 1) := by decide +kernel
theorem dX7_nextToken_102 : decode cX7_nextToken 102 = .ok (.getfield 77, 3) := by decide +kernel
theorem dX7_nextToken_105 : decode cX7_nextToken 105 = .ok (.aload_n 0, 1) := by decide +kernel
theorem dX7_nextToken_106 : decode cX7_nextToken 106 = .ok (.getfield 72, 3) := by decide +kernel
theorem dX7_nextToken_109 : decode cX7_nextToken 109 = .ok (.if_icmp .ge 82, 3) := by decide +kernel
theorem dX7_nextToken_112 : decode cX7_nextToken 112 = .ok (.aload_n 0, 1) := by decide +kernel
theorem dX7_nextToken_113 : decode cX7_nextToken 113 = .ok (.getfield 23, 3) := by decide +kernel
theorem dX7_nextToken_116 : decode cX7_nextToken 116 = .ok (.aload_n 0, 1) := by decide +kernel
theorem dX7_nextToken_117 : decode cX7_nextToken 117 = .ok (.getfield 77, 3) := by decide +kernel
theorem dX7_nextToken_120 : decode cX7_nextToken 120 = .ok (.iaload, 1) := by decide +kernel
theorem dX7_nextToken_121 : decode cX7_nextToken 121 = .ok (.bipush 97, 2) := by decide +kernel
theorem dX7_nextToken_123 : decode cX7_nextToken 123 = .ok (.bipush 122, 2) := by decide +kernel
theorem dX7_nextToken_125 : decode cX7_nextToken 125 = .ok (.invokestatic 61, 3) := by decide +kernel
theorem dX7_nextToken_128 : decode cX7_nextToken 128 = .ok (.ifCond .eq 63, 3) := by decide +kernel
theorem dX7_nextToken_131 : decode cX7_nextToken 131 = .ok (.aload_n 0, 1) := by decide +kernel
theorem dX7_nextToken_132 : decode cX7_nextToken 132 = .ok (.aload_n 0, 1) := by decide +kernel
theorem dX7_nextToken_133 : decode cX7_nextToken 133 = .ok (.getfield 77, 3) := by decide +kernel
theorem dX7_nextToken_136 : decode cX7_nextToken 136 = .ok (.aload_n 0, 1) := by decide +kernel
theorem dX7_nextToken_137 : decode cX7_nextToken 137 = .ok (.getfield 80, 3) := by decide +kernel
theorem dX7_nextToken_140 : decode cX7_nextToken 140 = .ok (.isub, 1) := by decide +kernel
theorem dX7_nextToken_141 : decode cX7_nextToken 141 = .ok (.bipush 9, 2) := by decide +kernel
theorem dX7_nextToken_143 : decode cX7_nextToken 143 = .ok (.if_icmp .ge 29, 3) := by decide +kernel
theorem dX7_nextToken_146 : decode cX7_nextToken 146 = .ok (.ldc2_w 95, 3) := by decide +kernel
theorem dX7_nextToken_149 : decode cX7_nextToken 149 = .ok (.aload_n 0, 1) := by decide +kernel
theorem dX7_nextToken_150 : decode cX7_nextToken 150 = .ok (.getfield 91, 3) := by decide +kernel
theorem dX7_nextToken_153 : decode cX7_nextToken 153 = .ok (.lmul, 1) := by decide +kernel
theorem dX7_nextToken_154 : decode cX7_nextToken 154 = .ok (.aload_n 0, 1) := by decide +kernel
theorem dX7_nextToken_155 : decode cX7_nextToken 155 = .ok (.getfield 23, 3) := by decide +kernel
theorem dX7_nextToken_158 : decode cX7_nextToken 158 = .ok (.aload_n 0, 1) := by decide +kernel
theorem dX7_nextToken_159 : decode cX7_nextToken 159 = .ok (.getfield 77, 3) := by decide +kernel
theorem dX7_nextToken_162 : decode cX7_nextToken 162 = .ok (.iaload, 1) := by decide +kernel
theorem dX7_nextToken_163 : decode cX7_nextToken 163 = .ok (.i2l, 1) := by decide +kernel
theorem dX7_nextToken_164 : decode cX7_nextToken 164 = .ok (.ladd, 1) := by decide +kernel
theorem dX7_nextToken_165 : decode cX7_nextToken 165 = .ok (.ldc2_w 97, 3) := by decide +kernel
theorem dX7_nextToken_168 : decode cX7_nextToken 168 = .ok (.lsub, 1) := by decide +kernel
theorem dX7_nextToken_169 : decode cX7_nextToken 169 = .ok (.goto 6, 3) := by decide +kernel
theorem dX7_nextToken_172 : decode cX7_nextToken 172 = .ok (.ldc2_w 99, 3) := by decide +kernel
theorem dX7_nextToken_175 : decode cX7_nextToken 175 = .ok (.putfield 91, 3) := by decide +kernel
theorem dX7_nextToken_178 : decode cX7_nextToken 178 = .ok (.aload_n 0, 1) := by decide +kernel
theorem dX7_nextToken_179 : decode cX7_nextToken 179 = .ok (.dup, 1) := by decide +kernel
theorem dX7_nextToken_180 : decode cX7_nextToken 180 = .ok (.getfield 77, 3) := by decide +kernel
theorem dX7_nextToken_183 : decode cX7_nextToken 183 = .ok (.iconst 1, 1) := by decide +kernel
theorem dX7_nextToken_184 : decode cX7_nextToken 184 = .ok (.iadd, 1) := by decide +kernel
theorem dX7_nextToken_185 : decode cX7_nextToken 185 = .ok (.putfield 77, 3) := by decide +kernel
theorem dX7_nextToken_188 : decode cX7_nextToken 188 = .ok (.goto (-87), 3) := by decide +kernel
theorem dX7_nextToken_191 : decode cX7_nextToken 191 = .ok (.aload_n 0, 1) := by decide +kernel
theorem dX7_nextToken_192 : decode cX7_nextToken 192 = .ok (.aload_n 0, 1) := by decide +kernel
theorem dX7_nextToken_193 : decode cX7_nextToken 193 = .ok (.getfield 77, 3) := by decide +kernel
theorem dX7_nextToken_196 : decode cX7_nextToken 196 = .ok (.aload_n 0, 1) := by decide +kernel
theorem dX7_nextToken_197 : decode cX7_nextToken 197 = .ok (.getfield 80, 3) := by decide +kernel
theorem dX7_nextToken_200 : decode cX7_nextToken 200 = .ok (.isub, 1) := by decide +kernel
theorem dX7_nextToken_201 : decode cX7_nextToken 201 = .ok (.bipush 9, 2) := by decide +kernel
theorem dX7_nextToken_203 : decode cX7_nextToken 203 = .ok (.if_icmp .le 9, 3) := by decide +kernel
theorem dX7_nextToken_206 : decode cX7_nextToken 206 = .ok (.ldc2_w 99, 3) := by decide +kernel
theorem dX7_nextToken_209 : decode cX7_nextToken 209 = .ok (.goto 7, 3) := by decide +kernel
theorem dX7_nextToken_212 : decode cX7_nextToken 212 = .ok (.aload_n 0, 1) := by decide +kernel
theorem dX7_nextToken_213 : decode cX7_nextToken 213 = .ok (.getfield 91, 3) := by decide +kernel
theorem dX7_nextToken_216 : decode cX7_nextToken 216 = .ok (.putfield 91, 3) := by decide +kernel
theorem dX7_nextToken_219 : decode cX7_nextToken 219 = .ok (.goto 175, 3) := by decide +kernel
theorem dX7_nextToken_222 : decode cX7_nextToken 222 = .ok (.aload_n 0, 1) := by decide +kernel
theorem dX7_nextToken_223 : decode cX7_nextToken 223 = .ok (.getfield 23, 3) := by decide +kernel
theorem dX7_nextToken_226 : decode cX7_nextToken 226 = .ok (.aload_n 0, 1) := by decide +kernel
theorem dX7_nextToken_227 : decode cX7_nextToken 227 = .ok (.getfield 77, 3) := by decide +kernel
theorem dX7_nextToken_230 : decode cX7_nextToken 230 = .ok (.iaload, 1) := by decide +kernel
theorem dX7_nextToken_231 : decode cX7_nextToken 231 = .ok (.bipush 48, 2) := by decide +kernel
theorem dX7_nextToken_233 : decode cX7_nextToken 233 = .ok (.bipush 57, 2) := by decide +kernel
theorem dX7_nextToken_235 : decode cX7_nextToken 235 = .ok (.invokestatic 61, 3) := by decide +kernel
theorem dX7_nextToken_238 : decode cX7_nextToken 238 = .ok (.ifCond .eq 119, 3) := by decide +kernel
theorem dX7_nextToken_241 : decode cX7_nextToken 241 = .ok (.aload_n 0, 1) := by decide +kernel
theorem dX7_nextToken_242 : decode cX7_nextToken 242 = .ok (.getfield 77, 3) := by decide +kernel
theorem dX7_nextToken_245 : decode cX7_nextToken 245 = .ok (.aload_n 0, 1) := by decide +kernel
theorem dX7_nextToken_246 : decode cX7_nextToken 246 = .ok (.getfield 72, 3) := by decide +kernel
theorem dX7_nextToken_249 : decode cX7_nextToken 249 = .ok (.if_icmp .ge 84, 3) := by decide +kernel
theorem dX7_nextToken_252 : decode cX7_nextToken 252 = .ok (.aload_n 0, 1) := by decide +kernel
theorem dX7_nextToken_253 : decode cX7_nextToken 253 = .ok (.getfield 23, 3) := by decide +kernel
theorem dX7_nextToken_256 : decode cX7_nextToken 256 = .ok (.aload_n 0, 1) := by decide +kernel
theorem dX7_nextToken_257 : decode cX7_nextToken 257 = .ok (.getfield 77, 3) := by decide +kernel
theorem dX7_nextToken_260 : decode cX7_nextToken 260 = .ok (.iaload, 1) := by decide +kernel
theorem dX7_nextToken_261 : decode cX7_nextToken 261 = .ok (.bipush 48, 2) := by decide +kernel
theorem dX7_nextToken_263 : decode cX7_nextToken 263 = .ok (.bipush 57, 2) := by decide +kernel
theorem dX7_nextToken_265 : decode cX7_nextToken 265 = .ok (.invokestatic 61, 3) := by decide +kernel
theorem dX7_nextToken_268 : decode cX7_nextToken 268 = .ok (.ifCond .eq 65, 3) := by decide +kernel
theorem dX7_nextToken_271 : decode cX7_nextToken 271 = .ok (.aload_n 0, 1) := by decide +kernel
theorem dX7_nextToken_272 : decode cX7_nextToken 272 = .ok (.aload_n 0, 1) := by decide +kernel
theorem dX7_nextToken_273 : decode cX7_nextToken 273 = .ok (.getfield 83, 3) := by decide +kernel
theorem dX7_nextToken_276 : decode cX7_nextToken 276 = .ok (.iconst 2, 1) := by decide +kernel
theorem dX7_nextToken_277 : decode cX7_nextToken 277 = .ok (.if_icmp .ge 26, 3) := by decide +kernel
theorem dX7_nextToken_280 : decode cX7_nextToken 280 = .ok (.bipush 10, 2) := by decide +kernel
theorem dX7_nextToken_282 : decode cX7_nextToken 282 = .ok (.aload_n 0, 1) := by decide +kernel
theorem dX7_nextToken_283 : decode cX7_nextToken 283 = .ok (.getfield 86, 3) := by decide +kernel
theorem dX7_nextToken_286 : decode cX7_nextToken 286 = .ok (.imul, 1) := by decide +kernel
theorem dX7_nextToken_287 : decode cX7_nextToken 287 = .ok (.aload_n 0, 1) := by decide +kernel
theorem dX7_nextToken_288 : decode cX7_nextToken 288 = .ok (.getfield 23, 3) := by decide +kernel
theorem dX7_nextToken_291 : decode cX7_nextToken 291 = .ok (.aload_n 0, 1) := by decide +kernel
theorem dX7_nextToken_292 : decode cX7_nextToken 292 = .ok (.getfield 77, 3) := by decide +kernel
theorem dX7_nextToken_295 : decode cX7_nextToken 295 = .ok (.iaload, 1) := by decide +kernel
theorem dX7_nextToken_296 : decode cX7_nextToken 296 = .ok (.iadd, 1) := by decide +kernel
theorem dX7_nextToken_297 : decode cX7_nextToken 297 = .ok (.bipush 48, 2) := by decide +kernel
theorem dX7_nextToken_299 : decode cX7_nextToken 299 = .ok (.isub, 1) := by decide +kernel
theorem dX7_nextToken_300 : decode cX7_nextToken 300 = .ok (.goto 7, 3) := by decide +kernel
theorem dX7_nextToken_303 : decode cX7_nextToken 303 = .ok (.aload_n 0, 1) := by decide +kernel
theorem dX7_nextToken_304 : decode cX7_nextToken 304 = .ok (.getfield 86, 3) := by decide +kernel
theorem dX7_nextToken_307 : decode cX7_nextToken 307 = .ok (.putfield 86, 3) := by decide +kernel
theorem dX7_nextToken_310 : decode cX7_nextToken 310 = .ok (.aload_n 0, 1) := by decide +kernel
theorem dX7_nextToken_311 : decode cX7_nextToken 311 = .ok (.dup, 1) := by decide +kernel
theorem dX7_nextToken_312 : decode cX7_nextToken 312 = .ok (.getfield 83, 3) := by decide +kernel
theorem dX7_nextToken_315 : decode cX7_nextToken 315 = .ok (.iconst 1, 1) := by decide +kernel
theorem dX7_nextToken_316 : decode cX7_nextToken 316 = .ok (.iadd, 1) := by decide +kernel
theorem dX7_nextToken_317 : decode cX7_nextToken 317 = .ok (.putfield 83, 3) := by decide +kernel
theorem dX7_nextToken_320 : decode cX7_nextToken 320 = .ok (.aload_n 0, 1) := by decide +kernel
theorem dX7_nextToken_321 : decode cX7_nextToken 321 = .ok (.dup, 1) := by decide +kernel
theorem dX7_nextToken_322 : decode cX7_nextToken 322 = .ok (.getfield 77, 3) := by decide +kernel
theorem dX7_nextToken_325 : decode cX7_nextToken 325 = .ok (.iconst 1, 1) := by decide +kernel
theorem dX7_nextToken_326 : decode cX7_nextToken 326 = .ok (.iadd, 1) := by decide +kernel
theorem dX7_nextToken_327 : decode cX7_nextToken 327 = .ok (.putfield 77, 3) := by decide +kernel
theorem dX7_nextToken_330 : decode cX7_nextToken 330 = .ok (.goto (-89), 3) := by decide +kernel
theorem dX7_nextToken_333 : decode cX7_nextToken 333 = .ok (.aload_n 0, 1) := by decide +kernel
theorem dX7_nextToken_334 : decode cX7_nextToken 334 = .ok (.aload_n 0, 1) := by decide +kernel
theorem dX7_nextToken_335 : decode cX7_nextToken 335 = .ok (.getfield 83, 3) := by decide +kernel
theorem dX7_nextToken_338 : decode cX7_nextToken 338 = .ok (.iconst 2, 1) := by decide +kernel
theorem dX7_nextToken_339 : decode cX7_nextToken 339 = .ok (.if_icmp .le 9, 3) := by decide +kernel
theorem dX7_nextToken_342 : decode cX7_nextToken 342 = .ok (.ldc2_w 99, 3) := by decide +kernel
theorem dX7_nextToken_345 : decode cX7_nextToken 345 = .ok (.goto 6, 3) := by decide +kernel
theorem dX7_nextToken_348 : decode cX7_nextToken 348 = .ok (.ldc2_w 101, 3) := by decide +kernel
theorem dX7_nextToken_351 : decode cX7_nextToken 351 = .ok (.putfield 91, 3) := by decide +kernel
theorem dX7_nextToken_354 : decode cX7_nextToken 354 = .ok (.goto 40, 3) := by decide +kernel
theorem dX7_nextToken_357 : decode cX7_nextToken 357 = .ok (.aload_n 0, 1) := by decide +kernel
theorem dX7_nextToken_358 : decode cX7_nextToken 358 = .ok (.aload_n 0, 1) := by decide +kernel
theorem dX7_nextToken_359 : decode cX7_nextToken 359 = .ok (.getfield 23, 3) := by decide +kernel
theorem dX7_nextToken_362 : decode cX7_nextToken 362 = .ok (.aload_n 0, 1) := by decide +kernel
theorem dX7_nextToken_363 : decode cX7_nextToken 363 = .ok (.getfield 77, 3) := by decide +kernel
theorem dX7_nextToken_366 : decode cX7_nextToken 366 = .ok (.iaload, 1) := by decide +kernel
theorem dX7_nextToken_367 : decode cX7_nextToken 367 = .ok (.bipush 59, 2) := by decide +kernel
theorem dX7_nextToken_369 : decode cX7_nextToken 369 = .ok (.if_icmp .ne 9, 3) := by decide +kernel
theorem dX7_nextToken_372 : decode cX7_nextToken 372 = .ok (.ldc2_w 103, 3) := by decide +kernel
theorem dX7_nextToken_375 : decode cX7_nextToken 375 = .ok (.goto 6, 3) := by decide +kernel
theorem dX7_nextToken_378 : decode cX7_nextToken 378 = .ok (.ldc2_w 99, 3) := by decide +kernel
theorem dX7_nextToken_381 : decode cX7_nextToken 381 = .ok (.putfield 91, 3) := by decide +kernel
theorem dX7_nextToken_384 : decode cX7_nextToken 384 = .ok (.aload_n 0, 1) := by decide +kernel
theorem dX7_nextToken_385 : decode cX7_nextToken 385 = .ok (.dup, 1) := by decide +kernel
theorem dX7_nextToken_386 : decode cX7_nextToken 386 = .ok (.getfield 77, 3) := by decide +kernel
theorem dX7_nextToken_389 : decode cX7_nextToken 389 = .ok (.iconst 1, 1) := by decide +kernel
theorem dX7_nextToken_390 : decode cX7_nextToken 390 = .ok (.iadd, 1) := by decide +kernel
theorem dX7_nextToken_391 : decode cX7_nextToken 391 = .ok (.putfield 77, 3) := by decide +kernel
theorem dX7_nextToken_394 : decode cX7_nextToken 394 = .ok (.return_, 1) := by decide +kernel
theorem dX7_fails_0 : decode cX7_fails 0 = .ok (.aload_n 0, 1) := by decide +kernel
theorem dX7_fails_1 : decode cX7_fails 1 = .ok (.aload_n 0, 1) := by decide +kernel
theorem dX7_fails_2 : decode cX7_fails 2 = .ok (.getfield 80, 3) := by decide +kernel
theorem dX7_fails_5 : decode cX7_fails 5 = .ok (.putfield 105, 3) := by decide +kernel
theorem dX7_fails_8 : decode cX7_fails 8 = .ok (.iconst 0, 1) := by decide +kernel
theorem dX7_fails_9 : decode cX7_fails 9 = .ok (.ireturn, 1) := by decide +kernel
theorem dX7_isNumber_0 : decode cX7_isNumber 0 = .ok (.aload_n 0, 1) := by decide +kernel
theorem dX7_isNumber_1 : decode cX7_isNumber 1 = .ok (.invokevirtual 108, 3) := by decide +kernel
theorem dX7_isNumber_4 : decode cX7_isNumber 4 = .ok (.aload_n 0, 1) := by decide +kernel
theorem dX7_isNumber_5 : decode cX7_isNumber 5 = .ok (.getfield 91, 3) := by decide +kernel
theorem dX7_isNumber_8 : decode cX7_isNumber 8 = .ok (.ldc2_w 101, 3) := by decide +kernel
theorem dX7_isNumber_11 : decode cX7_isNumber 11 = .ok (.lcmp, 1) := by decide +kernel
theorem dX7_isNumber_12 : decode cX7_isNumber 12 = .ok (.ifCond .ne 15, 3) := by decide +kernel
theorem dX7_isNumber_15 : decode cX7_isNumber 15 = .ok (.aload_n 0, 1) := by decide +kernel
theorem dX7_isNumber_16 : decode cX7_isNumber 16 = .ok (.getfield 86, 3) := by decide +kernel
theorem dX7_isNumber_19 : decode cX7_isNumber 19 = .ok (.iload_n 2, 1) := by decide +kernel
theorem dX7_isNumber_20 : decode cX7_isNumber 20 = .ok (.iload_n 3, 1) := by decide +kernel
theorem dX7_isNumber_21 : decode cX7_isNumber 21 = .ok (.invokestatic 61, 3) := by decide +kernel
theorem dX7_isNumber_24 : decode cX7_isNumber 24 = .ok (.ifCond .ne 8, 3) := by decide +kernel
theorem dX7_isNumber_27 : decode cX7_isNumber 27 = .ok (.aload_n 0, 1) := by decide +kernel
theorem dX7_isNumber_28 : decode cX7_isNumber 28 = .ok (.invokevirtual 111, 3) := by decide +kernel
theorem dX7_isNumber_31 : decode cX7_isNumber 31 = .ok (.ireturn, 1) := by decide +kernel
theorem dX7_isNumber_32 : decode cX7_isNumber 32 = .ok (.aload_n 0, 1) := by decide +kernel
theorem dX7_isNumber_33 : decode cX7_isNumber 33 = .ok (.getfield 26, 3) := by decide +kernel
theorem dX7_isNumber_36 : decode cX7_isNumber 36 = .ok (.iload_n 1, 1) := by decide +kernel
theorem dX7_isNumber_37 : decode cX7_isNumber 37 = .ok (.aload_n 0, 1) := by decide +kernel
theorem dX7_isNumber_38 : decode cX7_isNumber 38 = .ok (.getfield 86, 3) := by decide +kernel
theorem dX7_isNumber_41 : decode cX7_isNumber 41 = .ok (.iastore, 1) := by decide +kernel
theorem dX7_isNumber_42 : decode cX7_isNumber 42 = .ok (.iconst 1, 1) := by decide +kernel
theorem dX7_isNumber_43 : decode cX7_isNumber 43 = .ok (.ireturn, 1) := by decide +kernel
theorem dX7_isKite_0 : decode cX7_isKite 0 = .ok (.aload_n 0, 1) := by decide +kernel
theorem dX7_isKite_1 : decode cX7_isKite 1 = .ok (.invokevirtual 108, 3) := by decide +kernel
theorem dX7_isKite_4 : decode cX7_isKite 4 = .ok (.aload_n 0, 1) := by decide +kernel
theorem dX7_isKite_5 : decode cX7_isKite 5 = .ok (.getfield 91, 3) := by decide +kernel
theorem dX7_isKite_8 : decode cX7_isKite 8 = .ok (.ldc2_w 115, 3) := by decide +kernel
theorem dX7_isKite_11 : decode cX7_isKite 11 = .ok (.lcmp, 1) := by decide +kernel
theorem dX7_isKite_12 : decode cX7_isKite 12 = .ok (.ifCond .ne 7, 3) := by decide +kernel
theorem dX7_isKite_15 : decode cX7_isKite 15 = .ok (.iconst 0, 1) := by decide +kernel
theorem dX7_isKite_16 : decode cX7_isKite 16 = .ok (.goto 64, 3) := by decide +kernel
theorem dX7_isKite_19 : decode cX7_isKite 19 = .ok (.aload_n 0, 1) := by decide +kernel
theorem dX7_isKite_20 : decode cX7_isKite 20 = .ok (.getfield 91, 3) := by decide +kernel
theorem dX7_isKite_23 : decode cX7_isKite 23 = .ok (.ldc2_w 117, 3) := by decide +kernel
theorem dX7_isKite_26 : decode cX7_isKite 26 = .ok (.lcmp, 1) := by decide +kernel
theorem dX7_isKite_27 : decode cX7_isKite 27 = .ok (.ifCond .ne 7, 3) := by decide +kernel
theorem dX7_isKite_30 : decode cX7_isKite 30 = .ok (.iconst 1, 1) := by decide +kernel
theorem dX7_isKite_31 : decode cX7_isKite 31 = .ok (.goto 49, 3) := by decide +kernel
theorem dX7_isKite_34 : decode cX7_isKite 34 = .ok (.aload_n 0, 1) := by decide +kernel
theorem dX7_isKite_35 : decode cX7_isKite 35 = .ok (.getfield 91, 3) := by decide +kernel
theorem dX7_isKite_38 : decode cX7_isKite 38 = .ok (.ldc2_w 119, 3) := by decide +kernel
theorem dX7_isKite_41 : decode cX7_isKite 41 = .ok (.lcmp, 1) := by decide +kernel
theorem dX7_isKite_42 : decode cX7_isKite 42 = .ok (.ifCond .ne 7, 3) := by decide +kernel
theorem dX7_isKite_45 : decode cX7_isKite 45 = .ok (.iconst 2, 1) := by decide +kernel
theorem dX7_isKite_46 : decode cX7_isKite 46 = .ok (.goto 34, 3) := by decide +kernel
theorem dX7_isKite_49 : decode cX7_isKite 49 = .ok (.aload_n 0, 1) := by decide +kernel
theorem dX7_isKite_50 : decode cX7_isKite 50 = .ok (.getfield 91, 3) := by decide +kernel
theorem dX7_isKite_53 : decode cX7_isKite 53 = .ok (.ldc2_w 121, 3) := by decide +kernel
theorem dX7_isKite_56 : decode cX7_isKite 56 = .ok (.lcmp, 1) := by decide +kernel
theorem dX7_isKite_57 : decode cX7_isKite 57 = .ok (.ifCond .ne 7, 3) := by decide +kernel
theorem dX7_isKite_60 : decode cX7_isKite 60 = .ok (.iconst 3, 1) := by decide +kernel
theorem dX7_isKite_61 : decode cX7_isKite 61 = .ok (.goto 19, 3) := by decide +kernel
theorem dX7_isKite_64 : decode cX7_isKite 64 = .ok (.aload_n 0, 1) := by decide +kernel
theorem dX7_isKite_65 : decode cX7_isKite 65 = .ok (.getfield 91, 3) := by decide +kernel
theorem dX7_isKite_68 : decode cX7_isKite 68 = .ok (.ldc2_w 123, 3) := by decide +kernel
theorem dX7_isKite_71 : decode cX7_isKite 71 = .ok (.lcmp, 1) := by decide +kernel
theorem dX7_isKite_72 : decode cX7_isKite 72 = .ok (.ifCond .ne 7, 3) := by decide +kernel
theorem dX7_isKite_75 : decode cX7_isKite 75 = .ok (.iconst 4, 1) := by decide +kernel
theorem dX7_isKite_76 : decode cX7_isKite 76 = .ok (.goto 4, 3) := by decide +kernel
theorem dX7_isKite_79 : decode cX7_isKite 79 = .ok (.iconst (-1), 1) := by decide +kernel
theorem dX7_isKite_80 : decode cX7_isKite 80 = .ok (.istore_n 2, 1) := by decide +kernel
theorem dX7_isKite_81 : decode cX7_isKite 81 = .ok (.iload_n 2, 1) := by decide +kernel
theorem dX7_isKite_82 : decode cX7_isKite 82 = .ok (.iconst (-1), 1) := by decide +kernel
theorem dX7_isKite_83 : decode cX7_isKite 83 = .ok (.if_icmp .ne 8, 3) := by decide +kernel
theorem dX7_isKite_86 : decode cX7_isKite 86 = .ok (.aload_n 0, 1) := by decide +kernel
theorem dX7_isKite_87 : decode cX7_isKite 87 = .ok (.invokevirtual 111, 3) := by decide +kernel
theorem dX7_isKite_90 : decode cX7_isKite 90 = .ok (.ireturn, 1) := by decide +kernel
theorem dX7_isKite_91 : decode cX7_isKite 91 = .ok (.aload_n 0, 1) := by decide +kernel
theorem dX7_isKite_92 : decode cX7_isKite 92 = .ok (.getfield 26, 3) := by decide +kernel
theorem dX7_isKite_95 : decode cX7_isKite 95 = .ok (.iload_n 1, 1) := by decide +kernel
theorem dX7_isKite_96 : decode cX7_isKite 96 = .ok (.iload_n 2, 1) := by decide +kernel
theorem dX7_isKite_97 : decode cX7_isKite 97 = .ok (.iastore, 1) := by decide +kernel
theorem dX7_isKite_98 : decode cX7_isKite 98 = .ok (.iconst 1, 1) := by decide +kernel
theorem dX7_isKite_99 : decode cX7_isKite 99 = .ok (.ireturn, 1) := by decide +kernel
theorem dX7_isReachLine_0 : decode cX7_isReachLine 0 = .ok (.aload_n 0, 1) := by decide +kernel
theorem dX7_isReachLine_1 : decode cX7_isReachLine 1 = .ok (.getfield 125, 3) := by decide +kernel
theorem dX7_isReachLine_4 : decode cX7_isReachLine 4 = .ok (.bipush 8, 2) := by decide +kernel
theorem dX7_isReachLine_6 : decode cX7_isReachLine 6 = .ok (.if_icmp .ne 8, 3) := by decide +kernel
theorem dX7_isReachLine_9 : decode cX7_isReachLine 9 = .ok (.aload_n 0, 1) := by decide +kernel
theorem dX7_isReachLine_10 : decode cX7_isReachLine 10 = .ok (.invokevirtual 111, 3) := by decide +kernel
theorem dX7_isReachLine_13 : decode cX7_isReachLine 13 = .ok (.ireturn, 1) := by decide +kernel
theorem dX7_isReachLine_14 : decode cX7_isReachLine 14 = .ok (.aload_n 0, 1) := by decide +kernel
theorem dX7_isReachLine_15 : decode cX7_isReachLine 15 = .ok (.dup, 1) := by decide +kernel
theorem dX7_isReachLine_16 : decode cX7_isReachLine 16 = .ok (.getfield 125, 3) := by decide +kernel
theorem dX7_isReachLine_19 : decode cX7_isReachLine 19 = .ok (.iconst 1, 1) := by decide +kernel
theorem dX7_isReachLine_20 : decode cX7_isReachLine 20 = .ok (.iadd, 1) := by decide +kernel
theorem dX7_isReachLine_21 : decode cX7_isReachLine 21 = .ok (.putfield 125, 3) := by decide +kernel
theorem dX7_isReachLine_24 : decode cX7_isReachLine 24 = .ok (.aload_n 0, 1) := by decide +kernel
theorem dX7_isReachLine_25 : decode cX7_isReachLine 25 = .ok (.iload_n 1, 1) := by decide +kernel
theorem dX7_isReachLine_26 : decode cX7_isReachLine 26 = .ok (.iconst 1, 1) := by decide +kernel
theorem dX7_isReachLine_27 : decode cX7_isReachLine 27 = .ok (.iadd, 1) := by decide +kernel
theorem dX7_isReachLine_28 : decode cX7_isReachLine 28 = .ok (.iconst 0, 1) := by decide +kernel
theorem dX7_isReachLine_29 : decode cX7_isReachLine 29 = .ok (.bipush 7, 2) := by decide +kernel
theorem dX7_isReachLine_31 : decode cX7_isReachLine 31 = .ok (.invokevirtual 128, 3) := by decide +kernel
theorem dX7_isReachLine_34 : decode cX7_isReachLine 34 = .ok (.ifCond .eq 20, 3) := by decide +kernel
theorem dX7_isReachLine_37 : decode cX7_isReachLine 37 = .ok (.aload_n 0, 1) := by decide +kernel
theorem dX7_isReachLine_38 : decode cX7_isReachLine 38 = .ok (.iload_n 1, 1) := by decide +kernel
theorem dX7_isReachLine_39 : decode cX7_isReachLine 39 = .ok (.iconst 2, 1) := by decide +kernel
theorem dX7_isReachLine_40 : decode cX7_isReachLine 40 = .ok (.iadd, 1) := by decide +kernel
theorem dX7_isReachLine_41 : decode cX7_isReachLine 41 = .ok (.iconst 1, 1) := by decide +kernel
theorem dX7_isReachLine_42 : decode cX7_isReachLine 42 = .ok (.bipush 20, 2) := by decide +kernel
theorem dX7_isReachLine_44 : decode cX7_isReachLine 44 = .ok (.invokevirtual 128, 3) := by decide +kernel
theorem dX7_isReachLine_47 : decode cX7_isReachLine 47 = .ok (.ifCond .eq 7, 3) := by decide +kernel
theorem dX7_isReachLine_50 : decode cX7_isReachLine 50 = .ok (.iconst 1, 1) := by decide +kernel
theorem dX7_isReachLine_51 : decode cX7_isReachLine 51 = .ok (.goto 4, 3) := by decide +kernel
theorem dX7_isReachLine_54 : decode cX7_isReachLine 54 = .ok (.iconst 0, 1) := by decide +kernel
theorem dX7_isReachLine_55 : decode cX7_isReachLine 55 = .ok (.ireturn, 1) := by decide +kernel
theorem dX7_isWind_0 : decode cX7_isWind 0 = .ok (.aload_n 0, 1) := by decide +kernel
theorem dX7_isWind_1 : decode cX7_isWind 1 = .ok (.iload_n 1, 1) := by decide +kernel
theorem dX7_isWind_2 : decode cX7_isWind 2 = .ok (.iconst 1, 1) := by decide +kernel
theorem dX7_isWind_3 : decode cX7_isWind 3 = .ok (.iadd, 1) := by decide +kernel
theorem dX7_isWind_4 : decode cX7_isWind 4 = .ok (.iconst 0, 1) := by decide +kernel
theorem dX7_isWind_5 : decode cX7_isWind 5 = .ok (.iconst 5, 1) := by decide +kernel
theorem dX7_isWind_6 : decode cX7_isWind 6 = .ok (.invokevirtual 128, 3) := by decide +kernel
theorem dX7_isWind_9 : decode cX7_isWind 9 = .ok (.ifCond .eq 66, 3) := by decide +kernel
theorem dX7_isWind_12 : decode cX7_isWind 12 = .ok (.aload_n 0, 1) := by decide +kernel
theorem dX7_isWind_13 : decode cX7_isWind 13 = .ok (.iload_n 1, 1) := by decide +kernel
theorem dX7_isWind_14 : decode cX7_isWind 14 = .ok (.iconst 2, 1) := by decide +kernel
theorem dX7_isWind_15 : decode cX7_isWind 15 = .ok (.iadd, 1) := by decide +kernel
theorem dX7_isWind_16 : decode cX7_isWind 16 = .ok (.iconst 0, 1) := by decide +kernel
theorem dX7_isWind_17 : decode cX7_isWind 17 = .ok (.bipush 23, 2) := by decide +kernel
theorem dX7_isWind_19 : decode cX7_isWind 19 = .ok (.invokevirtual 128, 3) := by decide +kernel
theorem dX7_isWind_22 : decode cX7_isWind 22 = .ok (.ifCond .eq 53, 3) := by decide +kernel
theorem dX7_isWind_25 : decode cX7_isWind 25 = .ok (.aload_n 0, 1) := by decide +kernel
theorem dX7_isWind_26 : decode cX7_isWind 26 = .ok (.iload_n 1, 1) := by decide +kernel
theorem dX7_isWind_27 : decode cX7_isWind 27 = .ok (.iconst 3, 1) := by decide +kernel
theorem dX7_isWind_28 : decode cX7_isWind 28 = .ok (.iadd, 1) := by decide +kernel
theorem dX7_isWind_29 : decode cX7_isWind 29 = .ok (.aload_n 0, 1) := by decide +kernel
theorem dX7_isWind_30 : decode cX7_isWind 30 = .ok (.getfield 26, 3) := by decide +kernel
theorem dX7_isWind_33 : decode cX7_isWind 33 = .ok (.iload_n 1, 1) := by decide +kernel
theorem dX7_isWind_34 : decode cX7_isWind 34 = .ok (.iconst 2, 1) := by decide +kernel
theorem dX7_isWind_35 : decode cX7_isWind 35 = .ok (.iadd, 1) := by decide +kernel
theorem dX7_isWind_36 : decode cX7_isWind 36 = .ok (.iaload, 1) := by decide +kernel
theorem dX7_isWind_37 : decode cX7_isWind 37 = .ok (.bipush 23, 2) := by decide +kernel
theorem dX7_isWind_39 : decode cX7_isWind 39 = .ok (.invokevirtual 128, 3) := by decide +kernel
theorem dX7_isWind_42 : decode cX7_isWind 42 = .ok (.ifCond .eq 33, 3) := by decide +kernel
theorem dX7_isWind_45 : decode cX7_isWind 45 = .ok (.aload_n 0, 1) := by decide +kernel
theorem dX7_isWind_46 : decode cX7_isWind 46 = .ok (.iload_n 1, 1) := by decide +kernel
theorem dX7_isWind_47 : decode cX7_isWind 47 = .ok (.iconst 4, 1) := by decide +kernel
theorem dX7_isWind_48 : decode cX7_isWind 48 = .ok (.iadd, 1) := by decide +kernel
theorem dX7_isWind_49 : decode cX7_isWind 49 = .ok (.iconst 0, 1) := by decide +kernel
theorem dX7_isWind_50 : decode cX7_isWind 50 = .ok (.bipush 7, 2) := by decide +kernel
theorem dX7_isWind_52 : decode cX7_isWind 52 = .ok (.invokevirtual 128, 3) := by decide +kernel
theorem dX7_isWind_55 : decode cX7_isWind 55 = .ok (.ifCond .eq 20, 3) := by decide +kernel
theorem dX7_isWind_58 : decode cX7_isWind 58 = .ok (.aload_n 0, 1) := by decide +kernel
theorem dX7_isWind_59 : decode cX7_isWind 59 = .ok (.iload_n 1, 1) := by decide +kernel
theorem dX7_isWind_60 : decode cX7_isWind 60 = .ok (.iconst 5, 1) := by decide +kernel
theorem dX7_isWind_61 : decode cX7_isWind 61 = .ok (.iadd, 1) := by decide +kernel
theorem dX7_isWind_62 : decode cX7_isWind 62 = .ok (.iconst 0, 1) := by decide +kernel
theorem dX7_isWind_63 : decode cX7_isWind 63 = .ok (.bipush 9, 2) := by decide +kernel
theorem dX7_isWind_65 : decode cX7_isWind 65 = .ok (.invokevirtual 128, 3) := by decide +kernel
theorem dX7_isWind_68 : decode cX7_isWind 68 = .ok (.ifCond .eq 7, 3) := by decide +kernel
theorem dX7_isWind_71 : decode cX7_isWind 71 = .ok (.iconst 1, 1) := by decide +kernel
theorem dX7_isWind_72 : decode cX7_isWind 72 = .ok (.goto 4, 3) := by decide +kernel
theorem dX7_isWind_75 : decode cX7_isWind 75 = .ok (.iconst 0, 1) := by decide +kernel
theorem dX7_isWind_76 : decode cX7_isWind 76 = .ok (.ireturn, 1) := by decide +kernel
theorem dX7_isLine_0 : decode cX7_isLine 0 = .ok (.aload_n 0, 1) := by decide +kernel
theorem dX7_isLine_1 : decode cX7_isLine 1 = .ok (.invokevirtual 108, 3) := by decide +kernel
theorem dX7_isLine_4 : decode cX7_isLine 4 = .ok (.aload_n 0, 1) := by decide +kernel
theorem dX7_isLine_5 : decode cX7_isLine 5 = .ok (.getfield 91, 3) := by decide +kernel
theorem dX7_isLine_8 : decode cX7_isLine 8 = .ok (.ldc2_w 131, 3) := by decide +kernel
theorem dX7_isLine_11 : decode cX7_isLine 11 = .ok (.lcmp, 1) := by decide +kernel
theorem dX7_isLine_12 : decode cX7_isLine 12 = .ok (.ifCond .ne 7, 3) := by decide +kernel
theorem dX7_isLine_15 : decode cX7_isLine 15 = .ok (.iconst 0, 1) := by decide +kernel
theorem dX7_isLine_16 : decode cX7_isLine 16 = .ok (.goto 49, 3) := by decide +kernel
theorem dX7_isLine_19 : decode cX7_isLine 19 = .ok (.aload_n 0, 1) := by decide +kernel
theorem dX7_isLine_20 : decode cX7_isLine 20 = .ok (.getfield 91, 3) := by decide +kernel
theorem dX7_isLine_23 : decode cX7_isLine 23 = .ok (.ldc2_w 133, 3) := by decide +kernel
theorem dX7_isLine_26 : decode cX7_isLine 26 = .ok (.lcmp, 1) := by decide +kernel
theorem dX7_isLine_27 : decode cX7_isLine 27 = .ok (.ifCond .ne 7, 3) := by decide +kernel
theorem dX7_isLine_30 : decode cX7_isLine 30 = .ok (.iconst 1, 1) := by decide +kernel
theorem dX7_isLine_31 : decode cX7_isLine 31 = .ok (.goto 34, 3) := by decide +kernel
theorem dX7_isLine_34 : decode cX7_isLine 34 = .ok (.aload_n 0, 1) := by decide +kernel
theorem dX7_isLine_35 : decode cX7_isLine 35 = .ok (.getfield 91, 3) := by decide +kernel
theorem dX7_isLine_38 : decode cX7_isLine 38 = .ok (.ldc2_w 135, 3) := by decide +kernel
theorem dX7_isLine_41 : decode cX7_isLine 41 = .ok (.lcmp, 1) := by decide +kernel
theorem dX7_isLine_42 : decode cX7_isLine 42 = .ok (.ifCond .ne 7, 3) := by decide +kernel
theorem dX7_isLine_45 : decode cX7_isLine 45 = .ok (.iconst 2, 1) := by decide +kernel
theorem dX7_isLine_46 : decode cX7_isLine 46 = .ok (.goto 19, 3) := by decide +kernel
theorem dX7_isLine_49 : decode cX7_isLine 49 = .ok (.aload_n 0, 1) := by decide +kernel
theorem dX7_isLine_50 : decode cX7_isLine 50 = .ok (.getfield 91, 3) := by decide +kernel
theorem dX7_isLine_53 : decode cX7_isLine 53 = .ok (.ldc2_w 137, 3) := by decide +kernel
theorem dX7_isLine_56 : decode cX7_isLine 56 = .ok (.lcmp, 1) := by decide +kernel
theorem dX7_isLine_57 : decode cX7_isLine 57 = .ok (.ifCond .ne 7, 3) := by decide +kernel
theorem dX7_isLine_60 : decode cX7_isLine 60 = .ok (.iconst 3, 1) := by decide +kernel
theorem dX7_isLine_61 : decode cX7_isLine 61 = .ok (.goto 4, 3) := by decide +kernel
theorem dX7_isLine_64 : decode cX7_isLine 64 = .ok (.iconst (-1), 1) := by decide +kernel
theorem dX7_isLine_65 : decode cX7_isLine 65 = .ok (.istore_n 2, 1) := by decide +kernel
theorem dX7_isLine_66 : decode cX7_isLine 66 = .ok (.aload_n 0, 1) := by decide +kernel
theorem dX7_isLine_67 : decode cX7_isLine 67 = .ok (.getfield 91, 3) := by decide +kernel
theorem dX7_isLine_70 : decode cX7_isLine 70 = .ok (.ldc2_w 139, 3) := by decide +kernel
theorem dX7_isLine_73 : decode cX7_isLine 73 = .ok (.lcmp, 1) := by decide +kernel
theorem dX7_isLine_74 : decode cX7_isLine 74 = .ok (.ifCond .ne 7, 3) := by decide +kernel
theorem dX7_isLine_77 : decode cX7_isLine 77 = .ok (.iconst 4, 1) := by decide +kernel
theorem dX7_isLine_78 : decode cX7_isLine 78 = .ok (.goto 51, 3) := by decide +kernel
theorem dX7_isLine_81 : decode cX7_isLine 81 = .ok (.aload_n 0, 1) := by decide +kernel
theorem dX7_isLine_82 : decode cX7_isLine 82 = .ok (.getfield 91, 3) := by decide +kernel
theorem dX7_isLine_85 : decode cX7_isLine 85 = .ok (.ldc2_w 141, 3) := by decide +kernel
theorem dX7_isLine_88 : decode cX7_isLine 88 = .ok (.lcmp, 1) := by decide +kernel
theorem dX7_isLine_89 : decode cX7_isLine 89 = .ok (.ifCond .ne 7, 3) := by decide +kernel
theorem dX7_isLine_92 : decode cX7_isLine 92 = .ok (.iconst 5, 1) := by decide +kernel
theorem dX7_isLine_93 : decode cX7_isLine 93 = .ok (.goto 36, 3) := by decide +kernel
theorem dX7_isLine_96 : decode cX7_isLine 96 = .ok (.aload_n 0, 1) := by decide +kernel
theorem dX7_isLine_97 : decode cX7_isLine 97 = .ok (.getfield 91, 3) := by decide +kernel
theorem dX7_isLine_100 : decode cX7_isLine 100 = .ok (.ldc2_w 143, 3) := by decide +kernel
theorem dX7_isLine_103 : decode cX7_isLine 103 = .ok (.lcmp, 1) := by decide +kernel
theorem dX7_isLine_104 : decode cX7_isLine 104 = .ok (.ifCond .ne 8, 3) := by decide +kernel
theorem dX7_isLine_107 : decode cX7_isLine 107 = .ok (.bipush 6, 2) := by decide +kernel
theorem dX7_isLine_109 : decode cX7_isLine 109 = .ok (.goto 20, 3) := by decide +kernel
theorem dX7_isLine_112 : decode cX7_isLine 112 = .ok (.aload_n 0, 1) := by decide +kernel
theorem dX7_isLine_113 : decode cX7_isLine 113 = .ok (.getfield 91, 3) := by decide +kernel
theorem dX7_isLine_116 : decode cX7_isLine 116 = .ok (.ldc2_w 145, 3) := by decide +kernel
theorem dX7_isLine_119 : decode cX7_isLine 119 = .ok (.lcmp, 1) := by decide +kernel
theorem dX7_isLine_120 : decode cX7_isLine 120 = .ok (.ifCond .ne 8, 3) := by decide +kernel
theorem dX7_isLine_123 : decode cX7_isLine 123 = .ok (.bipush 7, 2) := by decide +kernel
theorem dX7_isLine_125 : decode cX7_isLine 125 = .ok (.goto 4, 3) := by decide +kernel
theorem dX7_isLine_128 : decode cX7_isLine 128 = .ok (.iconst (-1), 1) := by decide +kernel
theorem dX7_isLine_129 : decode cX7_isLine 129 = .ok (.istore_n 3, 1) := by decide +kernel
theorem dX7_isLine_130 : decode cX7_isLine 130 = .ok (.aload_n 0, 1) := by decide +kernel
theorem dX7_isLine_131 : decode cX7_isLine 131 = .ok (.getfield 26, 3) := by decide +kernel
theorem dX7_isLine_134 : decode cX7_isLine 134 = .ok (.iload_n 1, 1) := by decide +kernel
theorem dX7_isLine_135 : decode cX7_isLine 135 = .ok (.iload_n 2, 1) := by decide +kernel
theorem dX7_isLine_136 : decode cX7_isLine 136 = .ok (.iconst (-1), 1) := by decide +kernel
theorem dX7_isLine_137 : decode cX7_isLine 137 = .ok (.if_icmp .ne 7, 3) := by decide +kernel
theorem dX7_isLine_140 : decode cX7_isLine 140 = .ok (.iload_n 3, 1) := by decide +kernel
theorem dX7_isLine_141 : decode cX7_isLine 141 = .ok (.goto 4, 3) := by decide +kernel
theorem dX7_isLine_144 : decode cX7_isLine 144 = .ok (.iload_n 2, 1) := by decide +kernel
theorem dX7_isLine_145 : decode cX7_isLine 145 = .ok (.iastore, 1) := by decide +kernel
theorem dX7_isLine_146 : decode cX7_isLine 146 = .ok (.aload_n 0, 1) := by decide +kernel
theorem dX7_isLine_147 : decode cX7_isLine 147 = .ok (.getfield 26, 3) := by decide +kernel
theorem dX7_isLine_150 : decode cX7_isLine 150 = .ok (.iload_n 1, 1) := by decide +kernel
theorem dX7_isLine_151 : decode cX7_isLine 151 = .ok (.iaload, 1) := by decide +kernel
theorem dX7_isLine_152 : decode cX7_isLine 152 = .ok (.tableswitch 154 0 7 #[48, 48, 48, 54, 61, 67, 133, 143], 48) := by decide +kernel
theorem dX7_isLine_200 : decode cX7_isLine 200 = .ok (.aload_n 0, 1) := by decide +kernel
theorem dX7_isLine_201 : decode cX7_isLine 201 = .ok (.iload_n 1, 1) := by decide +kernel
theorem dX7_isLine_202 : decode cX7_isLine 202 = .ok (.invokevirtual 147, 3) := by decide +kernel
theorem dX7_isLine_205 : decode cX7_isLine 205 = .ok (.ireturn, 1) := by decide +kernel
theorem dX7_isLine_206 : decode cX7_isLine 206 = .ok (.aload_n 0, 1) := by decide +kernel
theorem dX7_isLine_207 : decode cX7_isLine 207 = .ok (.iconst 0, 1) := by decide +kernel
theorem dX7_isLine_208 : decode cX7_isLine 208 = .ok (.putfield 125, 3) := by decide +kernel
theorem dX7_isLine_211 : decode cX7_isLine 211 = .ok (.iconst 1, 1) := by decide +kernel
theorem dX7_isLine_212 : decode cX7_isLine 212 = .ok (.ireturn, 1) := by decide +kernel
theorem dX7_isLine_213 : decode cX7_isLine 213 = .ok (.aload_n 0, 1) := by decide +kernel
theorem dX7_isLine_214 : decode cX7_isLine 214 = .ok (.iload_n 1, 1) := by decide +kernel
theorem dX7_isLine_215 : decode cX7_isLine 215 = .ok (.invokevirtual 151, 3) := by decide +kernel
theorem dX7_isLine_218 : decode cX7_isLine 218 = .ok (.ireturn, 1) := by decide +kernel
theorem dX7_isLine_219 : decode cX7_isLine 219 = .ok (.aload_n 0, 1) := by decide +kernel
theorem dX7_isLine_220 : decode cX7_isLine 220 = .ok (.iload_n 1, 1) := by decide +kernel
theorem dX7_isLine_221 : decode cX7_isLine 221 = .ok (.iconst 1, 1) := by decide +kernel
theorem dX7_isLine_222 : decode cX7_isLine 222 = .ok (.iadd, 1) := by decide +kernel
theorem dX7_isLine_223 : decode cX7_isLine 223 = .ok (.iconst 0, 1) := by decide +kernel
theorem dX7_isLine_224 : decode cX7_isLine 224 = .ok (.iconst 3, 1) := by decide +kernel
theorem dX7_isLine_225 : decode cX7_isLine 225 = .ok (.invokevirtual 128, 3) := by decide +kernel
theorem dX7_isLine_228 : decode cX7_isLine 228 = .ok (.ifCond .eq 55, 3) := by decide +kernel
theorem dX7_isLine_231 : decode cX7_isLine 231 = .ok (.aload_n 0, 1) := by decide +kernel
theorem dX7_isLine_232 : decode cX7_isLine 232 = .ok (.iload_n 1, 1) := by decide +kernel
theorem dX7_isLine_233 : decode cX7_isLine 233 = .ok (.iconst 2, 1) := by decide +kernel
theorem dX7_isLine_234 : decode cX7_isLine 234 = .ok (.iadd, 1) := by decide +kernel
theorem dX7_isLine_235 : decode cX7_isLine 235 = .ok (.iconst 1, 1) := by decide +kernel
theorem dX7_isLine_236 : decode cX7_isLine 236 = .ok (.bipush 60, 2) := by decide +kernel
theorem dX7_isLine_238 : decode cX7_isLine 238 = .ok (.invokevirtual 128, 3) := by decide +kernel
theorem dX7_isLine_241 : decode cX7_isLine 241 = .ok (.ifCond .eq 42, 3) := by decide +kernel
theorem dX7_isLine_244 : decode cX7_isLine 244 = .ok (.aload_n 0, 1) := by decide +kernel
theorem dX7_isLine_245 : decode cX7_isLine 245 = .ok (.iload_n 1, 1) := by decide +kernel
theorem dX7_isLine_246 : decode cX7_isLine 246 = .ok (.iconst 3, 1) := by decide +kernel
theorem dX7_isLine_247 : decode cX7_isLine 247 = .ok (.iadd, 1) := by decide +kernel
theorem dX7_isLine_248 : decode cX7_isLine 248 = .ok (.iconst 1, 1) := by decide +kernel
theorem dX7_isLine_249 : decode cX7_isLine 249 = .ok (.iconst 5, 1) := by decide +kernel
theorem dX7_isLine_250 : decode cX7_isLine 250 = .ok (.invokevirtual 128, 3) := by decide +kernel
theorem dX7_isLine_253 : decode cX7_isLine 253 = .ok (.ifCond .eq 30, 3) := by decide +kernel
theorem dX7_isLine_256 : decode cX7_isLine 256 = .ok (.aload_n 0, 1) := by decide +kernel
theorem dX7_isLine_257 : decode cX7_isLine 257 = .ok (.iload_n 1, 1) := by decide +kernel
theorem dX7_isLine_258 : decode cX7_isLine 258 = .ok (.iconst 4, 1) := by decide +kernel
theorem dX7_isLine_259 : decode cX7_isLine 259 = .ok (.iadd, 1) := by decide +kernel
theorem dX7_isLine_260 : decode cX7_isLine 260 = .ok (.invokevirtual 154, 3) := by decide +kernel
theorem dX7_isLine_263 : decode cX7_isLine 263 = .ok (.ifCond .eq 20, 3) := by decide +kernel
theorem dX7_isLine_266 : decode cX7_isLine 266 = .ok (.aload_n 0, 1) := by decide +kernel
theorem dX7_isLine_267 : decode cX7_isLine 267 = .ok (.iload_n 1, 1) := by decide +kernel
theorem dX7_isLine_268 : decode cX7_isLine 268 = .ok (.iconst 5, 1) := by decide +kernel
theorem dX7_isLine_269 : decode cX7_isLine 269 = .ok (.iadd, 1) := by decide +kernel
theorem dX7_isLine_270 : decode cX7_isLine 270 = .ok (.iconst 0, 1) := by decide +kernel
theorem dX7_isLine_271 : decode cX7_isLine 271 = .ok (.bipush 99, 2) := by decide +kernel
theorem dX7_isLine_273 : decode cX7_isLine 273 = .ok (.invokevirtual 128, 3) := by decide +kernel
theorem dX7_isLine_276 : decode cX7_isLine 276 = .ok (.ifCond .eq 7, 3) := by decide +kernel
theorem dX7_isLine_279 : decode cX7_isLine 279 = .ok (.iconst 1, 1) := by decide +kernel
theorem dX7_isLine_280 : decode cX7_isLine 280 = .ok (.goto 4, 3) := by decide +kernel
theorem dX7_isLine_283 : decode cX7_isLine 283 = .ok (.iconst 0, 1) := by decide +kernel
theorem dX7_isLine_284 : decode cX7_isLine 284 = .ok (.ireturn, 1) := by decide +kernel
theorem dX7_isLine_285 : decode cX7_isLine 285 = .ok (.aload_n 0, 1) := by decide +kernel
theorem dX7_isLine_286 : decode cX7_isLine 286 = .ok (.iload_n 1, 1) := by decide +kernel
theorem dX7_isLine_287 : decode cX7_isLine 287 = .ok (.iconst 1, 1) := by decide +kernel
theorem dX7_isLine_288 : decode cX7_isLine 288 = .ok (.iadd, 1) := by decide +kernel
theorem dX7_isLine_289 : decode cX7_isLine 289 = .ok (.iconst 0, 1) := by decide +kernel
theorem dX7_isLine_290 : decode cX7_isLine 290 = .ok (.iconst 3, 1) := by decide +kernel
theorem dX7_isLine_291 : decode cX7_isLine 291 = .ok (.invokevirtual 128, 3) := by decide +kernel
theorem dX7_isLine_294 : decode cX7_isLine 294 = .ok (.ireturn, 1) := by decide +kernel
theorem dX7_isLine_295 : decode cX7_isLine 295 = .ok (.aload_n 0, 1) := by decide +kernel
theorem dX7_isLine_296 : decode cX7_isLine 296 = .ok (.iload_n 1, 1) := by decide +kernel
theorem dX7_isLine_297 : decode cX7_isLine 297 = .ok (.iconst 1, 1) := by decide +kernel
theorem dX7_isLine_298 : decode cX7_isLine 298 = .ok (.iadd, 1) := by decide +kernel
theorem dX7_isLine_299 : decode cX7_isLine 299 = .ok (.iconst 0, 1) := by decide +kernel
theorem dX7_isLine_300 : decode cX7_isLine 300 = .ok (.bipush 9, 2) := by decide +kernel
theorem dX7_isLine_302 : decode cX7_isLine 302 = .ok (.invokevirtual 128, 3) := by decide +kernel
theorem dX7_isLine_305 : decode cX7_isLine 305 = .ok (.ireturn, 1) := by decide +kernel
theorem dX7_isLine_306 : decode cX7_isLine 306 = .ok (.aload_n 0, 1) := by decide +kernel
theorem dX7_isLine_307 : decode cX7_isLine 307 = .ok (.invokevirtual 111, 3) := by decide +kernel
theorem dX7_isLine_310 : decode cX7_isLine 310 = .ok (.ireturn, 1) := by decide +kernel
theorem dX7_isRead_0 : decode cX7_isRead 0 = .ok (.aload_n 0, 1) := by decide +kernel
theorem dX7_isRead_1 : decode cX7_isRead 1 = .ok (.iconst 0, 1) := by decide +kernel
theorem dX7_isRead_2 : decode cX7_isRead 2 = .ok (.putfield 77, 3) := by decide +kernel
theorem dX7_isRead_5 : decode cX7_isRead 5 = .ok (.aload_n 0, 1) := by decide +kernel
theorem dX7_isRead_6 : decode cX7_isRead 6 = .ok (.iconst 0, 1) := by decide +kernel
theorem dX7_isRead_7 : decode cX7_isRead 7 = .ok (.putfield 157, 3) := by decide +kernel
theorem dX7_isRead_10 : decode cX7_isRead 10 = .ok (.aload_n 0, 1) := by decide +kernel
theorem dX7_isRead_11 : decode cX7_isRead 11 = .ok (.aload_n 0, 1) := by decide +kernel
theorem dX7_isRead_12 : decode cX7_isRead 12 = .ok (.getfield 160, 3) := by decide +kernel
theorem dX7_isRead_15 : decode cX7_isRead 15 = .ok (.putfield 125, 3) := by decide +kernel
theorem dX7_isRead_18 : decode cX7_isRead 18 = .ok (.iconst 1, 1) := by decide +kernel
theorem dX7_isRead_19 : decode cX7_isRead 19 = .ok (.istore_n 1, 1) := by decide +kernel
theorem dX7_isRead_20 : decode cX7_isRead 20 = .ok (.iload_n 1, 1) := by decide +kernel
theorem dX7_isRead_21 : decode cX7_isRead 21 = .ok (.ifCond .eq 62, 3) := by decide +kernel
theorem dX7_isRead_24 : decode cX7_isRead 24 = .ok (.aload_n 0, 1) := by decide +kernel
theorem dX7_isRead_25 : decode cX7_isRead 25 = .ok (.bipush 6, 2) := by decide +kernel
theorem dX7_isRead_27 : decode cX7_isRead 27 = .ok (.aload_n 0, 1) := by decide +kernel
theorem dX7_isRead_28 : decode cX7_isRead 28 = .ok (.getfield 157, 3) := by decide +kernel
theorem dX7_isRead_31 : decode cX7_isRead 31 = .ok (.imul, 1) := by decide +kernel
theorem dX7_isRead_32 : decode cX7_isRead 32 = .ok (.invokevirtual 163, 3) := by decide +kernel
theorem dX7_isRead_35 : decode cX7_isRead 35 = .ok (.ifCond .ne 5, 3) := by decide +kernel
theorem dX7_isRead_38 : decode cX7_isRead 38 = .ok (.iconst 0, 1) := by decide +kernel
theorem dX7_isRead_39 : decode cX7_isRead 39 = .ok (.ireturn, 1) := by decide +kernel
theorem dX7_isRead_40 : decode cX7_isRead 40 = .ok (.aload_n 0, 1) := by decide +kernel
theorem dX7_isRead_41 : decode cX7_isRead 41 = .ok (.dup, 1) := by decide +kernel
theorem dX7_isRead_42 : decode cX7_isRead 42 = .ok (.getfield 157, 3) := by decide +kernel
theorem dX7_isRead_45 : decode cX7_isRead 45 = .ok (.iconst 1, 1) := by decide +kernel
theorem dX7_isRead_46 : decode cX7_isRead 46 = .ok (.iadd, 1) := by decide +kernel
theorem dX7_isRead_47 : decode cX7_isRead 47 = .ok (.putfield 157, 3) := by decide +kernel
theorem dX7_isRead_50 : decode cX7_isRead 50 = .ok (.aload_n 0, 1) := by decide +kernel
theorem dX7_isRead_51 : decode cX7_isRead 51 = .ok (.invokevirtual 108, 3) := by decide +kernel
theorem dX7_isRead_54 : decode cX7_isRead 54 = .ok (.aload_n 0, 1) := by decide +kernel
theorem dX7_isRead_55 : decode cX7_isRead 55 = .ok (.getfield 91, 3) := by decide +kernel
theorem dX7_isRead_58 : decode cX7_isRead 58 = .ok (.ldc2_w 103, 3) := by decide +kernel
theorem dX7_isRead_61 : decode cX7_isRead 61 = .ok (.lcmp, 1) := by decide +kernel
theorem dX7_isRead_62 : decode cX7_isRead 62 = .ok (.ifCond .ne 16, 3) := by decide +kernel
theorem dX7_isRead_65 : decode cX7_isRead 65 = .ok (.aload_n 0, 1) := by decide +kernel
theorem dX7_isRead_66 : decode cX7_isRead 66 = .ok (.getfield 157, 3) := by decide +kernel
theorem dX7_isRead_69 : decode cX7_isRead 69 = .ok (.bipush 8, 2) := by decide +kernel
theorem dX7_isRead_71 : decode cX7_isRead 71 = .ok (.if_icmp .ge 7, 3) := by decide +kernel
theorem dX7_isRead_74 : decode cX7_isRead 74 = .ok (.iconst 1, 1) := by decide +kernel
theorem dX7_isRead_75 : decode cX7_isRead 75 = .ok (.goto 4, 3) := by decide +kernel
theorem dX7_isRead_78 : decode cX7_isRead 78 = .ok (.iconst 0, 1) := by decide +kernel
theorem dX7_isRead_79 : decode cX7_isRead 79 = .ok (.istore_n 1, 1) := by decide +kernel
theorem dX7_isRead_80 : decode cX7_isRead 80 = .ok (.goto (-60), 3) := by decide +kernel
theorem dX7_isRead_83 : decode cX7_isRead 83 = .ok (.aload_n 0, 1) := by decide +kernel
theorem dX7_isRead_84 : decode cX7_isRead 84 = .ok (.getfield 91, 3) := by decide +kernel
theorem dX7_isRead_87 : decode cX7_isRead 87 = .ok (.ldc2_w 89, 3) := by decide +kernel
theorem dX7_isRead_90 : decode cX7_isRead 90 = .ok (.lcmp, 1) := by decide +kernel
theorem dX7_isRead_91 : decode cX7_isRead 91 = .ok (.ifCond .eq 10, 3) := by decide +kernel
theorem dX7_isRead_94 : decode cX7_isRead 94 = .ok (.aload_n 0, 1) := by decide +kernel
theorem dX7_isRead_95 : decode cX7_isRead 95 = .ok (.invokevirtual 111, 3) := by decide +kernel
theorem dX7_isRead_98 : decode cX7_isRead 98 = .ok (.ifCond .eq 7, 3) := by decide +kernel
theorem dX7_isRead_101 : decode cX7_isRead 101 = .ok (.iconst 1, 1) := by decide +kernel
theorem dX7_isRead_102 : decode cX7_isRead 102 = .ok (.goto 4, 3) := by decide +kernel
theorem dX7_isRead_105 : decode cX7_isRead 105 = .ok (.iconst 0, 1) := by decide +kernel
theorem dX7_isRead_106 : decode cX7_isRead 106 = .ok (.ireturn, 1) := by decide +kernel
theorem dX7_fault_0 : decode cX7_fault 0 = .ok (.aload_n 0, 1) := by decide +kernel
theorem dX7_fault_1 : decode cX7_fault 1 = .ok (.invokevirtual 166, 3) := by decide +kernel
theorem dX7_fault_4 : decode cX7_fault 4 = .ok (.ifCond .eq 7, 3) := by decide +kernel
theorem dX7_fault_7 : decode cX7_fault 7 = .ok (.iconst (-1), 1) := by decide +kernel
theorem dX7_fault_8 : decode cX7_fault 8 = .ok (.goto 7, 3) := by decide +kernel
theorem dX7_fault_11 : decode cX7_fault 11 = .ok (.aload_n 0, 1) := by decide +kernel
theorem dX7_fault_12 : decode cX7_fault 12 = .ok (.getfield 105, 3) := by decide +kernel
theorem dX7_fault_15 : decode cX7_fault 15 = .ok (.ireturn, 1) := by decide +kernel
theorem dX7_doLine_0 : decode cX7_doLine 0 = .ok (.aload_n 0, 1) := by decide +kernel
theorem dX7_doLine_1 : decode cX7_doLine 1 = .ok (.getfield 26, 3) := by decide +kernel
theorem dX7_doLine_4 : decode cX7_doLine 4 = .ok (.iload_n 1, 1) := by decide +kernel
theorem dX7_doLine_5 : decode cX7_doLine 5 = .ok (.iconst 1, 1) := by decide +kernel
theorem dX7_doLine_6 : decode cX7_doLine 6 = .ok (.iadd, 1) := by decide +kernel
theorem dX7_doLine_7 : decode cX7_doLine 7 = .ok (.iaload, 1) := by decide +kernel
theorem dX7_doLine_8 : decode cX7_doLine 8 = .ok (.istore_n 2, 1) := by decide +kernel
theorem dX7_doLine_9 : decode cX7_doLine 9 = .ok (.aload_n 0, 1) := by decide +kernel
theorem dX7_doLine_10 : decode cX7_doLine 10 = .ok (.getfield 26, 3) := by decide +kernel
theorem dX7_doLine_13 : decode cX7_doLine 13 = .ok (.iload_n 1, 1) := by decide +kernel
theorem dX7_doLine_14 : decode cX7_doLine 14 = .ok (.iaload, 1) := by decide +kernel
theorem dX7_doLine_15 : decode cX7_doLine 15 = .ok (.tableswitch 188 3 7 #[33, 41, 115, 163, 180], 33) := by decide +kernel
theorem dX7_doLine_48 : decode cX7_doLine 48 = .ok (.aload_n 0, 1) := by decide +kernel
theorem dX7_doLine_49 : decode cX7_doLine 49 = .ok (.iconst 0, 1) := by decide +kernel
theorem dX7_doLine_50 : decode cX7_doLine 50 = .ok (.putfield 160, 3) := by decide +kernel
theorem dX7_doLine_53 : decode cX7_doLine 53 = .ok (.goto 212, 3) := by decide +kernel
theorem dX7_doLine_56 : decode cX7_doLine 56 = .ok (.aload_n 0, 1) := by decide +kernel
theorem dX7_doLine_57 : decode cX7_doLine 57 = .ok (.getfield 26, 3) := by decide +kernel
theorem dX7_doLine_60 : decode cX7_doLine 60 = .ok (.iload_n 1, 1) := by decide +kernel
theorem dX7_doLine_61 : decode cX7_doLine 61 = .ok (.iconst 2, 1) := by decide +kernel
theorem dX7_doLine_62 : decode cX7_doLine 62 = .ok (.iadd, 1) := by decide +kernel
theorem dX7_doLine_63 : decode cX7_doLine 63 = .ok (.iaload, 1) := by decide +kernel
theorem dX7_doLine_64 : decode cX7_doLine 64 = .ok (.istore_n 3, 1) := by decide +kernel
theorem dX7_doLine_65 : decode cX7_doLine 65 = .ok (.iload_n 3, 1) := by decide +kernel
theorem dX7_doLine_66 : decode cX7_doLine 66 = .ok (.aload_n 0, 1) := by decide +kernel
theorem dX7_doLine_67 : decode cX7_doLine 67 = .ok (.getfield 26, 3) := by decide +kernel
theorem dX7_doLine_70 : decode cX7_doLine 70 = .ok (.iload_n 1, 1) := by decide +kernel
theorem dX7_doLine_71 : decode cX7_doLine 71 = .ok (.iconst 3, 1) := by decide +kernel
theorem dX7_doLine_72 : decode cX7_doLine 72 = .ok (.iadd, 1) := by decide +kernel
theorem dX7_doLine_73 : decode cX7_doLine 73 = .ok (.iaload, 1) := by decide +kernel
theorem dX7_doLine_74 : decode cX7_doLine 74 = .ok (.if_icmp .gt 53, 3) := by decide +kernel
theorem dX7_doLine_77 : decode cX7_doLine 77 = .ok (.aload_n 0, 1) := by decide +kernel
theorem dX7_doLine_78 : decode cX7_doLine 78 = .ok (.getfield 13, 3) := by decide +kernel
theorem dX7_doLine_81 : decode cX7_doLine 81 = .ok (.bipush 48, 2) := by decide +kernel
theorem dX7_doLine_83 : decode cX7_doLine 83 = .ok (.iload_n 2, 1) := by decide +kernel
theorem dX7_doLine_84 : decode cX7_doLine 84 = .ok (.imul, 1) := by decide +kernel
theorem dX7_doLine_85 : decode cX7_doLine 85 = .ok (.iconst 2, 1) := by decide +kernel
theorem dX7_doLine_86 : decode cX7_doLine 86 = .ok (.iload_n 3, 1) := by decide +kernel
theorem dX7_doLine_87 : decode cX7_doLine 87 = .ok (.imul, 1) := by decide +kernel
theorem dX7_doLine_88 : decode cX7_doLine 88 = .ok (.iadd, 1) := by decide +kernel
theorem dX7_doLine_89 : decode cX7_doLine 89 = .ok (.aload_n 0, 1) := by decide +kernel
theorem dX7_doLine_90 : decode cX7_doLine 90 = .ok (.getfield 26, 3) := by decide +kernel
theorem dX7_doLine_93 : decode cX7_doLine 93 = .ok (.iload_n 1, 1) := by decide +kernel
theorem dX7_doLine_94 : decode cX7_doLine 94 = .ok (.iconst 4, 1) := by decide +kernel
theorem dX7_doLine_95 : decode cX7_doLine 95 = .ok (.iadd, 1) := by decide +kernel
theorem dX7_doLine_96 : decode cX7_doLine 96 = .ok (.iaload, 1) := by decide +kernel
theorem dX7_doLine_97 : decode cX7_doLine 97 = .ok (.iastore, 1) := by decide +kernel
theorem dX7_doLine_98 : decode cX7_doLine 98 = .ok (.aload_n 0, 1) := by decide +kernel
theorem dX7_doLine_99 : decode cX7_doLine 99 = .ok (.getfield 13, 3) := by decide +kernel
theorem dX7_doLine_102 : decode cX7_doLine 102 = .ok (.bipush 48, 2) := by decide +kernel
theorem dX7_doLine_104 : decode cX7_doLine 104 = .ok (.iload_n 2, 1) := by decide +kernel
theorem dX7_doLine_105 : decode cX7_doLine 105 = .ok (.imul, 1) := by decide +kernel
theorem dX7_doLine_106 : decode cX7_doLine 106 = .ok (.iconst 2, 1) := by decide +kernel
theorem dX7_doLine_107 : decode cX7_doLine 107 = .ok (.iload_n 3, 1) := by decide +kernel
theorem dX7_doLine_108 : decode cX7_doLine 108 = .ok (.imul, 1) := by decide +kernel
theorem dX7_doLine_109 : decode cX7_doLine 109 = .ok (.iadd, 1) := by decide +kernel
theorem dX7_doLine_110 : decode cX7_doLine 110 = .ok (.iconst 1, 1) := by decide +kernel
theorem dX7_doLine_111 : decode cX7_doLine 111 = .ok (.iadd, 1) := by decide +kernel
theorem dX7_doLine_112 : decode cX7_doLine 112 = .ok (.aload_n 0, 1) := by decide +kernel
theorem dX7_doLine_113 : decode cX7_doLine 113 = .ok (.getfield 26, 3) := by decide +kernel
theorem dX7_doLine_116 : decode cX7_doLine 116 = .ok (.iload_n 1, 1) := by decide +kernel
theorem dX7_doLine_117 : decode cX7_doLine 117 = .ok (.iconst 5, 1) := by decide +kernel
theorem dX7_doLine_118 : decode cX7_doLine 118 = .ok (.iadd, 1) := by decide +kernel
theorem dX7_doLine_119 : decode cX7_doLine 119 = .ok (.iaload, 1) := by decide +kernel
theorem dX7_doLine_120 : decode cX7_doLine 120 = .ok (.iastore, 1) := by decide +kernel
theorem dX7_doLine_121 : decode cX7_doLine 121 = .ok (.iinc 3 1, 3) := by decide +kernel
theorem dX7_doLine_124 : decode cX7_doLine 124 = .ok (.goto (-59), 3) := by decide +kernel
theorem dX7_doLine_127 : decode cX7_doLine 127 = .ok (.goto 138, 3) := by decide +kernel
theorem dX7_doLine_130 : decode cX7_doLine 130 = .ok (.aload_n 0, 1) := by decide +kernel
theorem dX7_doLine_131 : decode cX7_doLine 131 = .ok (.aload_n 0, 1) := by decide +kernel
theorem dX7_doLine_132 : decode cX7_doLine 132 = .ok (.getfield 65, 3) := by decide +kernel
theorem dX7_doLine_135 : decode cX7_doLine 135 = .ok (.iconst 1, 1) := by decide +kernel
theorem dX7_doLine_136 : decode cX7_doLine 136 = .ok (.iload_n 2, 1) := by decide +kernel
theorem dX7_doLine_137 : decode cX7_doLine 137 = .ok (.ishl, 1) := by decide +kernel
theorem dX7_doLine_138 : decode cX7_doLine 138 = .ok (.ior, 1) := by decide +kernel
theorem dX7_doLine_139 : decode cX7_doLine 139 = .ok (.putfield 65, 3) := by decide +kernel
theorem dX7_doLine_142 : decode cX7_doLine 142 = .ok (.iconst 0, 1) := by decide +kernel
theorem dX7_doLine_143 : decode cX7_doLine 143 = .ok (.istore_n 3, 1) := by decide +kernel
theorem dX7_doLine_144 : decode cX7_doLine 144 = .ok (.iload_n 3, 1) := by decide +kernel
theorem dX7_doLine_145 : decode cX7_doLine 145 = .ok (.iconst 4, 1) := by decide +kernel
theorem dX7_doLine_146 : decode cX7_doLine 146 = .ok (.if_icmp .ge 29, 3) := by decide +kernel
theorem dX7_doLine_149 : decode cX7_doLine 149 = .ok (.aload_n 0, 1) := by decide +kernel
theorem dX7_doLine_150 : decode cX7_doLine 150 = .ok (.getfield 20, 3) := by decide +kernel
theorem dX7_doLine_153 : decode cX7_doLine 153 = .ok (.iconst 4, 1) := by decide +kernel
theorem dX7_doLine_154 : decode cX7_doLine 154 = .ok (.iload_n 2, 1) := by decide +kernel
theorem dX7_doLine_155 : decode cX7_doLine 155 = .ok (.imul, 1) := by decide +kernel
theorem dX7_doLine_156 : decode cX7_doLine 156 = .ok (.iload_n 3, 1) := by decide +kernel
theorem dX7_doLine_157 : decode cX7_doLine 157 = .ok (.iadd, 1) := by decide +kernel
theorem dX7_doLine_158 : decode cX7_doLine 158 = .ok (.aload_n 0, 1) := by decide +kernel
theorem dX7_doLine_159 : decode cX7_doLine 159 = .ok (.getfield 26, 3) := by decide +kernel
theorem dX7_doLine_162 : decode cX7_doLine 162 = .ok (.iload_n 1, 1) := by decide +kernel
theorem dX7_doLine_163 : decode cX7_doLine 163 = .ok (.iconst 2, 1) := by decide +kernel
theorem dX7_doLine_164 : decode cX7_doLine 164 = .ok (.iadd, 1) := by decide +kernel
theorem dX7_doLine_165 : decode cX7_doLine 165 = .ok (.iload_n 3, 1) := by decide +kernel
theorem dX7_doLine_166 : decode cX7_doLine 166 = .ok (.iadd, 1) := by decide +kernel
theorem dX7_doLine_167 : decode cX7_doLine 167 = .ok (.iaload, 1) := by decide +kernel
theorem dX7_doLine_168 : decode cX7_doLine 168 = .ok (.iastore, 1) := by decide +kernel
theorem dX7_doLine_169 : decode cX7_doLine 169 = .ok (.iinc 3 1, 3) := by decide +kernel
theorem dX7_doLine_172 : decode cX7_doLine 172 = .ok (.goto (-28), 3) := by decide +kernel
theorem dX7_doLine_175 : decode cX7_doLine 175 = .ok (.goto 90, 3) := by decide +kernel
theorem dX7_doLine_178 : decode cX7_doLine 178 = .ok (.aload_n 0, 1) := by decide +kernel
theorem dX7_doLine_179 : decode cX7_doLine 179 = .ok (.aload_n 0, 1) := by decide +kernel
theorem dX7_doLine_180 : decode cX7_doLine 180 = .ok (.getfield 65, 3) := by decide +kernel
theorem dX7_doLine_183 : decode cX7_doLine 183 = .ok (.iconst 1, 1) := by decide +kernel
theorem dX7_doLine_184 : decode cX7_doLine 184 = .ok (.iload_n 2, 1) := by decide +kernel
theorem dX7_doLine_185 : decode cX7_doLine 185 = .ok (.ishl, 1) := by decide +kernel
theorem dX7_doLine_186 : decode cX7_doLine 186 = .ok (.iconst (-1), 1) := by decide +kernel
theorem dX7_doLine_187 : decode cX7_doLine 187 = .ok (.ixor, 1) := by decide +kernel
theorem dX7_doLine_188 : decode cX7_doLine 188 = .ok (.iand, 1) := by decide +kernel
theorem dX7_doLine_189 : decode cX7_doLine 189 = .ok (.putfield 65, 3) := by decide +kernel
theorem dX7_doLine_192 : decode cX7_doLine 192 = .ok (.goto 73, 3) := by decide +kernel
theorem dX7_doLine_195 : decode cX7_doLine 195 = .ok (.aload_n 0, 1) := by decide +kernel
theorem dX7_doLine_196 : decode cX7_doLine 196 = .ok (.iload_n 2, 1) := by decide +kernel
theorem dX7_doLine_197 : decode cX7_doLine 197 = .ok (.putfield 16, 3) := by decide +kernel
theorem dX7_doLine_200 : decode cX7_doLine 200 = .ok (.goto 65, 3) := by decide +kernel
theorem dX7_doLine_203 : decode cX7_doLine 203 = .ok (.aload_n 0, 1) := by decide +kernel
theorem dX7_doLine_204 : decode cX7_doLine 204 = .ok (.getfield 7, 3) := by decide +kernel
theorem dX7_doLine_207 : decode cX7_doLine 207 = .ok (.iconst 3, 1) := by decide +kernel
theorem dX7_doLine_208 : decode cX7_doLine 208 = .ok (.aload_n 0, 1) := by decide +kernel
theorem dX7_doLine_209 : decode cX7_doLine 209 = .ok (.getfield 160, 3) := by decide +kernel
theorem dX7_doLine_212 : decode cX7_doLine 212 = .ok (.imul, 1) := by decide +kernel
theorem dX7_doLine_213 : decode cX7_doLine 213 = .ok (.iload_n 2, 1) := by decide +kernel
theorem dX7_doLine_214 : decode cX7_doLine 214 = .ok (.iastore, 1) := by decide +kernel
theorem dX7_doLine_215 : decode cX7_doLine 215 = .ok (.aload_n 0, 1) := by decide +kernel
theorem dX7_doLine_216 : decode cX7_doLine 216 = .ok (.getfield 7, 3) := by decide +kernel
theorem dX7_doLine_219 : decode cX7_doLine 219 = .ok (.iconst 3, 1) := by decide +kernel
theorem dX7_doLine_220 : decode cX7_doLine 220 = .ok (.aload_n 0, 1) := by decide +kernel
theorem dX7_doLine_221 : decode cX7_doLine 221 = .ok (.getfield 160, 3) := by decide +kernel
theorem dX7_doLine_224 : decode cX7_doLine 224 = .ok (.imul, 1) := by decide +kernel
theorem dX7_doLine_225 : decode cX7_doLine 225 = .ok (.iconst 1, 1) := by decide +kernel
theorem dX7_doLine_226 : decode cX7_doLine 226 = .ok (.iadd, 1) := by decide +kernel
theorem dX7_doLine_227 : decode cX7_doLine 227 = .ok (.aload_n 0, 1) := by decide +kernel
theorem dX7_doLine_228 : decode cX7_doLine 228 = .ok (.getfield 26, 3) := by decide +kernel
theorem dX7_doLine_231 : decode cX7_doLine 231 = .ok (.iload_n 1, 1) := by decide +kernel
theorem dX7_doLine_232 : decode cX7_doLine 232 = .ok (.iconst 2, 1) := by decide +kernel
theorem dX7_doLine_233 : decode cX7_doLine 233 = .ok (.iadd, 1) := by decide +kernel
theorem dX7_doLine_234 : decode cX7_doLine 234 = .ok (.iaload, 1) := by decide +kernel
theorem dX7_doLine_235 : decode cX7_doLine 235 = .ok (.iastore, 1) := by decide +kernel
theorem dX7_doLine_236 : decode cX7_doLine 236 = .ok (.aload_n 0, 1) := by decide +kernel
theorem dX7_doLine_237 : decode cX7_doLine 237 = .ok (.getfield 7, 3) := by decide +kernel
theorem dX7_doLine_240 : decode cX7_doLine 240 = .ok (.iconst 3, 1) := by decide +kernel
theorem dX7_doLine_241 : decode cX7_doLine 241 = .ok (.aload_n 0, 1) := by decide +kernel
theorem dX7_doLine_242 : decode cX7_doLine 242 = .ok (.getfield 160, 3) := by decide +kernel
theorem dX7_doLine_245 : decode cX7_doLine 245 = .ok (.imul, 1) := by decide +kernel
theorem dX7_doLine_246 : decode cX7_doLine 246 = .ok (.iconst 2, 1) := by decide +kernel
theorem dX7_doLine_247 : decode cX7_doLine 247 = .ok (.iadd, 1) := by decide +kernel
theorem dX7_doLine_248 : decode cX7_doLine 248 = .ok (.aload_n 0, 1) := by decide +kernel
theorem dX7_doLine_249 : decode cX7_doLine 249 = .ok (.getfield 26, 3) := by decide +kernel
theorem dX7_doLine_252 : decode cX7_doLine 252 = .ok (.iload_n 1, 1) := by decide +kernel
theorem dX7_doLine_253 : decode cX7_doLine 253 = .ok (.iaload, 1) := by decide +kernel
theorem dX7_doLine_254 : decode cX7_doLine 254 = .ok (.iastore, 1) := by decide +kernel
theorem dX7_doLine_255 : decode cX7_doLine 255 = .ok (.aload_n 0, 1) := by decide +kernel
theorem dX7_doLine_256 : decode cX7_doLine 256 = .ok (.dup, 1) := by decide +kernel
theorem dX7_doLine_257 : decode cX7_doLine 257 = .ok (.getfield 160, 3) := by decide +kernel
theorem dX7_doLine_260 : decode cX7_doLine 260 = .ok (.iconst 1, 1) := by decide +kernel
theorem dX7_doLine_261 : decode cX7_doLine 261 = .ok (.iadd, 1) := by decide +kernel
theorem dX7_doLine_262 : decode cX7_doLine 262 = .ok (.putfield 160, 3) := by decide +kernel
theorem dX7_doLine_265 : decode cX7_doLine 265 = .ok (.return_, 1) := by decide +kernel
theorem dX7_start_0 : decode cX7_start 0 = .ok (.aload_n 0, 1) := by decide +kernel
theorem dX7_start_1 : decode cX7_start 1 = .ok (.getfield 160, 3) := by decide +kernel
theorem dX7_start_4 : decode cX7_start 4 = .ok (.ifCond .ne 9, 3) := by decide +kernel
theorem dX7_start_7 : decode cX7_start 7 = .ok (.sipush 160, 3) := by decide +kernel
theorem dX7_start_10 : decode cX7_start 10 = .ok (.goto 4, 3) := by decide +kernel
theorem dX7_start_13 : decode cX7_start 13 = .ok (.iconst 0, 1) := by decide +kernel
theorem dX7_start_14 : decode cX7_start 14 = .ok (.ireturn, 1) := by decide +kernel
theorem dX7_begin_0 : decode cX7_begin 0 = .ok (.iconst 0, 1) := by decide +kernel
theorem dX7_begin_1 : decode cX7_begin 1 = .ok (.istore_n 1, 1) := by decide +kernel
theorem dX7_begin_2 : decode cX7_begin 2 = .ok (.iload_n 1, 1) := by decide +kernel
theorem dX7_begin_3 : decode cX7_begin 3 = .ok (.bipush 21, 2) := by decide +kernel
theorem dX7_begin_5 : decode cX7_begin 5 = .ok (.if_icmp .ge 28, 3) := by decide +kernel
theorem dX7_begin_8 : decode cX7_begin 8 = .ok (.aload_n 0, 1) := by decide +kernel
theorem dX7_begin_9 : decode cX7_begin 9 = .ok (.getfield 29, 3) := by decide +kernel
theorem dX7_begin_12 : decode cX7_begin 12 = .ok (.iload_n 1, 1) := by decide +kernel
theorem dX7_begin_13 : decode cX7_begin 13 = .ok (.iload_n 1, 1) := by decide +kernel
theorem dX7_begin_14 : decode cX7_begin 14 = .ok (.iconst 4, 1) := by decide +kernel
theorem dX7_begin_15 : decode cX7_begin 15 = .ok (.if_icmp .ge 10, 3) := by decide +kernel
theorem dX7_begin_18 : decode cX7_begin 18 = .ok (.aload_n 0, 1) := by decide +kernel
theorem dX7_begin_19 : decode cX7_begin 19 = .ok (.invokevirtual 169, 3) := by decide +kernel
theorem dX7_begin_22 : decode cX7_begin 22 = .ok (.goto 4, 3) := by decide +kernel
theorem dX7_begin_25 : decode cX7_begin 25 = .ok (.iconst 0, 1) := by decide +kernel
theorem dX7_begin_26 : decode cX7_begin 26 = .ok (.iastore, 1) := by decide +kernel
theorem dX7_begin_27 : decode cX7_begin 27 = .ok (.iinc 1 1, 3) := by decide +kernel
theorem dX7_begin_30 : decode cX7_begin 30 = .ok (.goto (-28), 3) := by decide +kernel
theorem dX7_begin_33 : decode cX7_begin 33 = .ok (.return_, 1) := by decide +kernel
theorem dX7_river_0 : decode cX7_river 0 = .ok (.aload_n 0, 1) := by decide +kernel
theorem dX7_river_1 : decode cX7_river 1 = .ok (.invokevirtual 166, 3) := by decide +kernel
theorem dX7_river_4 : decode cX7_river 4 = .ok (.ifCond .ne 6, 3) := by decide +kernel
theorem dX7_river_7 : decode cX7_river 7 = .ok (.bipush (-4), 2) := by decide +kernel
theorem dX7_river_9 : decode cX7_river 9 = .ok (.ireturn, 1) := by decide +kernel
theorem dX7_river_10 : decode cX7_river 10 = .ok (.iconst 0, 1) := by decide +kernel
theorem dX7_river_11 : decode cX7_river 11 = .ok (.istore_n 1, 1) := by decide +kernel
theorem dX7_river_12 : decode cX7_river 12 = .ok (.iload_n 1, 1) := by decide +kernel
theorem dX7_river_13 : decode cX7_river 13 = .ok (.aload_n 0, 1) := by decide +kernel
theorem dX7_river_14 : decode cX7_river 14 = .ok (.getfield 157, 3) := by decide +kernel
theorem dX7_river_17 : decode cX7_river 17 = .ok (.if_icmp .ge 17, 3) := by decide +kernel
theorem dX7_river_20 : decode cX7_river 20 = .ok (.aload_n 0, 1) := by decide +kernel
theorem dX7_river_21 : decode cX7_river 21 = .ok (.bipush 6, 2) := by decide +kernel
theorem dX7_river_23 : decode cX7_river 23 = .ok (.iload_n 1, 1) := by decide +kernel
theorem dX7_river_24 : decode cX7_river 24 = .ok (.imul, 1) := by decide +kernel
theorem dX7_river_25 : decode cX7_river 25 = .ok (.invokevirtual 173, 3) := by decide +kernel
theorem dX7_river_28 : decode cX7_river 28 = .ok (.iinc 1 1, 3) := by decide +kernel
theorem dX7_river_31 : decode cX7_river 31 = .ok (.goto (-19), 3) := by decide +kernel
theorem dX7_river_34 : decode cX7_river 34 = .ok (.aload_n 0, 1) := by decide +kernel
theorem dX7_river_35 : decode cX7_river 35 = .ok (.iconst 0, 1) := by decide +kernel
theorem dX7_river_36 : decode cX7_river 36 = .ok (.putfield 72, 3) := by decide +kernel
theorem dX7_river_39 : decode cX7_river 39 = .ok (.aload_n 0, 1) := by decide +kernel
theorem dX7_river_40 : decode cX7_river 40 = .ok (.invokevirtual 58, 3) := by decide +kernel
theorem dX7_river_43 : decode cX7_river 43 = .ok (.aload_n 0, 1) := by decide +kernel
theorem dX7_river_44 : decode cX7_river 44 = .ok (.getfield 35, 3) := by decide +kernel
theorem dX7_river_47 : decode cX7_river 47 = .ok (.iconst 0, 1) := by decide +kernel
theorem dX7_river_48 : decode cX7_river 48 = .ok (.iconst 0, 1) := by decide +kernel
theorem dX7_river_49 : decode cX7_river 49 = .ok (.bastore, 1) := by decide +kernel
theorem dX7_river_50 : decode cX7_river 50 = .ok (.aload_n 0, 1) := by decide +kernel
theorem dX7_river_51 : decode cX7_river 51 = .ok (.getfield 35, 3) := by decide +kernel
theorem dX7_river_54 : decode cX7_river 54 = .ok (.iconst 1, 1) := by decide +kernel
theorem dX7_river_55 : decode cX7_river 55 = .ok (.iconst 0, 1) := by decide +kernel
theorem dX7_river_56 : decode cX7_river 56 = .ok (.bastore, 1) := by decide +kernel
theorem dX7_river_57 : decode cX7_river 57 = .ok (.aload_n 0, 1) := by decide +kernel
theorem dX7_river_58 : decode cX7_river 58 = .ok (.getfield 157, 3) := by decide +kernel
theorem dX7_river_61 : decode cX7_river 61 = .ok (.ireturn, 1) := by decide +kernel
theorem dX7_isReach_0 : decode cX7_isReach 0 = .ok (.iload_n 1, 1) := by decide +kernel
theorem dX7_isReach_1 : decode cX7_isReach 1 = .ok (.iconst 0, 1) := by decide +kernel
theorem dX7_isReach_2 : decode cX7_isReach 2 = .ok (.aload_n 0, 1) := by decide +kernel
theorem dX7_isReach_3 : decode cX7_isReach 3 = .ok (.getfield 160, 3) := by decide +kernel
theorem dX7_isReach_6 : decode cX7_isReach 6 = .ok (.iconst 1, 1) := by decide +kernel
theorem dX7_isReach_7 : decode cX7_isReach 7 = .ok (.isub, 1) := by decide +kernel
theorem dX7_isReach_8 : decode cX7_isReach 8 = .ok (.invokestatic 61, 3) := by decide +kernel
theorem dX7_isReach_11 : decode cX7_isReach 11 = .ok (.ireturn, 1) := by decide +kernel
theorem dX7_isLayer_0 : decode cX7_isLayer 0 = .ok (.iload_n 0, 1) := by decide +kernel
theorem dX7_isLayer_1 : decode cX7_isLayer 1 = .ok (.iconst 0, 1) := by decide +kernel
theorem dX7_isLayer_2 : decode cX7_isLayer 2 = .ok (.iconst 5, 1) := by decide +kernel
theorem dX7_isLayer_3 : decode cX7_isLayer 3 = .ok (.invokestatic 61, 3) := by decide +kernel
theorem dX7_isLayer_6 : decode cX7_isLayer 6 = .ok (.ireturn, 1) := by decide +kernel
theorem dX7_isHour_0 : decode cX7_isHour 0 = .ok (.iload_n 0, 1) := by decide +kernel
theorem dX7_isHour_1 : decode cX7_isHour 1 = .ok (.iconst 0, 1) := by decide +kernel
theorem dX7_isHour_2 : decode cX7_isHour 2 = .ok (.bipush 23, 2) := by decide +kernel
theorem dX7_isHour_4 : decode cX7_isHour 4 = .ok (.invokestatic 61, 3) := by decide +kernel
theorem dX7_isHour_7 : decode cX7_isHour 7 = .ok (.ireturn, 1) := by decide +kernel
theorem dX7_reach_0 : decode cX7_reach 0 = .ok (.aload_n 0, 1) := by decide +kernel
theorem dX7_reach_1 : decode cX7_reach 1 = .ok (.iload_n 1, 1) := by decide +kernel
theorem dX7_reach_2 : decode cX7_reach 2 = .ok (.invokevirtual 177, 3) := by decide +kernel
theorem dX7_reach_5 : decode cX7_reach 5 = .ok (.ifCond .ne 6, 3) := by decide +kernel
theorem dX7_reach_8 : decode cX7_reach 8 = .ok (.bipush (-2), 2) := by decide +kernel
theorem dX7_reach_10 : decode cX7_reach 10 = .ok (.ireturn, 1) := by decide +kernel
theorem dX7_reach_11 : decode cX7_reach 11 = .ok (.iload_n 2, 1) := by decide +kernel
theorem dX7_reach_12 : decode cX7_reach 12 = .ok (.iconst 0, 1) := by decide +kernel
theorem dX7_reach_13 : decode cX7_reach 13 = .ok (.iconst 2, 1) := by decide +kernel
theorem dX7_reach_14 : decode cX7_reach 14 = .ok (.invokestatic 61, 3) := by decide +kernel
theorem dX7_reach_17 : decode cX7_reach 17 = .ok (.ifCond .eq 16, 3) := by decide +kernel
theorem dX7_reach_20 : decode cX7_reach 20 = .ok (.aload_n 0, 1) := by decide +kernel
theorem dX7_reach_21 : decode cX7_reach 21 = .ok (.getfield 7, 3) := by decide +kernel
theorem dX7_reach_24 : decode cX7_reach 24 = .ok (.iconst 3, 1) := by decide +kernel
theorem dX7_reach_25 : decode cX7_reach 25 = .ok (.iload_n 1, 1) := by decide +kernel
theorem dX7_reach_26 : decode cX7_reach 26 = .ok (.imul, 1) := by decide +kernel
theorem dX7_reach_27 : decode cX7_reach 27 = .ok (.iload_n 2, 1) := by decide +kernel
theorem dX7_reach_28 : decode cX7_reach 28 = .ok (.iadd, 1) := by decide +kernel
theorem dX7_reach_29 : decode cX7_reach 29 = .ok (.iaload, 1) := by decide +kernel
theorem dX7_reach_30 : decode cX7_reach 30 = .ok (.goto 5, 3) := by decide +kernel
theorem dX7_reach_33 : decode cX7_reach 33 = .ok (.bipush (-3), 2) := by decide +kernel
theorem dX7_reach_35 : decode cX7_reach 35 = .ok (.ireturn, 1) := by decide +kernel
theorem dX7_wind_0 : decode cX7_wind 0 = .ok (.iload_n 1, 1) := by decide +kernel
theorem dX7_wind_1 : decode cX7_wind 1 = .ok (.invokestatic 180, 3) := by decide +kernel
theorem dX7_wind_4 : decode cX7_wind 4 = .ok (.ifCond .eq 10, 3) := by decide +kernel
theorem dX7_wind_7 : decode cX7_wind 7 = .ok (.iload_n 2, 1) := by decide +kernel
theorem dX7_wind_8 : decode cX7_wind 8 = .ok (.invokestatic 183, 3) := by decide +kernel
theorem dX7_wind_11 : decode cX7_wind 11 = .ok (.ifCond .ne 6, 3) := by decide +kernel
theorem dX7_wind_14 : decode cX7_wind 14 = .ok (.bipush (-2), 2) := by decide +kernel
theorem dX7_wind_16 : decode cX7_wind 16 = .ok (.ireturn, 1) := by decide +kernel
theorem dX7_wind_17 : decode cX7_wind 17 = .ok (.iload_n 3, 1) := by decide +kernel
theorem dX7_wind_18 : decode cX7_wind 18 = .ok (.iconst 0, 1) := by decide +kernel
theorem dX7_wind_19 : decode cX7_wind 19 = .ok (.iconst 1, 1) := by decide +kernel
theorem dX7_wind_20 : decode cX7_wind 20 = .ok (.invokestatic 61, 3) := by decide +kernel
theorem dX7_wind_23 : decode cX7_wind 23 = .ok (.ifCond .eq 21, 3) := by decide +kernel
theorem dX7_wind_26 : decode cX7_wind 26 = .ok (.aload_n 0, 1) := by decide +kernel
theorem dX7_wind_27 : decode cX7_wind 27 = .ok (.getfield 13, 3) := by decide +kernel
theorem dX7_wind_30 : decode cX7_wind 30 = .ok (.bipush 48, 2) := by decide +kernel
theorem dX7_wind_32 : decode cX7_wind 32 = .ok (.iload_n 1, 1) := by decide +kernel
theorem dX7_wind_33 : decode cX7_wind 33 = .ok (.imul, 1) := by decide +kernel
theorem dX7_wind_34 : decode cX7_wind 34 = .ok (.iconst 2, 1) := by decide +kernel
theorem dX7_wind_35 : decode cX7_wind 35 = .ok (.iload_n 2, 1) := by decide +kernel
theorem dX7_wind_36 : decode cX7_wind 36 = .ok (.imul, 1) := by decide +kernel
theorem dX7_wind_37 : decode cX7_wind 37 = .ok (.iadd, 1) := by decide +kernel
theorem dX7_wind_38 : decode cX7_wind 38 = .ok (.iload_n 3, 1) := by decide +kernel
theorem dX7_wind_39 : decode cX7_wind 39 = .ok (.iadd, 1) := by decide +kernel
theorem dX7_wind_40 : decode cX7_wind 40 = .ok (.iaload, 1) := by decide +kernel
theorem dX7_wind_41 : decode cX7_wind 41 = .ok (.goto 5, 3) := by decide +kernel
theorem dX7_wind_44 : decode cX7_wind 44 = .ok (.bipush (-3), 2) := by decide +kernel
theorem dX7_wind_46 : decode cX7_wind 46 = .ok (.ireturn, 1) := by decide +kernel
theorem dX7_cordOf_0 : decode cX7_cordOf 0 = .ok (.aload_n 0, 1) := by decide +kernel
theorem dX7_cordOf_1 : decode cX7_cordOf 1 = .ok (.getfield 20, 3) := by decide +kernel
theorem dX7_cordOf_4 : decode cX7_cordOf 4 = .ok (.iconst 4, 1) := by decide +kernel
theorem dX7_cordOf_5 : decode cX7_cordOf 5 = .ok (.iload_n 1, 1) := by decide +kernel
theorem dX7_cordOf_6 : decode cX7_cordOf 6 = .ok (.imul, 1) := by decide +kernel
theorem dX7_cordOf_7 : decode cX7_cordOf 7 = .ok (.iconst 2, 1) := by decide +kernel
theorem dX7_cordOf_8 : decode cX7_cordOf 8 = .ok (.iadd, 1) := by decide +kernel
theorem dX7_cordOf_9 : decode cX7_cordOf 9 = .ok (.iaload, 1) := by decide +kernel
theorem dX7_cordOf_10 : decode cX7_cordOf 10 = .ok (.iconst 2, 1) := by decide +kernel
theorem dX7_cordOf_11 : decode cX7_cordOf 11 = .ok (.if_icmp .ne 7, 3) := by decide +kernel
theorem dX7_cordOf_14 : decode cX7_cordOf 14 = .ok (.iconst 1, 1) := by decide +kernel
theorem dX7_cordOf_15 : decode cX7_cordOf 15 = .ok (.goto 13, 3) := by decide +kernel
theorem dX7_cordOf_18 : decode cX7_cordOf 18 = .ok (.aload_n 0, 1) := by decide +kernel
theorem dX7_cordOf_19 : decode cX7_cordOf 19 = .ok (.getfield 20, 3) := by decide +kernel
theorem dX7_cordOf_22 : decode cX7_cordOf 22 = .ok (.iconst 4, 1) := by decide +kernel
theorem dX7_cordOf_23 : decode cX7_cordOf 23 = .ok (.iload_n 1, 1) := by decide +kernel
theorem dX7_cordOf_24 : decode cX7_cordOf 24 = .ok (.imul, 1) := by decide +kernel
theorem dX7_cordOf_25 : decode cX7_cordOf 25 = .ok (.iconst 1, 1) := by decide +kernel
theorem dX7_cordOf_26 : decode cX7_cordOf 26 = .ok (.iadd, 1) := by decide +kernel
theorem dX7_cordOf_27 : decode cX7_cordOf 27 = .ok (.iaload, 1) := by decide +kernel
theorem dX7_cordOf_28 : decode cX7_cordOf 28 = .ok (.ireturn, 1) := by decide +kernel
theorem dX7_barge_0 : decode cX7_barge 0 = .ok (.aload_n 0, 1) := by decide +kernel
theorem dX7_barge_1 : decode cX7_barge 1 = .ok (.iload_n 1, 1) := by decide +kernel
theorem dX7_barge_2 : decode cX7_barge 2 = .ok (.invokevirtual 186, 3) := by decide +kernel
theorem dX7_barge_5 : decode cX7_barge 5 = .ok (.ifCond .ne 6, 3) := by decide +kernel
theorem dX7_barge_8 : decode cX7_barge 8 = .ok (.bipush (-2), 2) := by decide +kernel
theorem dX7_barge_10 : decode cX7_barge 10 = .ok (.ireturn, 1) := by decide +kernel
theorem dX7_barge_11 : decode cX7_barge 11 = .ok (.iload_n 2, 1) := by decide +kernel
theorem dX7_barge_12 : decode cX7_barge 12 = .ok (.iconst 1, 1) := by decide +kernel
theorem dX7_barge_13 : decode cX7_barge 13 = .ok (.if_icmp .ne 11, 3) := by decide +kernel
theorem dX7_barge_16 : decode cX7_barge 16 = .ok (.aload_n 0, 1) := by decide +kernel
theorem dX7_barge_17 : decode cX7_barge 17 = .ok (.iload_n 1, 1) := by decide +kernel
theorem dX7_barge_18 : decode cX7_barge 18 = .ok (.invokevirtual 189, 3) := by decide +kernel
theorem dX7_barge_21 : decode cX7_barge 21 = .ok (.goto 27, 3) := by decide +kernel
theorem dX7_barge_24 : decode cX7_barge 24 = .ok (.iload_n 2, 1) := by decide +kernel
theorem dX7_barge_25 : decode cX7_barge 25 = .ok (.iconst 0, 1) := by decide +kernel
theorem dX7_barge_26 : decode cX7_barge 26 = .ok (.iconst 3, 1) := by decide +kernel
theorem dX7_barge_27 : decode cX7_barge 27 = .ok (.invokestatic 61, 3) := by decide +kernel
theorem dX7_barge_30 : decode cX7_barge 30 = .ok (.ifCond .eq 16, 3) := by decide +kernel
theorem dX7_barge_33 : decode cX7_barge 33 = .ok (.aload_n 0, 1) := by decide +kernel
theorem dX7_barge_34 : decode cX7_barge 34 = .ok (.getfield 20, 3) := by decide +kernel
theorem dX7_barge_37 : decode cX7_barge 37 = .ok (.iconst 4, 1) := by decide +kernel
theorem dX7_barge_38 : decode cX7_barge 38 = .ok (.iload_n 1, 1) := by decide +kernel
theorem dX7_barge_39 : decode cX7_barge 39 = .ok (.imul, 1) := by decide +kernel
theorem dX7_barge_40 : decode cX7_barge 40 = .ok (.iload_n 2, 1) := by decide +kernel
theorem dX7_barge_41 : decode cX7_barge 41 = .ok (.iadd, 1) := by decide +kernel
theorem dX7_barge_42 : decode cX7_barge 42 = .ok (.iaload, 1) := by decide +kernel
theorem dX7_barge_43 : decode cX7_barge 43 = .ok (.goto 5, 3) := by decide +kernel
theorem dX7_barge_46 : decode cX7_barge 46 = .ok (.bipush (-3), 2) := by decide +kernel
theorem dX7_barge_48 : decode cX7_barge 48 = .ok (.ireturn, 1) := by decide +kernel
theorem dX7_pull_0 : decode cX7_pull 0 = .ok (.iload_n 1, 1) := by decide +kernel
theorem dX7_pull_1 : decode cX7_pull 1 = .ok (.ifCond .ne 10, 3) := by decide +kernel
theorem dX7_pull_4 : decode cX7_pull 4 = .ok (.bipush 10, 2) := by decide +kernel
theorem dX7_pull_6 : decode cX7_pull 6 = .ok (.iload_n 2, 1) := by decide +kernel
theorem dX7_pull_7 : decode cX7_pull 7 = .ok (.imul, 1) := by decide +kernel
theorem dX7_pull_8 : decode cX7_pull 8 = .ok (.goto 32, 3) := by decide +kernel
theorem dX7_pull_11 : decode cX7_pull 11 = .ok (.iload_n 1, 1) := by decide +kernel
theorem dX7_pull_12 : decode cX7_pull 12 = .ok (.iconst 1, 1) := by decide +kernel
theorem dX7_pull_13 : decode cX7_pull 13 = .ok (.if_icmp .ne 10, 3) := by decide +kernel
theorem dX7_pull_16 : decode cX7_pull 16 = .ok (.bipush 7, 2) := by decide +kernel
theorem dX7_pull_18 : decode cX7_pull 18 = .ok (.iload_n 2, 1) := by decide +kernel
theorem dX7_pull_19 : decode cX7_pull 19 = .ok (.imul, 1) := by decide +kernel
theorem dX7_pull_20 : decode cX7_pull 20 = .ok (.goto 20, 3) := by decide +kernel
theorem dX7_pull_23 : decode cX7_pull 23 = .ok (.iload_n 1, 1) := by decide +kernel
theorem dX7_pull_24 : decode cX7_pull 24 = .ok (.iconst 2, 1) := by decide +kernel
theorem dX7_pull_25 : decode cX7_pull 25 = .ok (.if_icmp .ne 14, 3) := by decide +kernel
theorem dX7_pull_28 : decode cX7_pull 28 = .ok (.iload_n 0, 1) := by decide +kernel
theorem dX7_pull_29 : decode cX7_pull 29 = .ok (.iconst 2, 1) := by decide +kernel
theorem dX7_pull_30 : decode cX7_pull 30 = .ok (.if_icmp .le 9, 3) := by decide +kernel
theorem dX7_pull_33 : decode cX7_pull 33 = .ok (.iconst 5, 1) := by decide +kernel
theorem dX7_pull_34 : decode cX7_pull 34 = .ok (.iload_n 2, 1) := by decide +kernel
theorem dX7_pull_35 : decode cX7_pull 35 = .ok (.imul, 1) := by decide +kernel
theorem dX7_pull_36 : decode cX7_pull 36 = .ok (.goto 4, 3) := by decide +kernel
theorem dX7_pull_39 : decode cX7_pull 39 = .ok (.iconst 0, 1) := by decide +kernel
theorem dX7_pull_40 : decode cX7_pull 40 = .ok (.istore_n 3, 1) := by decide +kernel
theorem dX7_pull_41 : decode cX7_pull 41 = .ok (.iload_n 0, 1) := by decide +kernel
theorem dX7_pull_42 : decode cX7_pull 42 = .ok (.iconst 1, 1) := by decide +kernel
theorem dX7_pull_43 : decode cX7_pull 43 = .ok (.if_icmp .ne 9, 3) := by decide +kernel
theorem dX7_pull_46 : decode cX7_pull 46 = .ok (.iconst 2, 1) := by decide +kernel
theorem dX7_pull_47 : decode cX7_pull 47 = .ok (.iload_n 3, 1) := by decide +kernel
theorem dX7_pull_48 : decode cX7_pull 48 = .ok (.imul, 1) := by decide +kernel
theorem dX7_pull_49 : decode cX7_pull 49 = .ok (.goto 15, 3) := by decide +kernel
theorem dX7_pull_52 : decode cX7_pull 52 = .ok (.iload_n 0, 1) := by decide +kernel
theorem dX7_pull_53 : decode cX7_pull 53 = .ok (.iconst 4, 1) := by decide +kernel
theorem dX7_pull_54 : decode cX7_pull 54 = .ok (.if_icmp .ne 9, 3) := by decide +kernel
theorem dX7_pull_57 : decode cX7_pull 57 = .ok (.iload_n 3, 1) := by decide +kernel
theorem dX7_pull_58 : decode cX7_pull 58 = .ok (.iconst 2, 1) := by decide +kernel
theorem dX7_pull_59 : decode cX7_pull 59 = .ok (.idiv, 1) := by decide +kernel
theorem dX7_pull_60 : decode cX7_pull 60 = .ok (.goto 4, 3) := by decide +kernel
theorem dX7_pull_63 : decode cX7_pull 63 = .ok (.iload_n 3, 1) := by decide +kernel
theorem dX7_pull_64 : decode cX7_pull 64 = .ok (.ireturn, 1) := by decide +kernel
theorem dX7_as_0 : decode cX7_as 0 = .ok (.aload_n 0, 1) := by decide +kernel
theorem dX7_as_1 : decode cX7_as 1 = .ok (.iload_n 1, 1) := by decide +kernel
theorem dX7_as_2 : decode cX7_as 2 = .ok (.invokevirtual 186, 3) := by decide +kernel
theorem dX7_as_5 : decode cX7_as 5 = .ok (.ifCond .ne 6, 3) := by decide +kernel
theorem dX7_as_8 : decode cX7_as 8 = .ok (.bipush (-2), 2) := by decide +kernel
theorem dX7_as_10 : decode cX7_as 10 = .ok (.ireturn, 1) := by decide +kernel
theorem dX7_as_11 : decode cX7_as 11 = .ok (.iload_n 2, 1) := by decide +kernel
theorem dX7_as_12 : decode cX7_as 12 = .ok (.iconst 0, 1) := by decide +kernel
theorem dX7_as_13 : decode cX7_as 13 = .ok (.iconst 4, 1) := by decide +kernel
theorem dX7_as_14 : decode cX7_as 14 = .ok (.invokestatic 61, 3) := by decide +kernel
theorem dX7_as_17 : decode cX7_as 17 = .ok (.ifCond .ne 6, 3) := by decide +kernel
theorem dX7_as_20 : decode cX7_as 20 = .ok (.bipush (-3), 2) := by decide +kernel
theorem dX7_as_22 : decode cX7_as 22 = .ok (.ireturn, 1) := by decide +kernel
theorem dX7_as_23 : decode cX7_as 23 = .ok (.aload_n 0, 1) := by decide +kernel
theorem dX7_as_24 : decode cX7_as 24 = .ok (.getfield 20, 3) := by decide +kernel
theorem dX7_as_27 : decode cX7_as 27 = .ok (.iconst 4, 1) := by decide +kernel
theorem dX7_as_28 : decode cX7_as 28 = .ok (.iload_n 1, 1) := by decide +kernel
theorem dX7_as_29 : decode cX7_as 29 = .ok (.imul, 1) := by decide +kernel
theorem dX7_as_30 : decode cX7_as 30 = .ok (.iconst 2, 1) := by decide +kernel
theorem dX7_as_31 : decode cX7_as 31 = .ok (.iadd, 1) := by decide +kernel
theorem dX7_as_32 : decode cX7_as 32 = .ok (.iaload, 1) := by decide +kernel
theorem dX7_as_33 : decode cX7_as 33 = .ok (.istore_n 3, 1) := by decide +kernel
theorem dX7_as_34 : decode cX7_as 34 = .ok (.iload_n 2, 1) := by decide +kernel
theorem dX7_as_35 : decode cX7_as 35 = .ok (.ifCond .eq 18, 3) := by decide +kernel
theorem dX7_as_38 : decode cX7_as 38 = .ok (.iload_n 2, 1) := by decide +kernel
theorem dX7_as_39 : decode cX7_as 39 = .ok (.iload_n 3, 1) := by decide +kernel
theorem dX7_as_40 : decode cX7_as 40 = .ok (.if_icmp .eq 13, 3) := by decide +kernel
theorem dX7_as_43 : decode cX7_as 43 = .ok (.iload_n 2, 1) := by decide +kernel
theorem dX7_as_44 : decode cX7_as 44 = .ok (.iconst 3, 1) := by decide +kernel
theorem dX7_as_45 : decode cX7_as 45 = .ok (.if_icmp .ne 12, 3) := by decide +kernel
theorem dX7_as_48 : decode cX7_as 48 = .ok (.iload_n 3, 1) := by decide +kernel
theorem dX7_as_49 : decode cX7_as 49 = .ok (.iconst 4, 1) := by decide +kernel
theorem dX7_as_50 : decode cX7_as 50 = .ok (.if_icmp .ne 7, 3) := by decide +kernel
theorem dX7_as_53 : decode cX7_as 53 = .ok (.iconst 1, 1) := by decide +kernel
theorem dX7_as_54 : decode cX7_as 54 = .ok (.goto 4, 3) := by decide +kernel
theorem dX7_as_57 : decode cX7_as 57 = .ok (.iconst 0, 1) := by decide +kernel
theorem dX7_as_58 : decode cX7_as 58 = .ok (.istore 4, 2) := by decide +kernel
theorem dX7_as_60 : decode cX7_as 60 = .ok (.iload 4, 2) := by decide +kernel
theorem dX7_as_62 : decode cX7_as 62 = .ok (.ifCond .eq 22, 3) := by decide +kernel
theorem dX7_as_65 : decode cX7_as 65 = .ok (.bipush 100, 2) := by decide +kernel
theorem dX7_as_67 : decode cX7_as 67 = .ok (.iload_n 3, 1) := by decide +kernel
theorem dX7_as_68 : decode cX7_as 68 = .ok (.iconst 0, 1) := by decide +kernel
theorem dX7_as_69 : decode cX7_as 69 = .ok (.iconst 1, 1) := by decide +kernel
theorem dX7_as_70 : decode cX7_as 70 = .ok (.invokestatic 193, 3) := by decide +kernel
theorem dX7_as_73 : decode cX7_as 73 = .ok (.imul, 1) := by decide +kernel
theorem dX7_as_74 : decode cX7_as 74 = .ok (.iload_n 3, 1) := by decide +kernel
theorem dX7_as_75 : decode cX7_as 75 = .ok (.iconst 2, 1) := by decide +kernel
theorem dX7_as_76 : decode cX7_as 76 = .ok (.iconst 1, 1) := by decide +kernel
theorem dX7_as_77 : decode cX7_as 77 = .ok (.invokestatic 193, 3) := by decide +kernel
theorem dX7_as_80 : decode cX7_as 80 = .ok (.iadd, 1) := by decide +kernel
theorem dX7_as_81 : decode cX7_as 81 = .ok (.goto 5, 3) := by decide +kernel
theorem dX7_as_84 : decode cX7_as 84 = .ok (.bipush (-4), 2) := by decide +kernel
theorem dX7_as_86 : decode cX7_as 86 = .ok (.ireturn, 1) := by decide +kernel
theorem dX7_yardsOf_0 : decode cX7_yardsOf 0 = .ok (.aload_n 0, 1) := by decide +kernel
theorem dX7_yardsOf_1 : decode cX7_yardsOf 1 = .ok (.getfield 13, 3) := by decide +kernel
theorem dX7_yardsOf_4 : decode cX7_yardsOf 4 = .ok (.bipush 48, 2) := by decide +kernel
theorem dX7_yardsOf_6 : decode cX7_yardsOf 6 = .ok (.iload_n 3, 1) := by decide +kernel
theorem dX7_yardsOf_7 : decode cX7_yardsOf 7 = .ok (.imul, 1) := by decide +kernel
theorem dX7_yardsOf_8 : decode cX7_yardsOf 8 = .ok (.iconst 2, 1) := by decide +kernel
theorem dX7_yardsOf_9 : decode cX7_yardsOf 9 = .ok (.iload 4, 2) := by decide +kernel
theorem dX7_yardsOf_11 : decode cX7_yardsOf 11 = .ok (.imul, 1) := by decide +kernel
theorem dX7_yardsOf_12 : decode cX7_yardsOf 12 = .ok (.iadd, 1) := by decide +kernel
theorem dX7_yardsOf_13 : decode cX7_yardsOf 13 = .ok (.iaload, 1) := by decide +kernel
theorem dX7_yardsOf_14 : decode cX7_yardsOf 14 = .ok (.aload_n 0, 1) := by decide +kernel
theorem dX7_yardsOf_15 : decode cX7_yardsOf 15 = .ok (.getfield 7, 3) := by decide +kernel
theorem dX7_yardsOf_18 : decode cX7_yardsOf 18 = .ok (.iconst 3, 1) := by decide +kernel
theorem dX7_yardsOf_19 : decode cX7_yardsOf 19 = .ok (.iload_n 2, 1) := by decide +kernel
theorem dX7_yardsOf_20 : decode cX7_yardsOf 20 = .ok (.imul, 1) := by decide +kernel
theorem dX7_yardsOf_21 : decode cX7_yardsOf 21 = .ok (.iaload, 1) := by decide +kernel
theorem dX7_yardsOf_22 : decode cX7_yardsOf 22 = .ok (.invokestatic 197, 3) := by decide +kernel
theorem dX7_yardsOf_25 : decode cX7_yardsOf 25 = .ok (.istore 5, 2) := by decide +kernel
theorem dX7_yardsOf_27 : decode cX7_yardsOf 27 = .ok (.iload 5, 2) := by decide +kernel
theorem dX7_yardsOf_29 : decode cX7_yardsOf 29 = .ok (.iconst 4, 1) := by decide +kernel
theorem dX7_yardsOf_30 : decode cX7_yardsOf 30 = .ok (.if_icmp .le 11, 3) := by decide +kernel
theorem dX7_yardsOf_33 : decode cX7_yardsOf 33 = .ok (.bipush 8, 2) := by decide +kernel
theorem dX7_yardsOf_35 : decode cX7_yardsOf 35 = .ok (.iload 5, 2) := by decide +kernel
theorem dX7_yardsOf_37 : decode cX7_yardsOf 37 = .ok (.isub, 1) := by decide +kernel
theorem dX7_yardsOf_38 : decode cX7_yardsOf 38 = .ok (.goto 5, 3) := by decide +kernel
theorem dX7_yardsOf_41 : decode cX7_yardsOf 41 = .ok (.iload 5, 2) := by decide +kernel
theorem dX7_yardsOf_43 : decode cX7_yardsOf 43 = .ok (.istore 5, 2) := by decide +kernel
theorem dX7_yardsOf_45 : decode cX7_yardsOf 45 = .ok (.aload_n 0, 1) := by decide +kernel
theorem dX7_yardsOf_46 : decode cX7_yardsOf 46 = .ok (.getfield 7, 3) := by decide +kernel
theorem dX7_yardsOf_49 : decode cX7_yardsOf 49 = .ok (.iconst 3, 1) := by decide +kernel
theorem dX7_yardsOf_50 : decode cX7_yardsOf 50 = .ok (.iload_n 2, 1) := by decide +kernel
theorem dX7_yardsOf_51 : decode cX7_yardsOf 51 = .ok (.imul, 1) := by decide +kernel
theorem dX7_yardsOf_52 : decode cX7_yardsOf 52 = .ok (.iconst 2, 1) := by decide +kernel
theorem dX7_yardsOf_53 : decode cX7_yardsOf 53 = .ok (.iadd, 1) := by decide +kernel
theorem dX7_yardsOf_54 : decode cX7_yardsOf 54 = .ok (.iaload, 1) := by decide +kernel
theorem dX7_yardsOf_55 : decode cX7_yardsOf 55 = .ok (.iconst 1, 1) := by decide +kernel
theorem dX7_yardsOf_56 : decode cX7_yardsOf 56 = .ok (.if_icmp .ne 12, 3) := by decide +kernel
theorem dX7_yardsOf_59 : decode cX7_yardsOf 59 = .ok (.iload_n 3, 1) := by decide +kernel
theorem dX7_yardsOf_60 : decode cX7_yardsOf 60 = .ok (.iconst 1, 1) := by decide +kernel
theorem dX7_yardsOf_61 : decode cX7_yardsOf 61 = .ok (.if_icmp .le 7, 3) := by decide +kernel
theorem dX7_yardsOf_64 : decode cX7_yardsOf 64 = .ok (.iconst 0, 1) := by decide +kernel
theorem dX7_yardsOf_65 : decode cX7_yardsOf 65 = .ok (.goto 43, 3) := by decide +kernel
theorem dX7_yardsOf_68 : decode cX7_yardsOf 68 = .ok (.aload_n 0, 1) := by decide +kernel
theorem dX7_yardsOf_69 : decode cX7_yardsOf 69 = .ok (.getfield 20, 3) := by decide +kernel
theorem dX7_yardsOf_72 : decode cX7_yardsOf 72 = .ok (.iconst 4, 1) := by decide +kernel
theorem dX7_yardsOf_73 : decode cX7_yardsOf 73 = .ok (.iload_n 1, 1) := by decide +kernel
theorem dX7_yardsOf_74 : decode cX7_yardsOf 74 = .ok (.imul, 1) := by decide +kernel
theorem dX7_yardsOf_75 : decode cX7_yardsOf 75 = .ok (.iconst 2, 1) := by decide +kernel
theorem dX7_yardsOf_76 : decode cX7_yardsOf 76 = .ok (.iadd, 1) := by decide +kernel
theorem dX7_yardsOf_77 : decode cX7_yardsOf 77 = .ok (.iaload, 1) := by decide +kernel
theorem dX7_yardsOf_78 : decode cX7_yardsOf 78 = .ok (.iload 5, 2) := by decide +kernel
theorem dX7_yardsOf_80 : decode cX7_yardsOf 80 = .ok (.aload_n 0, 1) := by decide +kernel
theorem dX7_yardsOf_81 : decode cX7_yardsOf 81 = .ok (.getfield 13, 3) := by decide +kernel
theorem dX7_yardsOf_84 : decode cX7_yardsOf 84 = .ok (.bipush 48, 2) := by decide +kernel
theorem dX7_yardsOf_86 : decode cX7_yardsOf 86 = .ok (.iload_n 3, 1) := by decide +kernel
theorem dX7_yardsOf_87 : decode cX7_yardsOf 87 = .ok (.imul, 1) := by decide +kernel
theorem dX7_yardsOf_88 : decode cX7_yardsOf 88 = .ok (.iconst 2, 1) := by decide +kernel
theorem dX7_yardsOf_89 : decode cX7_yardsOf 89 = .ok (.iload 4, 2) := by decide +kernel
theorem dX7_yardsOf_91 : decode cX7_yardsOf 91 = .ok (.imul, 1) := by decide +kernel
theorem dX7_yardsOf_92 : decode cX7_yardsOf 92 = .ok (.iadd, 1) := by decide +kernel
theorem dX7_yardsOf_93 : decode cX7_yardsOf 93 = .ok (.iconst 1, 1) := by decide +kernel
theorem dX7_yardsOf_94 : decode cX7_yardsOf 94 = .ok (.iadd, 1) := by decide +kernel
theorem dX7_yardsOf_95 : decode cX7_yardsOf 95 = .ok (.iaload, 1) := by decide +kernel
theorem dX7_yardsOf_96 : decode cX7_yardsOf 96 = .ok (.invokestatic 193, 3) := by decide +kernel
theorem dX7_yardsOf_99 : decode cX7_yardsOf 99 = .ok (.aload_n 0, 1) := by decide +kernel
theorem dX7_yardsOf_100 : decode cX7_yardsOf 100 = .ok (.getfield 20, 3) := by decide +kernel
theorem dX7_yardsOf_103 : decode cX7_yardsOf 103 = .ok (.iconst 4, 1) := by decide +kernel
theorem dX7_yardsOf_104 : decode cX7_yardsOf 104 = .ok (.iload_n 1, 1) := by decide +kernel
theorem dX7_yardsOf_105 : decode cX7_yardsOf 105 = .ok (.imul, 1) := by decide +kernel
theorem dX7_yardsOf_106 : decode cX7_yardsOf 106 = .ok (.iaload, 1) := by decide +kernel
theorem dX7_yardsOf_107 : decode cX7_yardsOf 107 = .ok (.idiv, 1) := by decide +kernel
theorem dX7_yardsOf_108 : decode cX7_yardsOf 108 = .ok (.ireturn, 1) := by decide +kernel
theorem dX7_yards_0 : decode cX7_yards 0 = .ok (.aload_n 0, 1) := by decide +kernel
theorem dX7_yards_1 : decode cX7_yards 1 = .ok (.iload_n 1, 1) := by decide +kernel
theorem dX7_yards_2 : decode cX7_yards 2 = .ok (.invokevirtual 186, 3) := by decide +kernel
theorem dX7_yards_5 : decode cX7_yards 5 = .ok (.ifCond .eq 38, 3) := by decide +kernel
theorem dX7_yards_8 : decode cX7_yards 8 = .ok (.aload_n 0, 1) := by decide +kernel
theorem dX7_yards_9 : decode cX7_yards 9 = .ok (.iload_n 2, 1) := by decide +kernel
theorem dX7_yards_10 : decode cX7_yards 10 = .ok (.invokevirtual 177, 3) := by decide +kernel
theorem dX7_yards_13 : decode cX7_yards 13 = .ok (.ifCond .eq 30, 3) := by decide +kernel
theorem dX7_yards_16 : decode cX7_yards 16 = .ok (.iload_n 3, 1) := by decide +kernel
theorem dX7_yards_17 : decode cX7_yards 17 = .ok (.invokestatic 180, 3) := by decide +kernel
theorem dX7_yards_20 : decode cX7_yards 20 = .ok (.ifCond .eq 23, 3) := by decide +kernel
theorem dX7_yards_23 : decode cX7_yards 23 = .ok (.iload 4, 2) := by decide +kernel
theorem dX7_yards_25 : decode cX7_yards 25 = .ok (.invokestatic 183, 3) := by decide +kernel
theorem dX7_yards_28 : decode cX7_yards 28 = .ok (.ifCond .eq 15, 3) := by decide +kernel
theorem dX7_yards_31 : decode cX7_yards 31 = .ok (.aload_n 0, 1) := by decide +kernel
theorem dX7_yards_32 : decode cX7_yards 32 = .ok (.iload_n 1, 1) := by decide +kernel
theorem dX7_yards_33 : decode cX7_yards 33 = .ok (.iload_n 2, 1) := by decide +kernel
theorem dX7_yards_34 : decode cX7_yards 34 = .ok (.iload_n 3, 1) := by decide +kernel
theorem dX7_yards_35 : decode cX7_yards 35 = .ok (.iload 4, 2) := by decide +kernel
theorem dX7_yards_37 : decode cX7_yards 37 = .ok (.invokevirtual 201, 3) := by decide +kernel
theorem dX7_yards_40 : decode cX7_yards 40 = .ok (.goto 5, 3) := by decide +kernel
theorem dX7_yards_43 : decode cX7_yards 43 = .ok (.bipush (-2), 2) := by decide +kernel
theorem dX7_yards_45 : decode cX7_yards 45 = .ok (.ireturn, 1) := by decide +kernel
theorem dX7_goes_0 : decode cX7_goes 0 = .ok (.iload_n 2, 1) := by decide +kernel
theorem dX7_goes_1 : decode cX7_goes 1 = .ok (.sipush 160, 3) := by decide +kernel
theorem dX7_goes_4 : decode cX7_goes 4 = .ok (.if_icmp .ne 7, 3) := by decide +kernel
theorem dX7_goes_7 : decode cX7_goes 7 = .ok (.sipush 160, 3) := by decide +kernel
theorem dX7_goes_10 : decode cX7_goes 10 = .ok (.ireturn, 1) := by decide +kernel
theorem dX7_goes_11 : decode cX7_goes 11 = .ok (.iload_n 2, 1) := by decide +kernel
theorem dX7_goes_12 : decode cX7_goes 12 = .ok (.bipush 20, 2) := by decide +kernel
theorem dX7_goes_14 : decode cX7_goes 14 = .ok (.idiv, 1) := by decide +kernel
theorem dX7_goes_15 : decode cX7_goes 15 = .ok (.istore 5, 2) := by decide +kernel
theorem dX7_goes_17 : decode cX7_goes 17 = .ok (.iload_n 2, 1) := by decide +kernel
theorem dX7_goes_18 : decode cX7_goes 18 = .ok (.bipush 20, 2) := by decide +kernel
theorem dX7_goes_20 : decode cX7_goes 20 = .ok (.irem, 1) := by decide +kernel
theorem dX7_goes_21 : decode cX7_goes 21 = .ok (.aload_n 0, 1) := by decide +kernel
theorem dX7_goes_22 : decode cX7_goes 22 = .ok (.iload_n 1, 1) := by decide +kernel
theorem dX7_goes_23 : decode cX7_goes 23 = .ok (.iload 5, 2) := by decide +kernel
theorem dX7_goes_25 : decode cX7_goes 25 = .ok (.iload_n 3, 1) := by decide +kernel
theorem dX7_goes_26 : decode cX7_goes 26 = .ok (.iload 4, 2) := by decide +kernel
theorem dX7_goes_28 : decode cX7_goes 28 = .ok (.invokevirtual 201, 3) := by decide +kernel
theorem dX7_goes_31 : decode cX7_goes 31 = .ok (.iadd, 1) := by decide +kernel
theorem dX7_goes_32 : decode cX7_goes 32 = .ok (.istore 6, 2) := by decide +kernel
theorem dX7_goes_34 : decode cX7_goes 34 = .ok (.iload 6, 2) := by decide +kernel
theorem dX7_goes_36 : decode cX7_goes 36 = .ok (.aload_n 0, 1) := by decide +kernel
theorem dX7_goes_37 : decode cX7_goes 37 = .ok (.getfield 7, 3) := by decide +kernel
theorem dX7_goes_40 : decode cX7_goes 40 = .ok (.iconst 3, 1) := by decide +kernel
theorem dX7_goes_41 : decode cX7_goes 41 = .ok (.iload 5, 2) := by decide +kernel
theorem dX7_goes_43 : decode cX7_goes 43 = .ok (.imul, 1) := by decide +kernel
theorem dX7_goes_44 : decode cX7_goes 44 = .ok (.iconst 1, 1) := by decide +kernel
theorem dX7_goes_45 : decode cX7_goes 45 = .ok (.iadd, 1) := by decide +kernel
theorem dX7_goes_46 : decode cX7_goes 46 = .ok (.iaload, 1) := by decide +kernel
theorem dX7_goes_47 : decode cX7_goes 47 = .ok (.if_icmp .ge 12, 3) := by decide +kernel
theorem dX7_goes_50 : decode cX7_goes 50 = .ok (.bipush 20, 2) := by decide +kernel
theorem dX7_goes_52 : decode cX7_goes 52 = .ok (.iload 5, 2) := by decide +kernel
theorem dX7_goes_54 : decode cX7_goes 54 = .ok (.imul, 1) := by decide +kernel
theorem dX7_goes_55 : decode cX7_goes 55 = .ok (.iload 6, 2) := by decide +kernel
theorem dX7_goes_57 : decode cX7_goes 57 = .ok (.iadd, 1) := by decide +kernel
theorem dX7_goes_58 : decode cX7_goes 58 = .ok (.ireturn, 1) := by decide +kernel
theorem dX7_goes_59 : decode cX7_goes 59 = .ok (.aload_n 0, 1) := by decide +kernel
theorem dX7_goes_60 : decode cX7_goes 60 = .ok (.getfield 7, 3) := by decide +kernel
theorem dX7_goes_63 : decode cX7_goes 63 = .ok (.iconst 3, 1) := by decide +kernel
theorem dX7_goes_64 : decode cX7_goes 64 = .ok (.iload 5, 2) := by decide +kernel
theorem dX7_goes_66 : decode cX7_goes 66 = .ok (.imul, 1) := by decide +kernel
theorem dX7_goes_67 : decode cX7_goes 67 = .ok (.iconst 2, 1) := by decide +kernel
theorem dX7_goes_68 : decode cX7_goes 68 = .ok (.iadd, 1) := by decide +kernel
theorem dX7_goes_69 : decode cX7_goes 69 = .ok (.iaload, 1) := by decide +kernel
theorem dX7_goes_70 : decode cX7_goes 70 = .ok (.iconst 2, 1) := by decide +kernel
theorem dX7_goes_71 : decode cX7_goes 71 = .ok (.if_icmp .ne 41, 3) := by decide +kernel
theorem dX7_goes_74 : decode cX7_goes 74 = .ok (.aload_n 0, 1) := by decide +kernel
theorem dX7_goes_75 : decode cX7_goes 75 = .ok (.getfield 13, 3) := by decide +kernel
theorem dX7_goes_78 : decode cX7_goes 78 = .ok (.iconst 2, 1) := by decide +kernel
theorem dX7_goes_79 : decode cX7_goes 79 = .ok (.iload 4, 2) := by decide +kernel
theorem dX7_goes_81 : decode cX7_goes 81 = .ok (.imul, 1) := by decide +kernel
theorem dX7_goes_82 : decode cX7_goes 82 = .ok (.iconst 1, 1) := by decide +kernel
theorem dX7_goes_83 : decode cX7_goes 83 = .ok (.iadd, 1) := by decide +kernel
theorem dX7_goes_84 : decode cX7_goes 84 = .ok (.iaload, 1) := by decide +kernel
theorem dX7_goes_85 : decode cX7_goes 85 = .ok (.aload_n 0, 1) := by decide +kernel
theorem dX7_goes_86 : decode cX7_goes 86 = .ok (.getfield 16, 3) := by decide +kernel
theorem dX7_goes_89 : decode cX7_goes 89 = .ok (.if_icmp .le 23, 3) := by decide +kernel
theorem dX7_goes_92 : decode cX7_goes 92 = .ok (.bipush 20, 2) := by decide +kernel
theorem dX7_goes_94 : decode cX7_goes 94 = .ok (.iload 5, 2) := by decide +kernel
theorem dX7_goes_96 : decode cX7_goes 96 = .ok (.imul, 1) := by decide +kernel
theorem dX7_goes_97 : decode cX7_goes 97 = .ok (.aload_n 0, 1) := by decide +kernel
theorem dX7_goes_98 : decode cX7_goes 98 = .ok (.getfield 7, 3) := by decide +kernel
theorem dX7_goes_101 : decode cX7_goes 101 = .ok (.iconst 3, 1) := by decide +kernel
theorem dX7_goes_102 : decode cX7_goes 102 = .ok (.iload 5, 2) := by decide +kernel
theorem dX7_goes_104 : decode cX7_goes 104 = .ok (.imul, 1) := by decide +kernel
theorem dX7_goes_105 : decode cX7_goes 105 = .ok (.iconst 1, 1) := by decide +kernel
theorem dX7_goes_106 : decode cX7_goes 106 = .ok (.iadd, 1) := by decide +kernel
theorem dX7_goes_107 : decode cX7_goes 107 = .ok (.iaload, 1) := by decide +kernel
theorem dX7_goes_108 : decode cX7_goes 108 = .ok (.iadd, 1) := by decide +kernel
theorem dX7_goes_109 : decode cX7_goes 109 = .ok (.iconst 1, 1) := by decide +kernel
theorem dX7_goes_110 : decode cX7_goes 110 = .ok (.isub, 1) := by decide +kernel
theorem dX7_goes_111 : decode cX7_goes 111 = .ok (.ireturn, 1) := by decide +kernel
theorem dX7_goes_112 : decode cX7_goes 112 = .ok (.iload 5, 2) := by decide +kernel
theorem dX7_goes_114 : decode cX7_goes 114 = .ok (.aload_n 0, 1) := by decide +kernel
theorem dX7_goes_115 : decode cX7_goes 115 = .ok (.getfield 160, 3) := by decide +kernel
theorem dX7_goes_118 : decode cX7_goes 118 = .ok (.iconst 1, 1) := by decide +kernel
theorem dX7_goes_119 : decode cX7_goes 119 = .ok (.isub, 1) := by decide +kernel
theorem dX7_goes_120 : decode cX7_goes 120 = .ok (.if_icmp .ne 9, 3) := by decide +kernel
theorem dX7_goes_123 : decode cX7_goes 123 = .ok (.sipush 160, 3) := by decide +kernel
theorem dX7_goes_126 : decode cX7_goes 126 = .ok (.goto 11, 3) := by decide +kernel
theorem dX7_goes_129 : decode cX7_goes 129 = .ok (.bipush 20, 2) := by decide +kernel
theorem dX7_goes_131 : decode cX7_goes 131 = .ok (.iload 5, 2) := by decide +kernel
theorem dX7_goes_133 : decode cX7_goes 133 = .ok (.imul, 1) := by decide +kernel
theorem dX7_goes_134 : decode cX7_goes 134 = .ok (.bipush 20, 2) := by decide +kernel
theorem dX7_goes_136 : decode cX7_goes 136 = .ok (.iadd, 1) := by decide +kernel
theorem dX7_goes_137 : decode cX7_goes 137 = .ok (.ireturn, 1) := by decide +kernel
theorem dX7_cord_0 : decode cX7_cord 0 = .ok (.aload_n 0, 1) := by decide +kernel
theorem dX7_cord_1 : decode cX7_cord 1 = .ok (.iload_n 1, 1) := by decide +kernel
theorem dX7_cord_2 : decode cX7_cord 2 = .ok (.invokevirtual 186, 3) := by decide +kernel
theorem dX7_cord_5 : decode cX7_cord 5 = .ok (.ifCond .ne 6, 3) := by decide +kernel
theorem dX7_cord_8 : decode cX7_cord 8 = .ok (.bipush (-2), 2) := by decide +kernel
theorem dX7_cord_10 : decode cX7_cord 10 = .ok (.ireturn, 1) := by decide +kernel
theorem dX7_cord_11 : decode cX7_cord 11 = .ok (.iload_n 2, 1) := by decide +kernel
theorem dX7_cord_12 : decode cX7_cord 12 = .ok (.invokestatic 180, 3) := by decide +kernel
theorem dX7_cord_15 : decode cX7_cord 15 = .ok (.ifCond .eq 23, 3) := by decide +kernel
theorem dX7_cord_18 : decode cX7_cord 18 = .ok (.iload_n 2, 1) := by decide +kernel
theorem dX7_cord_19 : decode cX7_cord 19 = .ok (.aload_n 0, 1) := by decide +kernel
theorem dX7_cord_20 : decode cX7_cord 20 = .ok (.getfield 29, 3) := by decide +kernel
theorem dX7_cord_23 : decode cX7_cord 23 = .ok (.iconst 4, 1) := by decide +kernel
theorem dX7_cord_24 : decode cX7_cord 24 = .ok (.iload_n 1, 1) := by decide +kernel
theorem dX7_cord_25 : decode cX7_cord 25 = .ok (.iadd, 1) := by decide +kernel
theorem dX7_cord_26 : decode cX7_cord 26 = .ok (.iaload, 1) := by decide +kernel
theorem dX7_cord_27 : decode cX7_cord 27 = .ok (.invokestatic 197, 3) := by decide +kernel
theorem dX7_cord_30 : decode cX7_cord 30 = .ok (.aload_n 0, 1) := by decide +kernel
theorem dX7_cord_31 : decode cX7_cord 31 = .ok (.iload_n 1, 1) := by decide +kernel
theorem dX7_cord_32 : decode cX7_cord 32 = .ok (.invokevirtual 189, 3) := by decide +kernel
theorem dX7_cord_35 : decode cX7_cord 35 = .ok (.if_icmp .le 6, 3) := by decide +kernel
theorem dX7_cord_38 : decode cX7_cord 38 = .ok (.bipush (-3), 2) := by decide +kernel
theorem dX7_cord_40 : decode cX7_cord 40 = .ok (.ireturn, 1) := by decide +kernel
theorem dX7_cord_41 : decode cX7_cord 41 = .ok (.aload_n 0, 1) := by decide +kernel
theorem dX7_cord_42 : decode cX7_cord 42 = .ok (.getfield 29, 3) := by decide +kernel
theorem dX7_cord_45 : decode cX7_cord 45 = .ok (.iload_n 1, 1) := by decide +kernel
theorem dX7_cord_46 : decode cX7_cord 46 = .ok (.iaload, 1) := by decide +kernel
theorem dX7_cord_47 : decode cX7_cord 47 = .ok (.sipush 160, 3) := by decide +kernel
theorem dX7_cord_50 : decode cX7_cord 50 = .ok (.if_icmp .eq 15, 3) := by decide +kernel
theorem dX7_cord_53 : decode cX7_cord 53 = .ok (.aload_n 0, 1) := by decide +kernel
theorem dX7_cord_54 : decode cX7_cord 54 = .ok (.getfield 29, 3) := by decide +kernel
theorem dX7_cord_57 : decode cX7_cord 57 = .ok (.bipush 20, 2) := by decide +kernel
theorem dX7_cord_59 : decode cX7_cord 59 = .ok (.iaload, 1) := by decide +kernel
theorem dX7_cord_60 : decode cX7_cord 60 = .ok (.bipush 24, 2) := by decide +kernel
theorem dX7_cord_62 : decode cX7_cord 62 = .ok (.if_icmp .ne 6, 3) := by decide +kernel
theorem dX7_cord_65 : decode cX7_cord 65 = .ok (.bipush (-4), 2) := by decide +kernel
end
section
theorem dX7_cord_67 : decode cX7_cord 67 = .ok (.ireturn, 1) := by decide +kernel
theorem dX7_cord_68 : decode cX7_cord 68 = .ok (.iload_n 2, 1) := by decide +kernel
theorem dX7_cord_69 : decode cX7_cord 69 = .ok (.aload_n 0, 1) := by decide +kernel
theorem dX7_cord_70 : decode cX7_cord 70 = .ok (.getfield 29, 3) := by decide +kernel
theorem dX7_cord_73 : decode cX7_cord 73 = .ok (.bipush 8, 2) := by decide +kernel
theorem dX7_cord_75 : decode cX7_cord 75 = .ok (.iload_n 1, 1) := by decide +kernel
theorem dX7_cord_76 : decode cX7_cord 76 = .ok (.iadd, 1) := by decide +kernel
theorem dX7_cord_77 : decode cX7_cord 77 = .ok (.iaload, 1) := by decide +kernel
theorem dX7_cord_78 : decode cX7_cord 78 = .ok (.invokestatic 197, 3) := by decide +kernel
theorem dX7_cord_81 : decode cX7_cord 81 = .ok (.istore_n 3, 1) := by decide +kernel
theorem dX7_cord_82 : decode cX7_cord 82 = .ok (.aload_n 0, 1) := by decide +kernel
theorem dX7_cord_83 : decode cX7_cord 83 = .ok (.getfield 29, 3) := by decide +kernel
theorem dX7_cord_86 : decode cX7_cord 86 = .ok (.bipush 8, 2) := by decide +kernel
theorem dX7_cord_88 : decode cX7_cord 88 = .ok (.iload_n 1, 1) := by decide +kernel
theorem dX7_cord_89 : decode cX7_cord 89 = .ok (.iadd, 1) := by decide +kernel
theorem dX7_cord_90 : decode cX7_cord 90 = .ok (.iload_n 2, 1) := by decide +kernel
theorem dX7_cord_91 : decode cX7_cord 91 = .ok (.iastore, 1) := by decide +kernel
theorem dX7_cord_92 : decode cX7_cord 92 = .ok (.aload_n 0, 1) := by decide +kernel
theorem dX7_cord_93 : decode cX7_cord 93 = .ok (.getfield 29, 3) := by decide +kernel
theorem dX7_cord_96 : decode cX7_cord 96 = .ok (.bipush 12, 2) := by decide +kernel
theorem dX7_cord_98 : decode cX7_cord 98 = .ok (.iload_n 1, 1) := by decide +kernel
theorem dX7_cord_99 : decode cX7_cord 99 = .ok (.iadd, 1) := by decide +kernel
theorem dX7_cord_100 : decode cX7_cord 100 = .ok (.dup2, 1) := by decide +kernel
theorem dX7_cord_101 : decode cX7_cord 101 = .ok (.iaload, 1) := by decide +kernel
theorem dX7_cord_102 : decode cX7_cord 102 = .ok (.iload_n 3, 1) := by decide +kernel
theorem dX7_cord_103 : decode cX7_cord 103 = .ok (.iadd, 1) := by decide +kernel
theorem dX7_cord_104 : decode cX7_cord 104 = .ok (.iastore, 1) := by decide +kernel
theorem dX7_cord_105 : decode cX7_cord 105 = .ok (.iload_n 3, 1) := by decide +kernel
theorem dX7_cord_106 : decode cX7_cord 106 = .ok (.ireturn, 1) := by decide +kernel
theorem dX7_go_0 : decode cX7_go 0 = .ok (.iload_n 1, 1) := by decide +kernel
theorem dX7_go_1 : decode cX7_go 1 = .ok (.iconst 1, 1) := by decide +kernel
theorem dX7_go_2 : decode cX7_go 2 = .ok (.bipush 24, 2) := by decide +kernel
theorem dX7_go_4 : decode cX7_go 4 = .ok (.invokestatic 61, 3) := by decide +kernel
theorem dX7_go_7 : decode cX7_go 7 = .ok (.ifCond .ne 6, 3) := by decide +kernel
theorem dX7_go_10 : decode cX7_go 10 = .ok (.bipush (-3), 2) := by decide +kernel
theorem dX7_go_12 : decode cX7_go 12 = .ok (.ireturn, 1) := by decide +kernel
theorem dX7_go_13 : decode cX7_go 13 = .ok (.iconst 0, 1) := by decide +kernel
theorem dX7_go_14 : decode cX7_go 14 = .ok (.istore_n 2, 1) := by decide +kernel
theorem dX7_go_15 : decode cX7_go 15 = .ok (.iload_n 2, 1) := by decide +kernel
theorem dX7_go_16 : decode cX7_go 16 = .ok (.iload_n 1, 1) := by decide +kernel
theorem dX7_go_17 : decode cX7_go 17 = .ok (.if_icmp .ge 147, 3) := by decide +kernel
theorem dX7_go_20 : decode cX7_go 20 = .ok (.aload_n 0, 1) := by decide +kernel
theorem dX7_go_21 : decode cX7_go 21 = .ok (.getfield 29, 3) := by decide +kernel
theorem dX7_go_24 : decode cX7_go 24 = .ok (.bipush 20, 2) := by decide +kernel
theorem dX7_go_26 : decode cX7_go 26 = .ok (.iaload, 1) := by decide +kernel
theorem dX7_go_27 : decode cX7_go 27 = .ok (.bipush 24, 2) := by decide +kernel
theorem dX7_go_29 : decode cX7_go 29 = .ok (.if_icmp .ge 135, 3) := by decide +kernel
theorem dX7_go_32 : decode cX7_go 32 = .ok (.iconst 0, 1) := by decide +kernel
theorem dX7_go_33 : decode cX7_go 33 = .ok (.istore_n 3, 1) := by decide +kernel
theorem dX7_go_34 : decode cX7_go 34 = .ok (.iload_n 3, 1) := by decide +kernel
theorem dX7_go_35 : decode cX7_go 35 = .ok (.iconst 4, 1) := by decide +kernel
theorem dX7_go_36 : decode cX7_go 36 = .ok (.if_icmp .ge 111, 3) := by decide +kernel
theorem dX7_go_39 : decode cX7_go 39 = .ok (.aload_n 0, 1) := by decide +kernel
theorem dX7_go_40 : decode cX7_go 40 = .ok (.getfield 65, 3) := by decide +kernel
theorem dX7_go_43 : decode cX7_go 43 = .ok (.iload_n 3, 1) := by decide +kernel
theorem dX7_go_44 : decode cX7_go 44 = .ok (.invokestatic 68, 3) := by decide +kernel
theorem dX7_go_47 : decode cX7_go 47 = .ok (.ifCond .eq 94, 3) := by decide +kernel
theorem dX7_go_50 : decode cX7_go 50 = .ok (.aload_n 0, 1) := by decide +kernel
theorem dX7_go_51 : decode cX7_go 51 = .ok (.getfield 29, 3) := by decide +kernel
theorem dX7_go_54 : decode cX7_go 54 = .ok (.iload_n 3, 1) := by decide +kernel
theorem dX7_go_55 : decode cX7_go 55 = .ok (.iaload, 1) := by decide +kernel
theorem dX7_go_56 : decode cX7_go 56 = .ok (.sipush 160, 3) := by decide +kernel
theorem dX7_go_59 : decode cX7_go 59 = .ok (.if_icmp .eq 82, 3) := by decide +kernel
theorem dX7_go_62 : decode cX7_go 62 = .ok (.aload_n 0, 1) := by decide +kernel
theorem dX7_go_63 : decode cX7_go 63 = .ok (.getfield 29, 3) := by decide +kernel
theorem dX7_go_66 : decode cX7_go 66 = .ok (.bipush 8, 2) := by decide +kernel
theorem dX7_go_68 : decode cX7_go 68 = .ok (.iload_n 3, 1) := by decide +kernel
theorem dX7_go_69 : decode cX7_go 69 = .ok (.iadd, 1) := by decide +kernel
theorem dX7_go_70 : decode cX7_go 70 = .ok (.iaload, 1) := by decide +kernel
theorem dX7_go_71 : decode cX7_go 71 = .ok (.istore 4, 2) := by decide +kernel
theorem dX7_go_73 : decode cX7_go 73 = .ok (.aload_n 0, 1) := by decide +kernel
theorem dX7_go_74 : decode cX7_go 74 = .ok (.iload_n 3, 1) := by decide +kernel
theorem dX7_go_75 : decode cX7_go 75 = .ok (.aload_n 0, 1) := by decide +kernel
theorem dX7_go_76 : decode cX7_go 76 = .ok (.getfield 29, 3) := by decide +kernel
theorem dX7_go_79 : decode cX7_go 79 = .ok (.iload_n 3, 1) := by decide +kernel
theorem dX7_go_80 : decode cX7_go 80 = .ok (.iaload, 1) := by decide +kernel
theorem dX7_go_81 : decode cX7_go 81 = .ok (.iload 4, 2) := by decide +kernel
theorem dX7_go_83 : decode cX7_go 83 = .ok (.aload_n 0, 1) := by decide +kernel
theorem dX7_go_84 : decode cX7_go 84 = .ok (.getfield 29, 3) := by decide +kernel
theorem dX7_go_87 : decode cX7_go 87 = .ok (.bipush 20, 2) := by decide +kernel
theorem dX7_go_89 : decode cX7_go 89 = .ok (.iaload, 1) := by decide +kernel
theorem dX7_go_90 : decode cX7_go 90 = .ok (.invokevirtual 205, 3) := by decide +kernel
theorem dX7_go_93 : decode cX7_go 93 = .ok (.istore 5, 2) := by decide +kernel
theorem dX7_go_95 : decode cX7_go 95 = .ok (.aload_n 0, 1) := by decide +kernel
theorem dX7_go_96 : decode cX7_go 96 = .ok (.getfield 29, 3) := by decide +kernel
theorem dX7_go_99 : decode cX7_go 99 = .ok (.iconst 4, 1) := by decide +kernel
theorem dX7_go_100 : decode cX7_go 100 = .ok (.iload_n 3, 1) := by decide +kernel
theorem dX7_go_101 : decode cX7_go 101 = .ok (.iadd, 1) := by decide +kernel
theorem dX7_go_102 : decode cX7_go 102 = .ok (.iload 4, 2) := by decide +kernel
theorem dX7_go_104 : decode cX7_go 104 = .ok (.iastore, 1) := by decide +kernel
theorem dX7_go_105 : decode cX7_go 105 = .ok (.aload_n 0, 1) := by decide +kernel
theorem dX7_go_106 : decode cX7_go 106 = .ok (.getfield 29, 3) := by decide +kernel
theorem dX7_go_109 : decode cX7_go 109 = .ok (.bipush 16, 2) := by decide +kernel
theorem dX7_go_111 : decode cX7_go 111 = .ok (.iload_n 3, 1) := by decide +kernel
theorem dX7_go_112 : decode cX7_go 112 = .ok (.iadd, 1) := by decide +kernel
theorem dX7_go_113 : decode cX7_go 113 = .ok (.dup2, 1) := by decide +kernel
theorem dX7_go_114 : decode cX7_go 114 = .ok (.iaload, 1) := by decide +kernel
theorem dX7_go_115 : decode cX7_go 115 = .ok (.iload 5, 2) := by decide +kernel
theorem dX7_go_117 : decode cX7_go 117 = .ok (.aload_n 0, 1) := by decide +kernel
theorem dX7_go_118 : decode cX7_go 118 = .ok (.getfield 29, 3) := by decide +kernel
theorem dX7_go_121 : decode cX7_go 121 = .ok (.iload_n 3, 1) := by decide +kernel
theorem dX7_go_122 : decode cX7_go 122 = .ok (.iaload, 1) := by decide +kernel
theorem dX7_go_123 : decode cX7_go 123 = .ok (.if_icmp .ne 7, 3) := by decide +kernel
theorem dX7_go_126 : decode cX7_go 126 = .ok (.iconst 1, 1) := by decide +kernel
theorem dX7_go_127 : decode cX7_go 127 = .ok (.goto 4, 3) := by decide +kernel
theorem dX7_go_130 : decode cX7_go 130 = .ok (.iconst 0, 1) := by decide +kernel
theorem dX7_go_131 : decode cX7_go 131 = .ok (.iadd, 1) := by decide +kernel
theorem dX7_go_132 : decode cX7_go 132 = .ok (.iastore, 1) := by decide +kernel
theorem dX7_go_133 : decode cX7_go 133 = .ok (.aload_n 0, 1) := by decide +kernel
theorem dX7_go_134 : decode cX7_go 134 = .ok (.getfield 29, 3) := by decide +kernel
theorem dX7_go_137 : decode cX7_go 137 = .ok (.iload_n 3, 1) := by decide +kernel
theorem dX7_go_138 : decode cX7_go 138 = .ok (.iload 5, 2) := by decide +kernel
theorem dX7_go_140 : decode cX7_go 140 = .ok (.iastore, 1) := by decide +kernel
theorem dX7_go_141 : decode cX7_go 141 = .ok (.iinc 3 1, 3) := by decide +kernel
theorem dX7_go_144 : decode cX7_go 144 = .ok (.goto (-110), 3) := by decide +kernel
theorem dX7_go_147 : decode cX7_go 147 = .ok (.aload_n 0, 1) := by decide +kernel
theorem dX7_go_148 : decode cX7_go 148 = .ok (.getfield 29, 3) := by decide +kernel
theorem dX7_go_151 : decode cX7_go 151 = .ok (.bipush 20, 2) := by decide +kernel
theorem dX7_go_153 : decode cX7_go 153 = .ok (.dup2, 1) := by decide +kernel
theorem dX7_go_154 : decode cX7_go 154 = .ok (.iaload, 1) := by decide +kernel
theorem dX7_go_155 : decode cX7_go 155 = .ok (.iconst 1, 1) := by decide +kernel
theorem dX7_go_156 : decode cX7_go 156 = .ok (.iadd, 1) := by decide +kernel
theorem dX7_go_157 : decode cX7_go 157 = .ok (.iastore, 1) := by decide +kernel
theorem dX7_go_158 : decode cX7_go 158 = .ok (.iinc 2 1, 3) := by decide +kernel
theorem dX7_go_161 : decode cX7_go 161 = .ok (.goto (-146), 3) := by decide +kernel
theorem dX7_go_164 : decode cX7_go 164 = .ok (.aload_n 0, 1) := by decide +kernel
theorem dX7_go_165 : decode cX7_go 165 = .ok (.getfield 29, 3) := by decide +kernel
theorem dX7_go_168 : decode cX7_go 168 = .ok (.bipush 20, 2) := by decide +kernel
theorem dX7_go_170 : decode cX7_go 170 = .ok (.iaload, 1) := by decide +kernel
theorem dX7_go_171 : decode cX7_go 171 = .ok (.ireturn, 1) := by decide +kernel
theorem dX7_at_0 : decode cX7_at 0 = .ok (.aload_n 0, 1) := by decide +kernel
theorem dX7_at_1 : decode cX7_at 1 = .ok (.iload_n 1, 1) := by decide +kernel
theorem dX7_at_2 : decode cX7_at 2 = .ok (.invokevirtual 186, 3) := by decide +kernel
theorem dX7_at_5 : decode cX7_at 5 = .ok (.ifCond .ne 6, 3) := by decide +kernel
theorem dX7_at_8 : decode cX7_at 8 = .ok (.bipush (-2), 2) := by decide +kernel
theorem dX7_at_10 : decode cX7_at 10 = .ok (.ireturn, 1) := by decide +kernel
theorem dX7_at_11 : decode cX7_at 11 = .ok (.iload_n 2, 1) := by decide +kernel
theorem dX7_at_12 : decode cX7_at 12 = .ok (.tableswitch 118 0 4 #[36, 62, 88, 98, 108], 36) := by decide +kernel
theorem dX7_at_48 : decode cX7_at 48 = .ok (.aload_n 0, 1) := by decide +kernel
theorem dX7_at_49 : decode cX7_at 49 = .ok (.getfield 29, 3) := by decide +kernel
theorem dX7_at_52 : decode cX7_at 52 = .ok (.iload_n 1, 1) := by decide +kernel
theorem dX7_at_53 : decode cX7_at 53 = .ok (.iaload, 1) := by decide +kernel
theorem dX7_at_54 : decode cX7_at 54 = .ok (.sipush 160, 3) := by decide +kernel
theorem dX7_at_57 : decode cX7_at 57 = .ok (.if_icmp .ne 7, 3) := by decide +kernel
theorem dX7_at_60 : decode cX7_at 60 = .ok (.iconst (-1), 1) := by decide +kernel
theorem dX7_at_61 : decode cX7_at 61 = .ok (.goto 12, 3) := by decide +kernel
theorem dX7_at_64 : decode cX7_at 64 = .ok (.aload_n 0, 1) := by decide +kernel
theorem dX7_at_65 : decode cX7_at 65 = .ok (.getfield 29, 3) := by decide +kernel
theorem dX7_at_68 : decode cX7_at 68 = .ok (.iload_n 1, 1) := by decide +kernel
theorem dX7_at_69 : decode cX7_at 69 = .ok (.iaload, 1) := by decide +kernel
theorem dX7_at_70 : decode cX7_at 70 = .ok (.bipush 20, 2) := by decide +kernel
theorem dX7_at_72 : decode cX7_at 72 = .ok (.idiv, 1) := by decide +kernel
theorem dX7_at_73 : decode cX7_at 73 = .ok (.ireturn, 1) := by decide +kernel
theorem dX7_at_74 : decode cX7_at 74 = .ok (.aload_n 0, 1) := by decide +kernel
theorem dX7_at_75 : decode cX7_at 75 = .ok (.getfield 29, 3) := by decide +kernel
theorem dX7_at_78 : decode cX7_at 78 = .ok (.iload_n 1, 1) := by decide +kernel
theorem dX7_at_79 : decode cX7_at 79 = .ok (.iaload, 1) := by decide +kernel
theorem dX7_at_80 : decode cX7_at 80 = .ok (.sipush 160, 3) := by decide +kernel
theorem dX7_at_83 : decode cX7_at 83 = .ok (.if_icmp .ne 7, 3) := by decide +kernel
theorem dX7_at_86 : decode cX7_at 86 = .ok (.iconst 0, 1) := by decide +kernel
theorem dX7_at_87 : decode cX7_at 87 = .ok (.goto 12, 3) := by decide +kernel
theorem dX7_at_90 : decode cX7_at 90 = .ok (.aload_n 0, 1) := by decide +kernel
theorem dX7_at_91 : decode cX7_at 91 = .ok (.getfield 29, 3) := by decide +kernel
theorem dX7_at_94 : decode cX7_at 94 = .ok (.iload_n 1, 1) := by decide +kernel
theorem dX7_at_95 : decode cX7_at 95 = .ok (.iaload, 1) := by decide +kernel
theorem dX7_at_96 : decode cX7_at 96 = .ok (.bipush 20, 2) := by decide +kernel
theorem dX7_at_98 : decode cX7_at 98 = .ok (.irem, 1) := by decide +kernel
theorem dX7_at_99 : decode cX7_at 99 = .ok (.ireturn, 1) := by decide +kernel
theorem dX7_at_100 : decode cX7_at 100 = .ok (.aload_n 0, 1) := by decide +kernel
theorem dX7_at_101 : decode cX7_at 101 = .ok (.getfield 29, 3) := by decide +kernel
theorem dX7_at_104 : decode cX7_at 104 = .ok (.bipush 8, 2) := by decide +kernel
theorem dX7_at_106 : decode cX7_at 106 = .ok (.iload_n 1, 1) := by decide +kernel
theorem dX7_at_107 : decode cX7_at 107 = .ok (.iadd, 1) := by decide +kernel
theorem dX7_at_108 : decode cX7_at 108 = .ok (.iaload, 1) := by decide +kernel
theorem dX7_at_109 : decode cX7_at 109 = .ok (.ireturn, 1) := by decide +kernel
theorem dX7_at_110 : decode cX7_at 110 = .ok (.aload_n 0, 1) := by decide +kernel
theorem dX7_at_111 : decode cX7_at 111 = .ok (.getfield 29, 3) := by decide +kernel
theorem dX7_at_114 : decode cX7_at 114 = .ok (.bipush 12, 2) := by decide +kernel
theorem dX7_at_116 : decode cX7_at 116 = .ok (.iload_n 1, 1) := by decide +kernel
theorem dX7_at_117 : decode cX7_at 117 = .ok (.iadd, 1) := by decide +kernel
theorem dX7_at_118 : decode cX7_at 118 = .ok (.iaload, 1) := by decide +kernel
theorem dX7_at_119 : decode cX7_at 119 = .ok (.ireturn, 1) := by decide +kernel
theorem dX7_at_120 : decode cX7_at 120 = .ok (.aload_n 0, 1) := by decide +kernel
theorem dX7_at_121 : decode cX7_at 121 = .ok (.getfield 29, 3) := by decide +kernel
theorem dX7_at_124 : decode cX7_at 124 = .ok (.bipush 16, 2) := by decide +kernel
theorem dX7_at_126 : decode cX7_at 126 = .ok (.iload_n 1, 1) := by decide +kernel
theorem dX7_at_127 : decode cX7_at 127 = .ok (.iadd, 1) := by decide +kernel
theorem dX7_at_128 : decode cX7_at 128 = .ok (.iaload, 1) := by decide +kernel
theorem dX7_at_129 : decode cX7_at 129 = .ok (.ireturn, 1) := by decide +kernel
theorem dX7_at_130 : decode cX7_at 130 = .ok (.bipush (-3), 2) := by decide +kernel
theorem dX7_at_132 : decode cX7_at 132 = .ok (.ireturn, 1) := by decide +kernel
theorem dX7_isKnot_0 : decode cX7_isKnot 0 = .ok (.iload_n 0, 1) := by decide +kernel
theorem dX7_isKnot_1 : decode cX7_isKnot 1 = .ok (.sipush 160, 3) := by decide +kernel
theorem dX7_isKnot_4 : decode cX7_isKnot 4 = .ok (.if_icmp .eq 39, 3) := by decide +kernel
theorem dX7_isKnot_7 : decode cX7_isKnot 7 = .ok (.iload_n 2, 1) := by decide +kernel
theorem dX7_isKnot_8 : decode cX7_isKnot 8 = .ok (.sipush 160, 3) := by decide +kernel
theorem dX7_isKnot_11 : decode cX7_isKnot 11 = .ok (.if_icmp .eq 32, 3) := by decide +kernel
theorem dX7_isKnot_14 : decode cX7_isKnot 14 = .ok (.iload_n 0, 1) := by decide +kernel
theorem dX7_isKnot_15 : decode cX7_isKnot 15 = .ok (.bipush 20, 2) := by decide +kernel
theorem dX7_isKnot_17 : decode cX7_isKnot 17 = .ok (.idiv, 1) := by decide +kernel
theorem dX7_isKnot_18 : decode cX7_isKnot 18 = .ok (.iload_n 2, 1) := by decide +kernel
theorem dX7_isKnot_19 : decode cX7_isKnot 19 = .ok (.bipush 20, 2) := by decide +kernel
theorem dX7_isKnot_21 : decode cX7_isKnot 21 = .ok (.idiv, 1) := by decide +kernel
theorem dX7_isKnot_22 : decode cX7_isKnot 22 = .ok (.if_icmp .ne 21, 3) := by decide +kernel
theorem dX7_isKnot_25 : decode cX7_isKnot 25 = .ok (.iload_n 1, 1) := by decide +kernel
theorem dX7_isKnot_26 : decode cX7_isKnot 26 = .ok (.iload_n 3, 1) := by decide +kernel
theorem dX7_isKnot_27 : decode cX7_isKnot 27 = .ok (.if_icmp .ne 16, 3) := by decide +kernel
theorem dX7_isKnot_30 : decode cX7_isKnot 30 = .ok (.iload_n 0, 1) := by decide +kernel
theorem dX7_isKnot_31 : decode cX7_isKnot 31 = .ok (.iload_n 2, 1) := by decide +kernel
theorem dX7_isKnot_32 : decode cX7_isKnot 32 = .ok (.invokestatic 197, 3) := by decide +kernel
theorem dX7_isKnot_35 : decode cX7_isKnot 35 = .ok (.iconst 2, 1) := by decide +kernel
theorem dX7_isKnot_36 : decode cX7_isKnot 36 = .ok (.if_icmp .ge 7, 3) := by decide +kernel
theorem dX7_isKnot_39 : decode cX7_isKnot 39 = .ok (.iconst 1, 1) := by decide +kernel
theorem dX7_isKnot_40 : decode cX7_isKnot 40 = .ok (.goto 4, 3) := by decide +kernel
theorem dX7_isKnot_43 : decode cX7_isKnot 43 = .ok (.iconst 0, 1) := by decide +kernel
theorem dX7_isKnot_44 : decode cX7_isKnot 44 = .ok (.ireturn, 1) := by decide +kernel
theorem dX7_knots_0 : decode cX7_knots 0 = .ok (.aload_n 0, 1) := by decide +kernel
theorem dX7_knots_1 : decode cX7_knots 1 = .ok (.iload_n 1, 1) := by decide +kernel
theorem dX7_knots_2 : decode cX7_knots 2 = .ok (.invokevirtual 186, 3) := by decide +kernel
theorem dX7_knots_5 : decode cX7_knots 5 = .ok (.ifCond .ne 6, 3) := by decide +kernel
theorem dX7_knots_8 : decode cX7_knots 8 = .ok (.bipush (-2), 2) := by decide +kernel
theorem dX7_knots_10 : decode cX7_knots 10 = .ok (.ireturn, 1) := by decide +kernel
theorem dX7_knots_11 : decode cX7_knots 11 = .ok (.iconst 0, 1) := by decide +kernel
theorem dX7_knots_12 : decode cX7_knots 12 = .ok (.istore_n 2, 1) := by decide +kernel
theorem dX7_knots_13 : decode cX7_knots 13 = .ok (.iconst 0, 1) := by decide +kernel
theorem dX7_knots_14 : decode cX7_knots 14 = .ok (.istore_n 3, 1) := by decide +kernel
theorem dX7_knots_15 : decode cX7_knots 15 = .ok (.iload_n 3, 1) := by decide +kernel
theorem dX7_knots_16 : decode cX7_knots 16 = .ok (.iconst 4, 1) := by decide +kernel
theorem dX7_knots_17 : decode cX7_knots 17 = .ok (.if_icmp .ge 71, 3) := by decide +kernel
theorem dX7_knots_20 : decode cX7_knots 20 = .ok (.iload_n 2, 1) := by decide +kernel
theorem dX7_knots_21 : decode cX7_knots 21 = .ok (.iload_n 3, 1) := by decide +kernel
theorem dX7_knots_22 : decode cX7_knots 22 = .ok (.iload_n 1, 1) := by decide +kernel
theorem dX7_knots_23 : decode cX7_knots 23 = .ok (.if_icmp .eq 56, 3) := by decide +kernel
theorem dX7_knots_26 : decode cX7_knots 26 = .ok (.aload_n 0, 1) := by decide +kernel
theorem dX7_knots_27 : decode cX7_knots 27 = .ok (.getfield 65, 3) := by decide +kernel
theorem dX7_knots_30 : decode cX7_knots 30 = .ok (.iload_n 3, 1) := by decide +kernel
theorem dX7_knots_31 : decode cX7_knots 31 = .ok (.invokestatic 68, 3) := by decide +kernel
theorem dX7_knots_34 : decode cX7_knots 34 = .ok (.ifCond .eq 45, 3) := by decide +kernel
theorem dX7_knots_37 : decode cX7_knots 37 = .ok (.aload_n 0, 1) := by decide +kernel
theorem dX7_knots_38 : decode cX7_knots 38 = .ok (.getfield 29, 3) := by decide +kernel
theorem dX7_knots_41 : decode cX7_knots 41 = .ok (.iload_n 1, 1) := by decide +kernel
theorem dX7_knots_42 : decode cX7_knots 42 = .ok (.iaload, 1) := by decide +kernel
theorem dX7_knots_43 : decode cX7_knots 43 = .ok (.aload_n 0, 1) := by decide +kernel
theorem dX7_knots_44 : decode cX7_knots 44 = .ok (.getfield 29, 3) := by decide +kernel
theorem dX7_knots_47 : decode cX7_knots 47 = .ok (.bipush 8, 2) := by decide +kernel
theorem dX7_knots_49 : decode cX7_knots 49 = .ok (.iload_n 1, 1) := by decide +kernel
theorem dX7_knots_50 : decode cX7_knots 50 = .ok (.iadd, 1) := by decide +kernel
theorem dX7_knots_51 : decode cX7_knots 51 = .ok (.iaload, 1) := by decide +kernel
theorem dX7_knots_52 : decode cX7_knots 52 = .ok (.aload_n 0, 1) := by decide +kernel
theorem dX7_knots_53 : decode cX7_knots 53 = .ok (.getfield 29, 3) := by decide +kernel
theorem dX7_knots_56 : decode cX7_knots 56 = .ok (.iload_n 3, 1) := by decide +kernel
theorem dX7_knots_57 : decode cX7_knots 57 = .ok (.iaload, 1) := by decide +kernel
theorem dX7_knots_58 : decode cX7_knots 58 = .ok (.aload_n 0, 1) := by decide +kernel
theorem dX7_knots_59 : decode cX7_knots 59 = .ok (.getfield 29, 3) := by decide +kernel
theorem dX7_knots_62 : decode cX7_knots 62 = .ok (.bipush 8, 2) := by decide +kernel
theorem dX7_knots_64 : decode cX7_knots 64 = .ok (.iload_n 3, 1) := by decide +kernel
theorem dX7_knots_65 : decode cX7_knots 65 = .ok (.iadd, 1) := by decide +kernel
theorem dX7_knots_66 : decode cX7_knots 66 = .ok (.iaload, 1) := by decide +kernel
theorem dX7_knots_67 : decode cX7_knots 67 = .ok (.invokestatic 208, 3) := by decide +kernel
theorem dX7_knots_70 : decode cX7_knots 70 = .ok (.ifCond .eq 9, 3) := by decide +kernel
theorem dX7_knots_73 : decode cX7_knots 73 = .ok (.iconst 1, 1) := by decide +kernel
theorem dX7_knots_74 : decode cX7_knots 74 = .ok (.iload_n 3, 1) := by decide +kernel
theorem dX7_knots_75 : decode cX7_knots 75 = .ok (.ishl, 1) := by decide +kernel
theorem dX7_knots_76 : decode cX7_knots 76 = .ok (.goto 4, 3) := by decide +kernel
theorem dX7_knots_79 : decode cX7_knots 79 = .ok (.iconst 0, 1) := by decide +kernel
theorem dX7_knots_80 : decode cX7_knots 80 = .ok (.ior, 1) := by decide +kernel
theorem dX7_knots_81 : decode cX7_knots 81 = .ok (.istore_n 2, 1) := by decide +kernel
theorem dX7_knots_82 : decode cX7_knots 82 = .ok (.iinc 3 1, 3) := by decide +kernel
theorem dX7_knots_85 : decode cX7_knots 85 = .ok (.goto (-70), 3) := by decide +kernel
theorem dX7_knots_88 : decode cX7_knots 88 = .ok (.iload_n 2, 1) := by decide +kernel
theorem dX7_knots_89 : decode cX7_knots 89 = .ok (.ireturn, 1) := by decide +kernel
theorem dX7_keep_0 : decode cX7_keep 0 = .ok (.iload_n 1, 1) := by decide +kernel
theorem dX7_keep_1 : decode cX7_keep 1 = .ok (.iconst 0, 1) := by decide +kernel
theorem dX7_keep_2 : decode cX7_keep 2 = .ok (.iconst 1, 1) := by decide +kernel
theorem dX7_keep_3 : decode cX7_keep 3 = .ok (.invokestatic 61, 3) := by decide +kernel
theorem dX7_keep_6 : decode cX7_keep 6 = .ok (.ifCond .ne 6, 3) := by decide +kernel
theorem dX7_keep_9 : decode cX7_keep 9 = .ok (.bipush (-2), 2) := by decide +kernel
theorem dX7_keep_11 : decode cX7_keep 11 = .ok (.ireturn, 1) := by decide +kernel
theorem dX7_keep_12 : decode cX7_keep 12 = .ok (.iconst 0, 1) := by decide +kernel
theorem dX7_keep_13 : decode cX7_keep 13 = .ok (.istore_n 2, 1) := by decide +kernel
theorem dX7_keep_14 : decode cX7_keep 14 = .ok (.iload_n 2, 1) := by decide +kernel
theorem dX7_keep_15 : decode cX7_keep 15 = .ok (.bipush 21, 2) := by decide +kernel
theorem dX7_keep_17 : decode cX7_keep 17 = .ok (.if_icmp .ge 26, 3) := by decide +kernel
theorem dX7_keep_20 : decode cX7_keep 20 = .ok (.aload_n 0, 1) := by decide +kernel
theorem dX7_keep_21 : decode cX7_keep 21 = .ok (.getfield 32, 3) := by decide +kernel
theorem dX7_keep_24 : decode cX7_keep 24 = .ok (.bipush 21, 2) := by decide +kernel
theorem dX7_keep_26 : decode cX7_keep 26 = .ok (.iload_n 1, 1) := by decide +kernel
theorem dX7_keep_27 : decode cX7_keep 27 = .ok (.imul, 1) := by decide +kernel
theorem dX7_keep_28 : decode cX7_keep 28 = .ok (.iload_n 2, 1) := by decide +kernel
theorem dX7_keep_29 : decode cX7_keep 29 = .ok (.iadd, 1) := by decide +kernel
theorem dX7_keep_30 : decode cX7_keep 30 = .ok (.aload_n 0, 1) := by decide +kernel
theorem dX7_keep_31 : decode cX7_keep 31 = .ok (.getfield 29, 3) := by decide +kernel
theorem dX7_keep_34 : decode cX7_keep 34 = .ok (.iload_n 2, 1) := by decide +kernel
theorem dX7_keep_35 : decode cX7_keep 35 = .ok (.iaload, 1) := by decide +kernel
theorem dX7_keep_36 : decode cX7_keep 36 = .ok (.iastore, 1) := by decide +kernel
theorem dX7_keep_37 : decode cX7_keep 37 = .ok (.iinc 2 1, 3) := by decide +kernel
theorem dX7_keep_40 : decode cX7_keep 40 = .ok (.goto (-26), 3) := by decide +kernel
theorem dX7_keep_43 : decode cX7_keep 43 = .ok (.aload_n 0, 1) := by decide +kernel
theorem dX7_keep_44 : decode cX7_keep 44 = .ok (.getfield 35, 3) := by decide +kernel
theorem dX7_keep_47 : decode cX7_keep 47 = .ok (.iload_n 1, 1) := by decide +kernel
theorem dX7_keep_48 : decode cX7_keep 48 = .ok (.iconst 1, 1) := by decide +kernel
theorem dX7_keep_49 : decode cX7_keep 49 = .ok (.bastore, 1) := by decide +kernel
theorem dX7_keep_50 : decode cX7_keep 50 = .ok (.aload_n 0, 1) := by decide +kernel
theorem dX7_keep_51 : decode cX7_keep 51 = .ok (.getfield 29, 3) := by decide +kernel
theorem dX7_keep_54 : decode cX7_keep 54 = .ok (.bipush 20, 2) := by decide +kernel
theorem dX7_keep_56 : decode cX7_keep 56 = .ok (.iaload, 1) := by decide +kernel
theorem dX7_keep_57 : decode cX7_keep 57 = .ok (.ireturn, 1) := by decide +kernel
theorem dX7_back_0 : decode cX7_back 0 = .ok (.iload_n 1, 1) := by decide +kernel
theorem dX7_back_1 : decode cX7_back 1 = .ok (.iconst 0, 1) := by decide +kernel
theorem dX7_back_2 : decode cX7_back 2 = .ok (.iconst 1, 1) := by decide +kernel
theorem dX7_back_3 : decode cX7_back 3 = .ok (.invokestatic 61, 3) := by decide +kernel
theorem dX7_back_6 : decode cX7_back 6 = .ok (.ifCond .ne 6, 3) := by decide +kernel
theorem dX7_back_9 : decode cX7_back 9 = .ok (.bipush (-2), 2) := by decide +kernel
theorem dX7_back_11 : decode cX7_back 11 = .ok (.ireturn, 1) := by decide +kernel
theorem dX7_back_12 : decode cX7_back 12 = .ok (.aload_n 0, 1) := by decide +kernel
theorem dX7_back_13 : decode cX7_back 13 = .ok (.getfield 35, 3) := by decide +kernel
theorem dX7_back_16 : decode cX7_back 16 = .ok (.iload_n 1, 1) := by decide +kernel
theorem dX7_back_17 : decode cX7_back 17 = .ok (.baload, 1) := by decide +kernel
theorem dX7_back_18 : decode cX7_back 18 = .ok (.ifCond .ne 6, 3) := by decide +kernel
theorem dX7_back_21 : decode cX7_back 21 = .ok (.bipush (-4), 2) := by decide +kernel
theorem dX7_back_23 : decode cX7_back 23 = .ok (.ireturn, 1) := by decide +kernel
theorem dX7_back_24 : decode cX7_back 24 = .ok (.iconst 0, 1) := by decide +kernel
theorem dX7_back_25 : decode cX7_back 25 = .ok (.istore_n 2, 1) := by decide +kernel
theorem dX7_back_26 : decode cX7_back 26 = .ok (.iload_n 2, 1) := by decide +kernel
theorem dX7_back_27 : decode cX7_back 27 = .ok (.bipush 21, 2) := by decide +kernel
theorem dX7_back_29 : decode cX7_back 29 = .ok (.if_icmp .ge 26, 3) := by decide +kernel
theorem dX7_back_32 : decode cX7_back 32 = .ok (.aload_n 0, 1) := by decide +kernel
theorem dX7_back_33 : decode cX7_back 33 = .ok (.getfield 29, 3) := by decide +kernel
theorem dX7_back_36 : decode cX7_back 36 = .ok (.iload_n 2, 1) := by decide +kernel
theorem dX7_back_37 : decode cX7_back 37 = .ok (.aload_n 0, 1) := by decide +kernel
theorem dX7_back_38 : decode cX7_back 38 = .ok (.getfield 32, 3) := by decide +kernel
theorem dX7_back_41 : decode cX7_back 41 = .ok (.bipush 21, 2) := by decide +kernel
theorem dX7_back_43 : decode cX7_back 43 = .ok (.iload_n 1, 1) := by decide +kernel
theorem dX7_back_44 : decode cX7_back 44 = .ok (.imul, 1) := by decide +kernel
theorem dX7_back_45 : decode cX7_back 45 = .ok (.iload_n 2, 1) := by decide +kernel
theorem dX7_back_46 : decode cX7_back 46 = .ok (.iadd, 1) := by decide +kernel
theorem dX7_back_47 : decode cX7_back 47 = .ok (.iaload, 1) := by decide +kernel
theorem dX7_back_48 : decode cX7_back 48 = .ok (.iastore, 1) := by decide +kernel
theorem dX7_back_49 : decode cX7_back 49 = .ok (.iinc 2 1, 3) := by decide +kernel
theorem dX7_back_52 : decode cX7_back 52 = .ok (.goto (-26), 3) := by decide +kernel
theorem dX7_back_55 : decode cX7_back 55 = .ok (.aload_n 0, 1) := by decide +kernel
theorem dX7_back_56 : decode cX7_back 56 = .ok (.getfield 29, 3) := by decide +kernel
theorem dX7_back_59 : decode cX7_back 59 = .ok (.bipush 20, 2) := by decide +kernel
theorem dX7_back_61 : decode cX7_back 61 = .ok (.iaload, 1) := by decide +kernel
theorem dX7_back_62 : decode cX7_back 62 = .ok (.ireturn, 1) := by decide +kernel
theorem dX7_isPlace_0 : decode cX7_isPlace 0 = .ok (.iload_n 1, 1) := by decide +kernel
theorem dX7_isPlace_1 : decode cX7_isPlace 1 = .ok (.sipush 160, 3) := by decide +kernel
theorem dX7_isPlace_4 : decode cX7_isPlace 4 = .ok (.if_icmp .eq 34, 3) := by decide +kernel
theorem dX7_isPlace_7 : decode cX7_isPlace 7 = .ok (.iload_n 1, 1) := by decide +kernel
theorem dX7_isPlace_8 : decode cX7_isPlace 8 = .ok (.bipush 20, 2) := by decide +kernel
theorem dX7_isPlace_10 : decode cX7_isPlace 10 = .ok (.idiv, 1) := by decide +kernel
theorem dX7_isPlace_11 : decode cX7_isPlace 11 = .ok (.aload_n 0, 1) := by decide +kernel
theorem dX7_isPlace_12 : decode cX7_isPlace 12 = .ok (.getfield 160, 3) := by decide +kernel
theorem dX7_isPlace_15 : decode cX7_isPlace 15 = .ok (.if_icmp .ge 27, 3) := by decide +kernel
theorem dX7_isPlace_18 : decode cX7_isPlace 18 = .ok (.iload_n 1, 1) := by decide +kernel
theorem dX7_isPlace_19 : decode cX7_isPlace 19 = .ok (.bipush 20, 2) := by decide +kernel
theorem dX7_isPlace_21 : decode cX7_isPlace 21 = .ok (.irem, 1) := by decide +kernel
theorem dX7_isPlace_22 : decode cX7_isPlace 22 = .ok (.aload_n 0, 1) := by decide +kernel
theorem dX7_isPlace_23 : decode cX7_isPlace 23 = .ok (.getfield 7, 3) := by decide +kernel
theorem dX7_isPlace_26 : decode cX7_isPlace 26 = .ok (.iconst 3, 1) := by decide +kernel
theorem dX7_isPlace_27 : decode cX7_isPlace 27 = .ok (.iload_n 1, 1) := by decide +kernel
theorem dX7_isPlace_28 : decode cX7_isPlace 28 = .ok (.bipush 20, 2) := by decide +kernel
theorem dX7_isPlace_30 : decode cX7_isPlace 30 = .ok (.idiv, 1) := by decide +kernel
theorem dX7_isPlace_31 : decode cX7_isPlace 31 = .ok (.imul, 1) := by decide +kernel
theorem dX7_isPlace_32 : decode cX7_isPlace 32 = .ok (.iconst 1, 1) := by decide +kernel
theorem dX7_isPlace_33 : decode cX7_isPlace 33 = .ok (.iadd, 1) := by decide +kernel
theorem dX7_isPlace_34 : decode cX7_isPlace 34 = .ok (.iaload, 1) := by decide +kernel
theorem dX7_isPlace_35 : decode cX7_isPlace 35 = .ok (.if_icmp .ge 7, 3) := by decide +kernel
theorem dX7_isPlace_38 : decode cX7_isPlace 38 = .ok (.iconst 1, 1) := by decide +kernel
theorem dX7_isPlace_39 : decode cX7_isPlace 39 = .ok (.goto 4, 3) := by decide +kernel
theorem dX7_isPlace_42 : decode cX7_isPlace 42 = .ok (.iconst 0, 1) := by decide +kernel
theorem dX7_isPlace_43 : decode cX7_isPlace 43 = .ok (.ireturn, 1) := by decide +kernel
theorem dX7_through_0 : decode cX7_through 0 = .ok (.aload_n 0, 1) := by decide +kernel
theorem dX7_through_1 : decode cX7_through 1 = .ok (.iload_n 1, 1) := by decide +kernel
theorem dX7_through_2 : decode cX7_through 2 = .ok (.iload_n 2, 1) := by decide +kernel
theorem dX7_through_3 : decode cX7_through 3 = .ok (.iload 4, 2) := by decide +kernel
theorem dX7_through_5 : decode cX7_through 5 = .ok (.iload 5, 2) := by decide +kernel
theorem dX7_through_7 : decode cX7_through 7 = .ok (.invokevirtual 205, 3) := by decide +kernel
theorem dX7_through_10 : decode cX7_through 10 = .ok (.istore 6, 2) := by decide +kernel
theorem dX7_through_12 : decode cX7_through 12 = .ok (.iload_n 3, 1) := by decide +kernel
theorem dX7_through_13 : decode cX7_through 13 = .ok (.iload 4, 2) := by decide +kernel
theorem dX7_through_15 : decode cX7_through 15 = .ok (.invokestatic 197, 3) := by decide +kernel
theorem dX7_through_18 : decode cX7_through 18 = .ok (.aload_n 0, 1) := by decide +kernel
theorem dX7_through_19 : decode cX7_through 19 = .ok (.iload_n 1, 1) := by decide +kernel
theorem dX7_through_20 : decode cX7_through 20 = .ok (.invokevirtual 189, 3) := by decide +kernel
theorem dX7_through_23 : decode cX7_through 23 = .ok (.if_icmp .gt 27, 3) := by decide +kernel
theorem dX7_through_26 : decode cX7_through 26 = .ok (.iload 6, 2) := by decide +kernel
theorem dX7_through_28 : decode cX7_through 28 = .ok (.iload 4, 2) := by decide +kernel
theorem dX7_through_30 : decode cX7_through 30 = .ok (.aload_n 0, 1) := by decide +kernel
theorem dX7_through_31 : decode cX7_through 31 = .ok (.getfield 48, 3) := by decide +kernel
theorem dX7_through_34 : decode cX7_through 34 = .ok (.iload 5, 2) := by decide +kernel
theorem dX7_through_36 : decode cX7_through 36 = .ok (.iaload, 1) := by decide +kernel
theorem dX7_through_37 : decode cX7_through 37 = .ok (.aload_n 0, 1) := by decide +kernel
theorem dX7_through_38 : decode cX7_through 38 = .ok (.getfield 51, 3) := by decide +kernel
theorem dX7_through_41 : decode cX7_through 41 = .ok (.iload 5, 2) := by decide +kernel
theorem dX7_through_43 : decode cX7_through 43 = .ok (.iaload, 1) := by decide +kernel
theorem dX7_through_44 : decode cX7_through 44 = .ok (.invokestatic 208, 3) := by decide +kernel
theorem dX7_through_47 : decode cX7_through 47 = .ok (.ifCond .eq 6, 3) := by decide +kernel
theorem dX7_through_50 : decode cX7_through 50 = .ok (.ldc 212, 2) := by decide +kernel
theorem dX7_through_52 : decode cX7_through 52 = .ok (.ireturn, 1) := by decide +kernel
theorem dX7_through_53 : decode cX7_through 53 = .ok (.aload_n 0, 1) := by decide +kernel
theorem dX7_through_54 : decode cX7_through 54 = .ok (.getfield 39, 3) := by decide +kernel
theorem dX7_through_57 : decode cX7_through 57 = .ok (.sipush 966, 3) := by decide +kernel
theorem dX7_through_60 : decode cX7_through 60 = .ok (.iload 5, 2) := by decide +kernel
theorem dX7_through_62 : decode cX7_through 62 = .ok (.iconst 1, 1) := by decide +kernel
theorem dX7_through_63 : decode cX7_through 63 = .ok (.iadd, 1) := by decide +kernel
theorem dX7_through_64 : decode cX7_through 64 = .ok (.imul, 1) := by decide +kernel
theorem dX7_through_65 : decode cX7_through 65 = .ok (.bipush 6, 2) := by decide +kernel
theorem dX7_through_67 : decode cX7_through 67 = .ok (.iload 6, 2) := by decide +kernel
theorem dX7_through_69 : decode cX7_through 69 = .ok (.imul, 1) := by decide +kernel
theorem dX7_through_70 : decode cX7_through 70 = .ok (.iadd, 1) := by decide +kernel
theorem dX7_through_71 : decode cX7_through 71 = .ok (.iload 4, 2) := by decide +kernel
theorem dX7_through_73 : decode cX7_through 73 = .ok (.iadd, 1) := by decide +kernel
theorem dX7_through_74 : decode cX7_through 74 = .ok (.iaload, 1) := by decide +kernel
theorem dX7_through_75 : decode cX7_through 75 = .ok (.istore 7, 2) := by decide +kernel
theorem dX7_through_77 : decode cX7_through 77 = .ok (.iload 7, 2) := by decide +kernel
theorem dX7_through_79 : decode cX7_through 79 = .ok (.ldc 212, 2) := by decide +kernel
theorem dX7_through_81 : decode cX7_through 81 = .ok (.if_icmp .lt 8, 3) := by decide +kernel
theorem dX7_through_84 : decode cX7_through 84 = .ok (.ldc 212, 2) := by decide +kernel
theorem dX7_through_86 : decode cX7_through 86 = .ok (.goto 16, 3) := by decide +kernel
theorem dX7_through_89 : decode cX7_through 89 = .ok (.iload 7, 2) := by decide +kernel
theorem dX7_through_91 : decode cX7_through 91 = .ok (.sipush 1000, 3) := by decide +kernel
theorem dX7_through_94 : decode cX7_through 94 = .ok (.iadd, 1) := by decide +kernel
theorem dX7_through_95 : decode cX7_through 95 = .ok (.iload_n 3, 1) := by decide +kernel
theorem dX7_through_96 : decode cX7_through 96 = .ok (.iload 4, 2) := by decide +kernel
theorem dX7_through_98 : decode cX7_through 98 = .ok (.invokestatic 197, 3) := by decide +kernel
theorem dX7_through_101 : decode cX7_through 101 = .ok (.iadd, 1) := by decide +kernel
theorem dX7_through_102 : decode cX7_through 102 = .ok (.ireturn, 1) := by decide +kernel
theorem dX7_layLeft_0 : decode cX7_layLeft 0 = .ok (.bipush 24, 2) := by decide +kernel
theorem dX7_layLeft_2 : decode cX7_layLeft 2 = .ok (.istore_n 3, 1) := by decide +kernel
theorem dX7_layLeft_3 : decode cX7_layLeft 3 = .ok (.iload_n 3, 1) := by decide +kernel
theorem dX7_layLeft_4 : decode cX7_layLeft 4 = .ok (.iload_n 2, 1) := by decide +kernel
theorem dX7_layLeft_5 : decode cX7_layLeft 5 = .ok (.if_icmp .lt 136, 3) := by decide +kernel
theorem dX7_layLeft_8 : decode cX7_layLeft 8 = .ok (.iconst 0, 1) := by decide +kernel
theorem dX7_layLeft_9 : decode cX7_layLeft 9 = .ok (.istore 4, 2) := by decide +kernel
theorem dX7_layLeft_11 : decode cX7_layLeft 11 = .ok (.iload 4, 2) := by decide +kernel
theorem dX7_layLeft_13 : decode cX7_layLeft 13 = .ok (.sipush 966, 3) := by decide +kernel
theorem dX7_layLeft_16 : decode cX7_layLeft 16 = .ok (.if_icmp .ge 119, 3) := by decide +kernel
theorem dX7_layLeft_19 : decode cX7_layLeft 19 = .ok (.iload 4, 2) := by decide +kernel
theorem dX7_layLeft_21 : decode cX7_layLeft 21 = .ok (.bipush 6, 2) := by decide +kernel
theorem dX7_layLeft_23 : decode cX7_layLeft 23 = .ok (.idiv, 1) := by decide +kernel
theorem dX7_layLeft_24 : decode cX7_layLeft 24 = .ok (.istore 5, 2) := by decide +kernel
theorem dX7_layLeft_26 : decode cX7_layLeft 26 = .ok (.iload 5, 2) := by decide +kernel
theorem dX7_layLeft_28 : decode cX7_layLeft 28 = .ok (.sipush 160, 3) := by decide +kernel
theorem dX7_layLeft_31 : decode cX7_layLeft 31 = .ok (.if_icmp .ne 7, 3) := by decide +kernel
theorem dX7_layLeft_34 : decode cX7_layLeft 34 = .ok (.iconst 0, 1) := by decide +kernel
theorem dX7_layLeft_35 : decode cX7_layLeft 35 = .ok (.goto 5, 3) := by decide +kernel
theorem dX7_layLeft_38 : decode cX7_layLeft 38 = .ok (.ldc 212, 2) := by decide +kernel
theorem dX7_layLeft_40 : decode cX7_layLeft 40 = .ok (.istore 6, 2) := by decide +kernel
theorem dX7_layLeft_42 : decode cX7_layLeft 42 = .ok (.iconst 0, 1) := by decide +kernel
theorem dX7_layLeft_43 : decode cX7_layLeft 43 = .ok (.istore 7, 2) := by decide +kernel
theorem dX7_layLeft_45 : decode cX7_layLeft 45 = .ok (.iload 7, 2) := by decide +kernel
theorem dX7_layLeft_47 : decode cX7_layLeft 47 = .ok (.bipush 6, 2) := by decide +kernel
theorem dX7_layLeft_49 : decode cX7_layLeft 49 = .ok (.if_icmp .ge 65, 3) := by decide +kernel
theorem dX7_layLeft_52 : decode cX7_layLeft 52 = .ok (.iload_n 3, 1) := by decide +kernel
theorem dX7_layLeft_53 : decode cX7_layLeft 53 = .ok (.bipush 24, 2) := by decide +kernel
theorem dX7_layLeft_55 : decode cX7_layLeft 55 = .ok (.if_icmp .ge 59, 3) := by decide +kernel
theorem dX7_layLeft_58 : decode cX7_layLeft 58 = .ok (.iload 5, 2) := by decide +kernel
theorem dX7_layLeft_60 : decode cX7_layLeft 60 = .ok (.sipush 160, 3) := by decide +kernel
theorem dX7_layLeft_63 : decode cX7_layLeft 63 = .ok (.if_icmp .ge 51, 3) := by decide +kernel
theorem dX7_layLeft_66 : decode cX7_layLeft 66 = .ok (.aload_n 0, 1) := by decide +kernel
theorem dX7_layLeft_67 : decode cX7_layLeft 67 = .ok (.iload 5, 2) := by decide +kernel
theorem dX7_layLeft_69 : decode cX7_layLeft 69 = .ok (.invokevirtual 213, 3) := by decide +kernel
theorem dX7_layLeft_72 : decode cX7_layLeft 72 = .ok (.ifCond .eq 42, 3) := by decide +kernel
theorem dX7_layLeft_75 : decode cX7_layLeft 75 = .ok (.aload_n 0, 1) := by decide +kernel
theorem dX7_layLeft_76 : decode cX7_layLeft 76 = .ok (.iload_n 1, 1) := by decide +kernel
theorem dX7_layLeft_77 : decode cX7_layLeft 77 = .ok (.iload 5, 2) := by decide +kernel
theorem dX7_layLeft_79 : decode cX7_layLeft 79 = .ok (.iload 4, 2) := by decide +kernel
theorem dX7_layLeft_81 : decode cX7_layLeft 81 = .ok (.bipush 6, 2) := by decide +kernel
theorem dX7_layLeft_83 : decode cX7_layLeft 83 = .ok (.irem, 1) := by decide +kernel
theorem dX7_layLeft_84 : decode cX7_layLeft 84 = .ok (.iload 7, 2) := by decide +kernel
theorem dX7_layLeft_86 : decode cX7_layLeft 86 = .ok (.iload_n 3, 1) := by decide +kernel
theorem dX7_layLeft_87 : decode cX7_layLeft 87 = .ok (.invokevirtual 216, 3) := by decide +kernel
theorem dX7_layLeft_90 : decode cX7_layLeft 90 = .ok (.istore 8, 2) := by decide +kernel
theorem dX7_layLeft_92 : decode cX7_layLeft 92 = .ok (.iload 8, 2) := by decide +kernel
theorem dX7_layLeft_94 : decode cX7_layLeft 94 = .ok (.iload 6, 2) := by decide +kernel
theorem dX7_layLeft_96 : decode cX7_layLeft 96 = .ok (.if_icmp .ge 8, 3) := by decide +kernel
theorem dX7_layLeft_99 : decode cX7_layLeft 99 = .ok (.iload 8, 2) := by decide +kernel
theorem dX7_layLeft_101 : decode cX7_layLeft 101 = .ok (.goto 5, 3) := by decide +kernel
theorem dX7_layLeft_104 : decode cX7_layLeft 104 = .ok (.iload 6, 2) := by decide +kernel
theorem dX7_layLeft_106 : decode cX7_layLeft 106 = .ok (.istore 6, 2) := by decide +kernel
theorem dX7_layLeft_108 : decode cX7_layLeft 108 = .ok (.iinc 7 1, 3) := by decide +kernel
theorem dX7_layLeft_111 : decode cX7_layLeft 111 = .ok (.goto (-66), 3) := by decide +kernel
theorem dX7_layLeft_114 : decode cX7_layLeft 114 = .ok (.aload_n 0, 1) := by decide +kernel
theorem dX7_layLeft_115 : decode cX7_layLeft 115 = .ok (.getfield 39, 3) := by decide +kernel
theorem dX7_layLeft_118 : decode cX7_layLeft 118 = .ok (.sipush 966, 3) := by decide +kernel
theorem dX7_layLeft_121 : decode cX7_layLeft 121 = .ok (.iload_n 3, 1) := by decide +kernel
theorem dX7_layLeft_122 : decode cX7_layLeft 122 = .ok (.imul, 1) := by decide +kernel
theorem dX7_layLeft_123 : decode cX7_layLeft 123 = .ok (.iload 4, 2) := by decide +kernel
theorem dX7_layLeft_125 : decode cX7_layLeft 125 = .ok (.iadd, 1) := by decide +kernel
theorem dX7_layLeft_126 : decode cX7_layLeft 126 = .ok (.iload 6, 2) := by decide +kernel
theorem dX7_layLeft_128 : decode cX7_layLeft 128 = .ok (.iastore, 1) := by decide +kernel
theorem dX7_layLeft_129 : decode cX7_layLeft 129 = .ok (.iinc 4 1, 3) := by decide +kernel
theorem dX7_layLeft_132 : decode cX7_layLeft 132 = .ok (.goto (-121), 3) := by decide +kernel
theorem dX7_layLeft_135 : decode cX7_layLeft 135 = .ok (.iinc 3 (-1), 3) := by decide +kernel
theorem dX7_layLeft_138 : decode cX7_layLeft 138 = .ok (.goto (-135), 3) := by decide +kernel
theorem dX7_layLeft_141 : decode cX7_layLeft 141 = .ok (.return_, 1) := by decide +kernel
theorem dX7_noOther_0 : decode cX7_noOther 0 = .ok (.iconst 0, 1) := by decide +kernel
theorem dX7_noOther_1 : decode cX7_noOther 1 = .ok (.istore_n 1, 1) := by decide +kernel
theorem dX7_noOther_2 : decode cX7_noOther 2 = .ok (.iload_n 1, 1) := by decide +kernel
theorem dX7_noOther_3 : decode cX7_noOther 3 = .ok (.bipush 24, 2) := by decide +kernel
theorem dX7_noOther_5 : decode cX7_noOther 5 = .ok (.if_icmp .ge 25, 3) := by decide +kernel
theorem dX7_noOther_8 : decode cX7_noOther 8 = .ok (.aload_n 0, 1) := by decide +kernel
theorem dX7_noOther_9 : decode cX7_noOther 9 = .ok (.getfield 48, 3) := by decide +kernel
theorem dX7_noOther_12 : decode cX7_noOther 12 = .ok (.iload_n 1, 1) := by decide +kernel
theorem dX7_noOther_13 : decode cX7_noOther 13 = .ok (.sipush 160, 3) := by decide +kernel
theorem dX7_noOther_16 : decode cX7_noOther 16 = .ok (.iastore, 1) := by decide +kernel
theorem dX7_noOther_17 : decode cX7_noOther 17 = .ok (.aload_n 0, 1) := by decide +kernel
theorem dX7_noOther_18 : decode cX7_noOther 18 = .ok (.getfield 51, 3) := by decide +kernel
theorem dX7_noOther_21 : decode cX7_noOther 21 = .ok (.iload_n 1, 1) := by decide +kernel
theorem dX7_noOther_22 : decode cX7_noOther 22 = .ok (.iconst 0, 1) := by decide +kernel
theorem dX7_noOther_23 : decode cX7_noOther 23 = .ok (.iastore, 1) := by decide +kernel
theorem dX7_noOther_24 : decode cX7_noOther 24 = .ok (.iinc 1 1, 3) := by decide +kernel
theorem dX7_noOther_27 : decode cX7_noOther 27 = .ok (.goto (-25), 3) := by decide +kernel
theorem dX7_noOther_30 : decode cX7_noOther 30 = .ok (.return_, 1) := by decide +kernel
theorem dX7_findPlan_0 : decode cX7_findPlan 0 = .ok (.aload_n 0, 1) := by decide +kernel
theorem dX7_findPlan_1 : decode cX7_findPlan 1 = .ok (.iload_n 1, 1) := by decide +kernel
theorem dX7_findPlan_2 : decode cX7_findPlan 2 = .ok (.iload_n 2, 1) := by decide +kernel
theorem dX7_findPlan_3 : decode cX7_findPlan 3 = .ok (.invokevirtual 220, 3) := by decide +kernel
theorem dX7_findPlan_6 : decode cX7_findPlan 6 = .ok (.aload_n 0, 1) := by decide +kernel
theorem dX7_findPlan_7 : decode cX7_findPlan 7 = .ok (.invokevirtual 169, 3) := by decide +kernel
theorem dX7_findPlan_10 : decode cX7_findPlan 10 = .ok (.istore_n 3, 1) := by decide +kernel
theorem dX7_findPlan_11 : decode cX7_findPlan 11 = .ok (.iconst 0, 1) := by decide +kernel
theorem dX7_findPlan_12 : decode cX7_findPlan 12 = .ok (.istore 4, 2) := by decide +kernel
theorem dX7_findPlan_14 : decode cX7_findPlan 14 = .ok (.aload_n 0, 1) := by decide +kernel
theorem dX7_findPlan_15 : decode cX7_findPlan 15 = .ok (.getfield 39, 3) := by decide +kernel
theorem dX7_findPlan_18 : decode cX7_findPlan 18 = .ok (.sipush 966, 3) := by decide +kernel
theorem dX7_findPlan_21 : decode cX7_findPlan 21 = .ok (.iload_n 2, 1) := by decide +kernel
theorem dX7_findPlan_22 : decode cX7_findPlan 22 = .ok (.imul, 1) := by decide +kernel
theorem dX7_findPlan_23 : decode cX7_findPlan 23 = .ok (.bipush 6, 2) := by decide +kernel
theorem dX7_findPlan_25 : decode cX7_findPlan 25 = .ok (.iload_n 3, 1) := by decide +kernel
theorem dX7_findPlan_26 : decode cX7_findPlan 26 = .ok (.imul, 1) := by decide +kernel
theorem dX7_findPlan_27 : decode cX7_findPlan 27 = .ok (.iadd, 1) := by decide +kernel
theorem dX7_findPlan_28 : decode cX7_findPlan 28 = .ok (.iaload, 1) := by decide +kernel
theorem dX7_findPlan_29 : decode cX7_findPlan 29 = .ok (.istore 5, 2) := by decide +kernel
theorem dX7_findPlan_31 : decode cX7_findPlan 31 = .ok (.iload 5, 2) := by decide +kernel
theorem dX7_findPlan_33 : decode cX7_findPlan 33 = .ok (.ldc 212, 2) := by decide +kernel
theorem dX7_findPlan_35 : decode cX7_findPlan 35 = .ok (.if_icmp .lt 5, 3) := by decide +kernel
theorem dX7_findPlan_38 : decode cX7_findPlan 38 = .ok (.iconst 0, 1) := by decide +kernel
theorem dX7_findPlan_39 : decode cX7_findPlan 39 = .ok (.ireturn, 1) := by decide +kernel
theorem dX7_findPlan_40 : decode cX7_findPlan 40 = .ok (.aload_n 0, 1) := by decide +kernel
theorem dX7_findPlan_41 : decode cX7_findPlan 41 = .ok (.iload 5, 2) := by decide +kernel
theorem dX7_findPlan_43 : decode cX7_findPlan 43 = .ok (.sipush 1000, 3) := by decide +kernel
theorem dX7_findPlan_46 : decode cX7_findPlan 46 = .ok (.idiv, 1) := by decide +kernel
theorem dX7_findPlan_47 : decode cX7_findPlan 47 = .ok (.putfield 224, 3) := by decide +kernel
theorem dX7_findPlan_50 : decode cX7_findPlan 50 = .ok (.aload_n 0, 1) := by decide +kernel
theorem dX7_findPlan_51 : decode cX7_findPlan 51 = .ok (.iload 5, 2) := by decide +kernel
theorem dX7_findPlan_53 : decode cX7_findPlan 53 = .ok (.sipush 1000, 3) := by decide +kernel
theorem dX7_findPlan_56 : decode cX7_findPlan 56 = .ok (.irem, 1) := by decide +kernel
theorem dX7_findPlan_57 : decode cX7_findPlan 57 = .ok (.putfield 227, 3) := by decide +kernel
theorem dX7_findPlan_60 : decode cX7_findPlan 60 = .ok (.iconst 0, 1) := by decide +kernel
theorem dX7_findPlan_61 : decode cX7_findPlan 61 = .ok (.istore 6, 2) := by decide +kernel
theorem dX7_findPlan_63 : decode cX7_findPlan 63 = .ok (.iload 6, 2) := by decide +kernel
theorem dX7_findPlan_65 : decode cX7_findPlan 65 = .ok (.aload_n 0, 1) := by decide +kernel
theorem dX7_findPlan_66 : decode cX7_findPlan 66 = .ok (.getfield 224, 3) := by decide +kernel
theorem dX7_findPlan_69 : decode cX7_findPlan 69 = .ok (.if_icmp .ge 90, 3) := by decide +kernel
theorem dX7_findPlan_72 : decode cX7_findPlan 72 = .ok (.iload_n 2, 1) := by decide +kernel
theorem dX7_findPlan_73 : decode cX7_findPlan 73 = .ok (.iload 6, 2) := by decide +kernel
theorem dX7_findPlan_75 : decode cX7_findPlan 75 = .ok (.iadd, 1) := by decide +kernel
theorem dX7_findPlan_76 : decode cX7_findPlan 76 = .ok (.istore 7, 2) := by decide +kernel
theorem dX7_findPlan_78 : decode cX7_findPlan 78 = .ok (.iconst 0, 1) := by decide +kernel
theorem dX7_findPlan_79 : decode cX7_findPlan 79 = .ok (.istore 8, 2) := by decide +kernel
theorem dX7_findPlan_81 : decode cX7_findPlan 81 = .ok (.aload_n 0, 1) := by decide +kernel
theorem dX7_findPlan_82 : decode cX7_findPlan 82 = .ok (.iload_n 1, 1) := by decide +kernel
theorem dX7_findPlan_83 : decode cX7_findPlan 83 = .ok (.iload_n 3, 1) := by decide +kernel
theorem dX7_findPlan_84 : decode cX7_findPlan 84 = .ok (.iload 4, 2) := by decide +kernel
theorem dX7_findPlan_86 : decode cX7_findPlan 86 = .ok (.iload 8, 2) := by decide +kernel
theorem dX7_findPlan_88 : decode cX7_findPlan 88 = .ok (.iload 7, 2) := by decide +kernel
theorem dX7_findPlan_90 : decode cX7_findPlan 90 = .ok (.invokevirtual 216, 3) := by decide +kernel
theorem dX7_findPlan_93 : decode cX7_findPlan 93 = .ok (.aload_n 0, 1) := by decide +kernel
theorem dX7_findPlan_94 : decode cX7_findPlan 94 = .ok (.getfield 39, 3) := by decide +kernel
theorem dX7_findPlan_97 : decode cX7_findPlan 97 = .ok (.sipush 966, 3) := by decide +kernel
theorem dX7_findPlan_100 : decode cX7_findPlan 100 = .ok (.iload 7, 2) := by decide +kernel
theorem dX7_findPlan_102 : decode cX7_findPlan 102 = .ok (.imul, 1) := by decide +kernel
theorem dX7_findPlan_103 : decode cX7_findPlan 103 = .ok (.bipush 6, 2) := by decide +kernel
theorem dX7_findPlan_105 : decode cX7_findPlan 105 = .ok (.iload_n 3, 1) := by decide +kernel
theorem dX7_findPlan_106 : decode cX7_findPlan 106 = .ok (.imul, 1) := by decide +kernel
theorem dX7_findPlan_107 : decode cX7_findPlan 107 = .ok (.iadd, 1) := by decide +kernel
theorem dX7_findPlan_108 : decode cX7_findPlan 108 = .ok (.iload 4, 2) := by decide +kernel
theorem dX7_findPlan_110 : decode cX7_findPlan 110 = .ok (.iadd, 1) := by decide +kernel
theorem dX7_findPlan_111 : decode cX7_findPlan 111 = .ok (.iaload, 1) := by decide +kernel
theorem dX7_findPlan_112 : decode cX7_findPlan 112 = .ok (.if_icmp .eq 9, 3) := by decide +kernel
theorem dX7_findPlan_115 : decode cX7_findPlan 115 = .ok (.iinc 8 1, 3) := by decide +kernel
theorem dX7_findPlan_118 : decode cX7_findPlan 118 = .ok (.goto (-37), 3) := by decide +kernel
theorem dX7_findPlan_121 : decode cX7_findPlan 121 = .ok (.aload_n 0, 1) := by decide +kernel
theorem dX7_findPlan_122 : decode cX7_findPlan 122 = .ok (.iload_n 1, 1) := by decide +kernel
theorem dX7_findPlan_123 : decode cX7_findPlan 123 = .ok (.iload_n 3, 1) := by decide +kernel
theorem dX7_findPlan_124 : decode cX7_findPlan 124 = .ok (.iload 8, 2) := by decide +kernel
theorem dX7_findPlan_126 : decode cX7_findPlan 126 = .ok (.iload 7, 2) := by decide +kernel
theorem dX7_findPlan_128 : decode cX7_findPlan 128 = .ok (.invokevirtual 205, 3) := by decide +kernel
theorem dX7_findPlan_131 : decode cX7_findPlan 131 = .ok (.istore_n 3, 1) := by decide +kernel
theorem dX7_findPlan_132 : decode cX7_findPlan 132 = .ok (.iload 8, 2) := by decide +kernel
theorem dX7_findPlan_134 : decode cX7_findPlan 134 = .ok (.istore 4, 2) := by decide +kernel
theorem dX7_findPlan_136 : decode cX7_findPlan 136 = .ok (.aload_n 0, 1) := by decide +kernel
theorem dX7_findPlan_137 : decode cX7_findPlan 137 = .ok (.getfield 42, 3) := by decide +kernel
theorem dX7_findPlan_140 : decode cX7_findPlan 140 = .ok (.iload 6, 2) := by decide +kernel
theorem dX7_findPlan_142 : decode cX7_findPlan 142 = .ok (.iload 8, 2) := by decide +kernel
theorem dX7_findPlan_144 : decode cX7_findPlan 144 = .ok (.iastore, 1) := by decide +kernel
theorem dX7_findPlan_145 : decode cX7_findPlan 145 = .ok (.aload_n 0, 1) := by decide +kernel
theorem dX7_findPlan_146 : decode cX7_findPlan 146 = .ok (.getfield 45, 3) := by decide +kernel
theorem dX7_findPlan_149 : decode cX7_findPlan 149 = .ok (.iload 6, 2) := by decide +kernel
theorem dX7_findPlan_151 : decode cX7_findPlan 151 = .ok (.iload_n 3, 1) := by decide +kernel
theorem dX7_findPlan_152 : decode cX7_findPlan 152 = .ok (.iastore, 1) := by decide +kernel
theorem dX7_findPlan_153 : decode cX7_findPlan 153 = .ok (.iinc 6 1, 3) := by decide +kernel
theorem dX7_findPlan_156 : decode cX7_findPlan 156 = .ok (.goto (-93), 3) := by decide +kernel
theorem dX7_findPlan_159 : decode cX7_findPlan 159 = .ok (.iconst 1, 1) := by decide +kernel
theorem dX7_findPlan_160 : decode cX7_findPlan 160 = .ok (.ireturn, 1) := by decide +kernel
theorem dX7_isSoonest_0 : decode cX7_isSoonest 0 = .ok (.aload_n 0, 1) := by decide +kernel
theorem dX7_isSoonest_1 : decode cX7_isSoonest 1 = .ok (.invokevirtual 230, 3) := by decide +kernel
theorem dX7_isSoonest_4 : decode cX7_isSoonest 4 = .ok (.aload_n 0, 1) := by decide +kernel
theorem dX7_isSoonest_5 : decode cX7_isSoonest 5 = .ok (.iload_n 1, 1) := by decide +kernel
theorem dX7_isSoonest_6 : decode cX7_isSoonest 6 = .ok (.iload_n 2, 1) := by decide +kernel
theorem dX7_isSoonest_7 : decode cX7_isSoonest 7 = .ok (.invokevirtual 233, 3) := by decide +kernel
theorem dX7_isSoonest_10 : decode cX7_isSoonest 10 = .ok (.ireturn, 1) := by decide +kernel
theorem dX7_tell_0 : decode cX7_tell 0 = .ok (.iload_n 1, 1) := by decide +kernel
theorem dX7_tell_1 : decode cX7_tell 1 = .ok (.ifCond .ne 5, 3) := by decide +kernel
theorem dX7_tell_4 : decode cX7_tell 4 = .ok (.iconst (-1), 1) := by decide +kernel
theorem dX7_tell_5 : decode cX7_tell 5 = .ok (.ireturn, 1) := by decide +kernel
theorem dX7_tell_6 : decode cX7_tell 6 = .ok (.iload_n 2, 1) := by decide +kernel
theorem dX7_tell_7 : decode cX7_tell 7 = .ok (.bipush (-2), 2) := by decide +kernel
theorem dX7_tell_9 : decode cX7_tell 9 = .ok (.if_icmp .ne 10, 3) := by decide +kernel
theorem dX7_tell_12 : decode cX7_tell 12 = .ok (.aload_n 0, 1) := by decide +kernel
theorem dX7_tell_13 : decode cX7_tell 13 = .ok (.getfield 224, 3) := by decide +kernel
theorem dX7_tell_16 : decode cX7_tell 16 = .ok (.goto 33, 3) := by decide +kernel
theorem dX7_tell_19 : decode cX7_tell 19 = .ok (.iload_n 2, 1) := by decide +kernel
theorem dX7_tell_20 : decode cX7_tell 20 = .ok (.iconst (-1), 1) := by decide +kernel
theorem dX7_tell_21 : decode cX7_tell 21 = .ok (.if_icmp .ne 10, 3) := by decide +kernel
theorem dX7_tell_24 : decode cX7_tell 24 = .ok (.aload_n 0, 1) := by decide +kernel
theorem dX7_tell_25 : decode cX7_tell 25 = .ok (.getfield 227, 3) := by decide +kernel
theorem dX7_tell_28 : decode cX7_tell 28 = .ok (.goto 21, 3) := by decide +kernel
theorem dX7_tell_31 : decode cX7_tell 31 = .ok (.iload_n 2, 1) := by decide +kernel
theorem dX7_tell_32 : decode cX7_tell 32 = .ok (.aload_n 0, 1) := by decide +kernel
theorem dX7_tell_33 : decode cX7_tell 33 = .ok (.getfield 224, 3) := by decide +kernel
theorem dX7_tell_36 : decode cX7_tell 36 = .ok (.if_icmp .ge 12, 3) := by decide +kernel
theorem dX7_tell_39 : decode cX7_tell 39 = .ok (.aload_n 0, 1) := by decide +kernel
theorem dX7_tell_40 : decode cX7_tell 40 = .ok (.getfield 42, 3) := by decide +kernel
theorem dX7_tell_43 : decode cX7_tell 43 = .ok (.iload_n 2, 1) := by decide +kernel
theorem dX7_tell_44 : decode cX7_tell 44 = .ok (.iaload, 1) := by decide +kernel
theorem dX7_tell_45 : decode cX7_tell 45 = .ok (.goto 4, 3) := by decide +kernel
theorem dX7_tell_48 : decode cX7_tell 48 = .ok (.iconst (-1), 1) := by decide +kernel
theorem dX7_tell_49 : decode cX7_tell 49 = .ok (.ireturn, 1) := by decide +kernel
theorem dX7_soonest_0 : decode cX7_soonest 0 = .ok (.aload_n 0, 1) := by decide +kernel
theorem dX7_soonest_1 : decode cX7_soonest 1 = .ok (.iload_n 1, 1) := by decide +kernel
theorem dX7_soonest_2 : decode cX7_soonest 2 = .ok (.invokevirtual 186, 3) := by decide +kernel
theorem dX7_soonest_5 : decode cX7_soonest 5 = .ok (.ifCond .eq 10, 3) := by decide +kernel
theorem dX7_soonest_8 : decode cX7_soonest 8 = .ok (.iload_n 2, 1) := by decide +kernel
theorem dX7_soonest_9 : decode cX7_soonest 9 = .ok (.invokestatic 183, 3) := by decide +kernel
theorem dX7_soonest_12 : decode cX7_soonest 12 = .ok (.ifCond .ne 6, 3) := by decide +kernel
theorem dX7_soonest_15 : decode cX7_soonest 15 = .ok (.bipush (-2), 2) := by decide +kernel
theorem dX7_soonest_17 : decode cX7_soonest 17 = .ok (.ireturn, 1) := by decide +kernel
theorem dX7_soonest_18 : decode cX7_soonest 18 = .ok (.iload_n 3, 1) := by decide +kernel
theorem dX7_soonest_19 : decode cX7_soonest 19 = .ok (.bipush (-2), 2) := by decide +kernel
theorem dX7_soonest_21 : decode cX7_soonest 21 = .ok (.if_icmp .ge 8, 3) := by decide +kernel
theorem dX7_soonest_24 : decode cX7_soonest 24 = .ok (.bipush (-3), 2) := by decide +kernel
theorem dX7_soonest_26 : decode cX7_soonest 26 = .ok (.goto 14, 3) := by decide +kernel
theorem dX7_soonest_29 : decode cX7_soonest 29 = .ok (.aload_n 0, 1) := by decide +kernel
theorem dX7_soonest_30 : decode cX7_soonest 30 = .ok (.aload_n 0, 1) := by decide +kernel
theorem dX7_soonest_31 : decode cX7_soonest 31 = .ok (.iload_n 1, 1) := by decide +kernel
theorem dX7_soonest_32 : decode cX7_soonest 32 = .ok (.iload_n 2, 1) := by decide +kernel
theorem dX7_soonest_33 : decode cX7_soonest 33 = .ok (.invokevirtual 236, 3) := by decide +kernel
theorem dX7_soonest_36 : decode cX7_soonest 36 = .ok (.iload_n 3, 1) := by decide +kernel
theorem dX7_soonest_37 : decode cX7_soonest 37 = .ok (.invokevirtual 239, 3) := by decide +kernel
theorem dX7_soonest_40 : decode cX7_soonest 40 = .ok (.ireturn, 1) := by decide +kernel
theorem dX7_clear_0 : decode cX7_clear 0 = .ok (.aload_n 0, 1) := by decide +kernel
theorem dX7_clear_1 : decode cX7_clear 1 = .ok (.iload_n 1, 1) := by decide +kernel
theorem dX7_clear_2 : decode cX7_clear 2 = .ok (.invokevirtual 186, 3) := by decide +kernel
theorem dX7_clear_5 : decode cX7_clear 5 = .ok (.ifCond .eq 11, 3) := by decide +kernel
theorem dX7_clear_8 : decode cX7_clear 8 = .ok (.aload_n 0, 1) := by decide +kernel
theorem dX7_clear_9 : decode cX7_clear 9 = .ok (.iload_n 2, 1) := by decide +kernel
theorem dX7_clear_10 : decode cX7_clear 10 = .ok (.invokevirtual 186, 3) := by decide +kernel
theorem dX7_clear_13 : decode cX7_clear 13 = .ok (.ifCond .ne 6, 3) := by decide +kernel
theorem dX7_clear_16 : decode cX7_clear 16 = .ok (.bipush (-2), 2) := by decide +kernel
theorem dX7_clear_18 : decode cX7_clear 18 = .ok (.ireturn, 1) := by decide +kernel
theorem dX7_clear_19 : decode cX7_clear 19 = .ok (.iload_n 1, 1) := by decide +kernel
theorem dX7_clear_20 : decode cX7_clear 20 = .ok (.iload_n 2, 1) := by decide +kernel
theorem dX7_clear_21 : decode cX7_clear 21 = .ok (.if_icmp .eq 9, 3) := by decide +kernel
theorem dX7_clear_24 : decode cX7_clear 24 = .ok (.iload_n 3, 1) := by decide +kernel
theorem dX7_clear_25 : decode cX7_clear 25 = .ok (.bipush (-2), 2) := by decide +kernel
theorem dX7_clear_27 : decode cX7_clear 27 = .ok (.if_icmp .ge 6, 3) := by decide +kernel
theorem dX7_clear_30 : decode cX7_clear 30 = .ok (.bipush (-3), 2) := by decide +kernel
theorem dX7_clear_32 : decode cX7_clear 32 = .ok (.ireturn, 1) := by decide +kernel
theorem dX7_clear_33 : decode cX7_clear 33 = .ok (.aload_n 0, 1) := by decide +kernel
theorem dX7_clear_34 : decode cX7_clear 34 = .ok (.iload_n 2, 1) := by decide +kernel
theorem dX7_clear_35 : decode cX7_clear 35 = .ok (.iconst 0, 1) := by decide +kernel
theorem dX7_clear_36 : decode cX7_clear 36 = .ok (.invokevirtual 236, 3) := by decide +kernel
theorem dX7_clear_39 : decode cX7_clear 39 = .ok (.ifCond .ne 6, 3) := by decide +kernel
theorem dX7_clear_42 : decode cX7_clear 42 = .ok (.bipush (-4), 2) := by decide +kernel
theorem dX7_clear_44 : decode cX7_clear 44 = .ok (.ireturn, 1) := by decide +kernel
theorem dX7_clear_45 : decode cX7_clear 45 = .ok (.iconst 0, 1) := by decide +kernel
theorem dX7_clear_46 : decode cX7_clear 46 = .ok (.istore 4, 2) := by decide +kernel
theorem dX7_clear_48 : decode cX7_clear 48 = .ok (.iload 4, 2) := by decide +kernel
theorem dX7_clear_50 : decode cX7_clear 50 = .ok (.aload_n 0, 1) := by decide +kernel
theorem dX7_clear_51 : decode cX7_clear 51 = .ok (.getfield 224, 3) := by decide +kernel
theorem dX7_clear_54 : decode cX7_clear 54 = .ok (.if_icmp .ge 37, 3) := by decide +kernel
theorem dX7_clear_57 : decode cX7_clear 57 = .ok (.aload_n 0, 1) := by decide +kernel
theorem dX7_clear_58 : decode cX7_clear 58 = .ok (.getfield 48, 3) := by decide +kernel
theorem dX7_clear_61 : decode cX7_clear 61 = .ok (.iload 4, 2) := by decide +kernel
theorem dX7_clear_63 : decode cX7_clear 63 = .ok (.aload_n 0, 1) := by decide +kernel
theorem dX7_clear_64 : decode cX7_clear 64 = .ok (.getfield 45, 3) := by decide +kernel
theorem dX7_clear_67 : decode cX7_clear 67 = .ok (.iload 4, 2) := by decide +kernel
theorem dX7_clear_69 : decode cX7_clear 69 = .ok (.iaload, 1) := by decide +kernel
theorem dX7_clear_70 : decode cX7_clear 70 = .ok (.iastore, 1) := by decide +kernel
theorem dX7_clear_71 : decode cX7_clear 71 = .ok (.aload_n 0, 1) := by decide +kernel
theorem dX7_clear_72 : decode cX7_clear 72 = .ok (.getfield 51, 3) := by decide +kernel
theorem dX7_clear_75 : decode cX7_clear 75 = .ok (.iload 4, 2) := by decide +kernel
theorem dX7_clear_77 : decode cX7_clear 77 = .ok (.aload_n 0, 1) := by decide +kernel
theorem dX7_clear_78 : decode cX7_clear 78 = .ok (.getfield 42, 3) := by decide +kernel
theorem dX7_clear_81 : decode cX7_clear 81 = .ok (.iload 4, 2) := by decide +kernel
theorem dX7_clear_83 : decode cX7_clear 83 = .ok (.iaload, 1) := by decide +kernel
theorem dX7_clear_84 : decode cX7_clear 84 = .ok (.iastore, 1) := by decide +kernel
theorem dX7_clear_85 : decode cX7_clear 85 = .ok (.iinc 4 1, 3) := by decide +kernel
theorem dX7_clear_88 : decode cX7_clear 88 = .ok (.goto (-40), 3) := by decide +kernel
theorem dX7_clear_91 : decode cX7_clear 91 = .ok (.aload_n 0, 1) := by decide +kernel
theorem dX7_clear_92 : decode cX7_clear 92 = .ok (.aload_n 0, 1) := by decide +kernel
theorem dX7_clear_93 : decode cX7_clear 93 = .ok (.iload_n 1, 1) := by decide +kernel
theorem dX7_clear_94 : decode cX7_clear 94 = .ok (.iconst 1, 1) := by decide +kernel
theorem dX7_clear_95 : decode cX7_clear 95 = .ok (.invokevirtual 233, 3) := by decide +kernel
theorem dX7_clear_98 : decode cX7_clear 98 = .ok (.iload_n 3, 1) := by decide +kernel
theorem dX7_clear_99 : decode cX7_clear 99 = .ok (.invokevirtual 239, 3) := by decide +kernel
theorem dX7_clear_102 : decode cX7_clear 102 = .ok (.ireturn, 1) := by decide +kernel
theorem dX7_power_0 : decode cX7_power 0 = .ok (.lconst 1, 1) := by decide +kernel
theorem dX7_power_1 : decode cX7_power 1 = .ok (.lstore_n 2, 1) := by decide +kernel
theorem dX7_power_2 : decode cX7_power 2 = .ok (.iconst 0, 1) := by decide +kernel
theorem dX7_power_3 : decode cX7_power 3 = .ok (.istore 4, 2) := by decide +kernel
theorem dX7_power_5 : decode cX7_power 5 = .ok (.iload 4, 2) := by decide +kernel
theorem dX7_power_7 : decode cX7_power 7 = .ok (.iload_n 1, 1) := by decide +kernel
theorem dX7_power_8 : decode cX7_power 8 = .ok (.if_icmp .ge 14, 3) := by decide +kernel
theorem dX7_power_11 : decode cX7_power 11 = .ok (.lload_n 2, 1) := by decide +kernel
theorem dX7_power_12 : decode cX7_power 12 = .ok (.iload_n 0, 1) := by decide +kernel
theorem dX7_power_13 : decode cX7_power 13 = .ok (.i2l, 1) := by decide +kernel
theorem dX7_power_14 : decode cX7_power 14 = .ok (.lmul, 1) := by decide +kernel
theorem dX7_power_15 : decode cX7_power 15 = .ok (.lstore_n 2, 1) := by decide +kernel
theorem dX7_power_16 : decode cX7_power 16 = .ok (.iinc 4 1, 3) := by decide +kernel
theorem dX7_power_19 : decode cX7_power 19 = .ok (.goto (-14), 3) := by decide +kernel
theorem dX7_power_22 : decode cX7_power 22 = .ok (.lload_n 2, 1) := by decide +kernel
theorem dX7_power_23 : decode cX7_power 23 = .ok (.lreturn, 1) := by decide +kernel
theorem dX7_part_0 : decode cX7_part 0 = .ok (.lload_n 0, 1) := by decide +kernel
theorem dX7_part_1 : decode cX7_part 1 = .ok (.lstore 5, 2) := by decide +kernel
theorem dX7_part_3 : decode cX7_part 3 = .ok (.lload_n 2, 1) := by decide +kernel
theorem dX7_part_4 : decode cX7_part 4 = .ok (.lstore 7, 2) := by decide +kernel
theorem dX7_part_6 : decode cX7_part 6 = .ok (.lload 7, 2) := by decide +kernel
theorem dX7_part_8 : decode cX7_part 8 = .ok (.lconst 0, 1) := by decide +kernel
theorem dX7_part_9 : decode cX7_part 9 = .ok (.lcmp, 1) := by decide +kernel
theorem dX7_part_10 : decode cX7_part 10 = .ok (.ifCond .eq 21, 3) := by decide +kernel
theorem dX7_part_13 : decode cX7_part 13 = .ok (.lload 5, 2) := by decide +kernel
theorem dX7_part_15 : decode cX7_part 15 = .ok (.lload 7, 2) := by decide +kernel
theorem dX7_part_17 : decode cX7_part 17 = .ok (.lrem, 1) := by decide +kernel
theorem dX7_part_18 : decode cX7_part 18 = .ok (.lstore 9, 2) := by decide +kernel
theorem dX7_part_20 : decode cX7_part 20 = .ok (.lload 7, 2) := by decide +kernel
theorem dX7_part_22 : decode cX7_part 22 = .ok (.lstore 5, 2) := by decide +kernel
theorem dX7_part_24 : decode cX7_part 24 = .ok (.lload 9, 2) := by decide +kernel
theorem dX7_part_26 : decode cX7_part 26 = .ok (.lstore 7, 2) := by decide +kernel
theorem dX7_part_28 : decode cX7_part 28 = .ok (.goto (-22), 3) := by decide +kernel
theorem dX7_part_31 : decode cX7_part 31 = .ok (.iload 4, 2) := by decide +kernel
theorem dX7_part_33 : decode cX7_part 33 = .ok (.ifCond .ne 7, 3) := by decide +kernel
theorem dX7_part_36 : decode cX7_part 36 = .ok (.lload_n 0, 1) := by decide +kernel
theorem dX7_part_37 : decode cX7_part 37 = .ok (.goto 4, 3) := by decide +kernel
theorem dX7_part_40 : decode cX7_part 40 = .ok (.lload_n 2, 1) := by decide +kernel
theorem dX7_part_41 : decode cX7_part 41 = .ok (.lload 5, 2) := by decide +kernel
theorem dX7_part_43 : decode cX7_part 43 = .ok (.ldiv, 1) := by decide +kernel
theorem dX7_part_44 : decode cX7_part 44 = .ok (.lreturn, 1) := by decide +kernel
theorem dX7_areOdds_0 : decode cX7_areOdds 0 = .ok (.iload_n 0, 1) := by decide +kernel
theorem dX7_areOdds_1 : decode cX7_areOdds 1 = .ok (.iconst 0, 1) := by decide +kernel
theorem dX7_areOdds_2 : decode cX7_areOdds 2 = .ok (.iload_n 1, 1) := by decide +kernel
theorem dX7_areOdds_3 : decode cX7_areOdds 3 = .ok (.invokestatic 61, 3) := by decide +kernel
theorem dX7_areOdds_6 : decode cX7_areOdds 6 = .ok (.ifCond .eq 26, 3) := by decide +kernel
theorem dX7_areOdds_9 : decode cX7_areOdds 9 = .ok (.iload_n 2, 1) := by decide +kernel
theorem dX7_areOdds_10 : decode cX7_areOdds 10 = .ok (.iconst 0, 1) := by decide +kernel
theorem dX7_areOdds_11 : decode cX7_areOdds 11 = .ok (.bipush 10, 2) := by decide +kernel
theorem dX7_areOdds_13 : decode cX7_areOdds 13 = .ok (.invokestatic 61, 3) := by decide +kernel
theorem dX7_areOdds_16 : decode cX7_areOdds 16 = .ok (.ifCond .eq 16, 3) := by decide +kernel
theorem dX7_areOdds_19 : decode cX7_areOdds 19 = .ok (.iload_n 3, 1) := by decide +kernel
theorem dX7_areOdds_20 : decode cX7_areOdds 20 = .ok (.iconst 0, 1) := by decide +kernel
theorem dX7_areOdds_21 : decode cX7_areOdds 21 = .ok (.iconst 1, 1) := by decide +kernel
theorem dX7_areOdds_22 : decode cX7_areOdds 22 = .ok (.invokestatic 61, 3) := by decide +kernel
theorem dX7_areOdds_25 : decode cX7_areOdds 25 = .ok (.ifCond .eq 7, 3) := by decide +kernel
theorem dX7_areOdds_28 : decode cX7_areOdds 28 = .ok (.iconst 1, 1) := by decide +kernel
theorem dX7_areOdds_29 : decode cX7_areOdds 29 = .ok (.goto 4, 3) := by decide +kernel
theorem dX7_areOdds_32 : decode cX7_areOdds 32 = .ok (.iconst 0, 1) := by decide +kernel
theorem dX7_areOdds_33 : decode cX7_areOdds 33 = .ok (.ireturn, 1) := by decide +kernel
theorem dX7_byRow_0 : decode cX7_byRow 0 = .ok (.lconst 0, 1) := by decide +kernel
theorem dX7_byRow_1 : decode cX7_byRow 1 = .ok (.lstore 5, 2) := by decide +kernel
theorem dX7_byRow_3 : decode cX7_byRow 3 = .ok (.iconst 0, 1) := by decide +kernel
theorem dX7_byRow_4 : decode cX7_byRow 4 = .ok (.istore 7, 2) := by decide +kernel
theorem dX7_byRow_6 : decode cX7_byRow 6 = .ok (.iload 7, 2) := by decide +kernel
theorem dX7_byRow_8 : decode cX7_byRow 8 = .ok (.iconst 1, 1) := by decide +kernel
theorem dX7_byRow_9 : decode cX7_byRow 9 = .ok (.iload_n 2, 1) := by decide +kernel
theorem dX7_byRow_10 : decode cX7_byRow 10 = .ok (.ishl, 1) := by decide +kernel
theorem dX7_byRow_11 : decode cX7_byRow 11 = .ok (.if_icmp .ge 136, 3) := by decide +kernel
theorem dX7_byRow_14 : decode cX7_byRow 14 = .ok (.aload_n 0, 1) := by decide +kernel
theorem dX7_byRow_15 : decode cX7_byRow 15 = .ok (.invokevirtual 169, 3) := by decide +kernel
theorem dX7_byRow_18 : decode cX7_byRow 18 = .ok (.istore 8, 2) := by decide +kernel
theorem dX7_byRow_20 : decode cX7_byRow 20 = .ok (.lconst 1, 1) := by decide +kernel
theorem dX7_byRow_21 : decode cX7_byRow 21 = .ok (.lstore 9, 2) := by decide +kernel
theorem dX7_byRow_23 : decode cX7_byRow 23 = .ok (.iconst 0, 1) := by decide +kernel
theorem dX7_byRow_24 : decode cX7_byRow 24 = .ok (.istore 11, 2) := by decide +kernel
theorem dX7_byRow_26 : decode cX7_byRow 26 = .ok (.iload 11, 2) := by decide +kernel
theorem dX7_byRow_28 : decode cX7_byRow 28 = .ok (.iload_n 2, 1) := by decide +kernel
theorem dX7_byRow_29 : decode cX7_byRow 29 = .ok (.if_icmp .ge 93, 3) := by decide +kernel
theorem dX7_byRow_32 : decode cX7_byRow 32 = .ok (.iload 7, 2) := by decide +kernel
theorem dX7_byRow_34 : decode cX7_byRow 34 = .ok (.iload 11, 2) := by decide +kernel
theorem dX7_byRow_36 : decode cX7_byRow 36 = .ok (.invokestatic 68, 3) := by decide +kernel
theorem dX7_byRow_39 : decode cX7_byRow 39 = .ok (.istore 12, 2) := by decide +kernel
theorem dX7_byRow_41 : decode cX7_byRow 41 = .ok (.lload 9, 2) := by decide +kernel
theorem dX7_byRow_43 : decode cX7_byRow 43 = .ok (.iload 12, 2) := by decide +kernel
theorem dX7_byRow_45 : decode cX7_byRow 45 = .ok (.ifCond .eq 8, 3) := by decide +kernel
theorem dX7_byRow_48 : decode cX7_byRow 48 = .ok (.iload_n 3, 1) := by decide +kernel
theorem dX7_byRow_49 : decode cX7_byRow 49 = .ok (.i2l, 1) := by decide +kernel
theorem dX7_byRow_50 : decode cX7_byRow 50 = .ok (.goto 8, 3) := by decide +kernel
theorem dX7_byRow_53 : decode cX7_byRow 53 = .ok (.bipush 10, 2) := by decide +kernel
theorem dX7_byRow_55 : decode cX7_byRow 55 = .ok (.iload_n 3, 1) := by decide +kernel
theorem dX7_byRow_56 : decode cX7_byRow 56 = .ok (.isub, 1) := by decide +kernel
theorem dX7_byRow_57 : decode cX7_byRow 57 = .ok (.i2l, 1) := by decide +kernel
theorem dX7_byRow_58 : decode cX7_byRow 58 = .ok (.lmul, 1) := by decide +kernel
theorem dX7_byRow_59 : decode cX7_byRow 59 = .ok (.lstore 9, 2) := by decide +kernel
theorem dX7_byRow_61 : decode cX7_byRow 61 = .ok (.iload 4, 2) := by decide +kernel
theorem dX7_byRow_63 : decode cX7_byRow 63 = .ok (.ifCond .ne 7, 3) := by decide +kernel
theorem dX7_byRow_66 : decode cX7_byRow 66 = .ok (.iconst 0, 1) := by decide +kernel
theorem dX7_byRow_67 : decode cX7_byRow 67 = .ok (.goto 24, 3) := by decide +kernel
theorem dX7_byRow_70 : decode cX7_byRow 70 = .ok (.aload_n 0, 1) := by decide +kernel
theorem dX7_byRow_71 : decode cX7_byRow 71 = .ok (.getfield 42, 3) := by decide +kernel
theorem dX7_byRow_74 : decode cX7_byRow 74 = .ok (.iload 11, 2) := by decide +kernel
theorem dX7_byRow_76 : decode cX7_byRow 76 = .ok (.iload 4, 2) := by decide +kernel
theorem dX7_byRow_78 : decode cX7_byRow 78 = .ok (.if_icmp .ge 8, 3) := by decide +kernel
theorem dX7_byRow_81 : decode cX7_byRow 81 = .ok (.iload 11, 2) := by decide +kernel
theorem dX7_byRow_83 : decode cX7_byRow 83 = .ok (.goto 7, 3) := by decide +kernel
theorem dX7_byRow_86 : decode cX7_byRow 86 = .ok (.iload 4, 2) := by decide +kernel
theorem dX7_byRow_88 : decode cX7_byRow 88 = .ok (.iconst 1, 1) := by decide +kernel
theorem dX7_byRow_89 : decode cX7_byRow 89 = .ok (.isub, 1) := by decide +kernel
theorem dX7_byRow_90 : decode cX7_byRow 90 = .ok (.iaload, 1) := by decide +kernel
theorem dX7_byRow_91 : decode cX7_byRow 91 = .ok (.istore 13, 2) := by decide +kernel
theorem dX7_byRow_93 : decode cX7_byRow 93 = .ok (.iload 12, 2) := by decide +kernel
theorem dX7_byRow_95 : decode cX7_byRow 95 = .ok (.ifCond .eq 8, 3) := by decide +kernel
theorem dX7_byRow_98 : decode cX7_byRow 98 = .ok (.iload 8, 2) := by decide +kernel
theorem dX7_byRow_100 : decode cX7_byRow 100 = .ok (.goto 14, 3) := by decide +kernel
theorem dX7_byRow_103 : decode cX7_byRow 103 = .ok (.aload_n 0, 1) := by decide +kernel
theorem dX7_byRow_104 : decode cX7_byRow 104 = .ok (.iload_n 1, 1) := by decide +kernel
theorem dX7_byRow_105 : decode cX7_byRow 105 = .ok (.iload 8, 2) := by decide +kernel
theorem dX7_byRow_107 : decode cX7_byRow 107 = .ok (.iload 13, 2) := by decide +kernel
theorem dX7_byRow_109 : decode cX7_byRow 109 = .ok (.iload 11, 2) := by decide +kernel
theorem dX7_byRow_111 : decode cX7_byRow 111 = .ok (.invokevirtual 205, 3) := by decide +kernel
theorem dX7_byRow_114 : decode cX7_byRow 114 = .ok (.istore 8, 2) := by decide +kernel
theorem dX7_byRow_116 : decode cX7_byRow 116 = .ok (.iinc 11 1, 3) := by decide +kernel
theorem dX7_byRow_119 : decode cX7_byRow 119 = .ok (.goto (-93), 3) := by decide +kernel
theorem dX7_byRow_122 : decode cX7_byRow 122 = .ok (.lload 5, 2) := by decide +kernel
theorem dX7_byRow_124 : decode cX7_byRow 124 = .ok (.iload 8, 2) := by decide +kernel
theorem dX7_byRow_126 : decode cX7_byRow 126 = .ok (.sipush 160, 3) := by decide +kernel
theorem dX7_byRow_129 : decode cX7_byRow 129 = .ok (.if_icmp .ne 8, 3) := by decide +kernel
theorem dX7_byRow_132 : decode cX7_byRow 132 = .ok (.lload 9, 2) := by decide +kernel
theorem dX7_byRow_134 : decode cX7_byRow 134 = .ok (.goto 4, 3) := by decide +kernel
theorem dX7_byRow_137 : decode cX7_byRow 137 = .ok (.lconst 0, 1) := by decide +kernel
theorem dX7_byRow_138 : decode cX7_byRow 138 = .ok (.ladd, 1) := by decide +kernel
theorem dX7_byRow_139 : decode cX7_byRow 139 = .ok (.lstore 5, 2) := by decide +kernel
theorem dX7_byRow_141 : decode cX7_byRow 141 = .ok (.iinc 7 1, 3) := by decide +kernel
theorem dX7_byRow_144 : decode cX7_byRow 144 = .ok (.goto (-138), 3) := by decide +kernel
theorem dX7_byRow_147 : decode cX7_byRow 147 = .ok (.lload 5, 2) := by decide +kernel
theorem dX7_byRow_149 : decode cX7_byRow 149 = .ok (.lreturn, 1) := by decide +kernel
theorem dX7_odds_0 : decode cX7_odds 0 = .ok (.aload_n 0, 1) := by decide +kernel
theorem dX7_odds_1 : decode cX7_odds 1 = .ok (.iload_n 1, 1) := by decide +kernel
theorem dX7_odds_2 : decode cX7_odds 2 = .ok (.invokevirtual 186, 3) := by decide +kernel
theorem dX7_odds_5 : decode cX7_odds 5 = .ok (.ifCond .ne 7, 3) := by decide +kernel
theorem dX7_odds_8 : decode cX7_odds 8 = .ok (.ldc2_w 89, 3) := by decide +kernel
theorem dX7_odds_11 : decode cX7_odds 11 = .ok (.lreturn, 1) := by decide +kernel
theorem dX7_odds_12 : decode cX7_odds 12 = .ok (.iload_n 2, 1) := by decide +kernel
theorem dX7_odds_13 : decode cX7_odds 13 = .ok (.bipush 8, 2) := by decide +kernel
theorem dX7_odds_15 : decode cX7_odds 15 = .ok (.iload_n 3, 1) := by decide +kernel
theorem dX7_odds_16 : decode cX7_odds 16 = .ok (.iload 4, 2) := by decide +kernel
theorem dX7_odds_18 : decode cX7_odds 18 = .ok (.invokestatic 243, 3) := by decide +kernel
theorem dX7_odds_21 : decode cX7_odds 21 = .ok (.ifCond .ne 7, 3) := by decide +kernel
theorem dX7_odds_24 : decode cX7_odds 24 = .ok (.ldc2_w 103, 3) := by decide +kernel
theorem dX7_odds_27 : decode cX7_odds 27 = .ok (.lreturn, 1) := by decide +kernel
theorem dX7_odds_28 : decode cX7_odds 28 = .ok (.aload_n 0, 1) := by decide +kernel
theorem dX7_odds_29 : decode cX7_odds 29 = .ok (.iload_n 1, 1) := by decide +kernel
theorem dX7_odds_30 : decode cX7_odds 30 = .ok (.iconst 0, 1) := by decide +kernel
theorem dX7_odds_31 : decode cX7_odds 31 = .ok (.invokevirtual 236, 3) := by decide +kernel
theorem dX7_odds_34 : decode cX7_odds 34 = .ok (.ifCond .ne 7, 3) := by decide +kernel
theorem dX7_odds_37 : decode cX7_odds 37 = .ok (.ldc2_w 99, 3) := by decide +kernel
theorem dX7_odds_40 : decode cX7_odds 40 = .ok (.lreturn, 1) := by decide +kernel
theorem dX7_odds_41 : decode cX7_odds 41 = .ok (.aload_n 0, 1) := by decide +kernel
theorem dX7_odds_42 : decode cX7_odds 42 = .ok (.iload_n 1, 1) := by decide +kernel
theorem dX7_odds_43 : decode cX7_odds 43 = .ok (.iload_n 2, 1) := by decide +kernel
theorem dX7_odds_44 : decode cX7_odds 44 = .ok (.iload_n 3, 1) := by decide +kernel
theorem dX7_odds_45 : decode cX7_odds 45 = .ok (.aload_n 0, 1) := by decide +kernel
theorem dX7_odds_46 : decode cX7_odds 46 = .ok (.getfield 224, 3) := by decide +kernel
theorem dX7_odds_49 : decode cX7_odds 49 = .ok (.invokevirtual 246, 3) := by decide +kernel
theorem dX7_odds_52 : decode cX7_odds 52 = .ok (.bipush 10, 2) := by decide +kernel
theorem dX7_odds_54 : decode cX7_odds 54 = .ok (.iload_n 2, 1) := by decide +kernel
theorem dX7_odds_55 : decode cX7_odds 55 = .ok (.invokestatic 250, 3) := by decide +kernel
theorem dX7_odds_58 : decode cX7_odds 58 = .ok (.iload 4, 2) := by decide +kernel
theorem dX7_odds_60 : decode cX7_odds 60 = .ok (.invokestatic 254, 3) := by decide +kernel
theorem dX7_odds_63 : decode cX7_odds 63 = .ok (.lreturn, 1) := by decide +kernel
theorem dX7_sightOf_0 : decode cX7_sightOf 0 = .ok (.iconst 0, 1) := by decide +kernel
theorem dX7_sightOf_1 : decode cX7_sightOf 1 = .ok (.istore 4, 2) := by decide +kernel
theorem dX7_sightOf_3 : decode cX7_sightOf 3 = .ok (.iload 4, 2) := by decide +kernel
theorem dX7_sightOf_5 : decode cX7_sightOf 5 = .ok (.sipush 966, 3) := by decide +kernel
theorem dX7_sightOf_8 : decode cX7_sightOf 8 = .ok (.if_icmp .ge 38, 3) := by decide +kernel
theorem dX7_sightOf_11 : decode cX7_sightOf 11 = .ok (.aload_n 0, 1) := by decide +kernel
theorem dX7_sightOf_12 : decode cX7_sightOf 12 = .ok (.getfield 54, 3) := by decide +kernel
theorem dX7_sightOf_15 : decode cX7_sightOf 15 = .ok (.sipush 966, 3) := by decide +kernel
theorem dX7_sightOf_18 : decode cX7_sightOf 18 = .ok (.iload_n 2, 1) := by decide +kernel
theorem dX7_sightOf_19 : decode cX7_sightOf 19 = .ok (.imul, 1) := by decide +kernel
theorem dX7_sightOf_20 : decode cX7_sightOf 20 = .ok (.iload 4, 2) := by decide +kernel
theorem dX7_sightOf_22 : decode cX7_sightOf 22 = .ok (.iadd, 1) := by decide +kernel
theorem dX7_sightOf_23 : decode cX7_sightOf 23 = .ok (.iload 4, 2) := by decide +kernel
theorem dX7_sightOf_25 : decode cX7_sightOf 25 = .ok (.bipush 6, 2) := by decide +kernel
theorem dX7_sightOf_27 : decode cX7_sightOf 27 = .ok (.idiv, 1) := by decide +kernel
theorem dX7_sightOf_28 : decode cX7_sightOf 28 = .ok (.sipush 160, 3) := by decide +kernel
theorem dX7_sightOf_31 : decode cX7_sightOf 31 = .ok (.if_icmp .ne 7, 3) := by decide +kernel
theorem dX7_sightOf_34 : decode cX7_sightOf 34 = .ok (.lconst 1, 1) := by decide +kernel
theorem dX7_sightOf_35 : decode cX7_sightOf 35 = .ok (.goto 4, 3) := by decide +kernel
theorem dX7_sightOf_38 : decode cX7_sightOf 38 = .ok (.lconst 0, 1) := by decide +kernel
theorem dX7_sightOf_39 : decode cX7_sightOf 39 = .ok (.lastore, 1) := by decide +kernel
theorem dX7_sightOf_40 : decode cX7_sightOf 40 = .ok (.iinc 4 1, 3) := by decide +kernel
theorem dX7_sightOf_43 : decode cX7_sightOf 43 = .ok (.goto (-40), 3) := by decide +kernel
theorem dX7_sightOf_46 : decode cX7_sightOf 46 = .ok (.iload_n 2, 1) := by decide +kernel
theorem dX7_sightOf_47 : decode cX7_sightOf 47 = .ok (.iconst 1, 1) := by decide +kernel
theorem dX7_sightOf_48 : decode cX7_sightOf 48 = .ok (.isub, 1) := by decide +kernel
theorem dX7_sightOf_49 : decode cX7_sightOf 49 = .ok (.istore 4, 2) := by decide +kernel
theorem dX7_sightOf_51 : decode cX7_sightOf 51 = .ok (.iload 4, 2) := by decide +kernel
theorem dX7_sightOf_53 : decode cX7_sightOf 53 = .ok (.ifCond .lt 201, 3) := by decide +kernel
theorem dX7_sightOf_56 : decode cX7_sightOf 56 = .ok (.iconst 0, 1) := by decide +kernel
theorem dX7_sightOf_57 : decode cX7_sightOf 57 = .ok (.istore 5, 2) := by decide +kernel
theorem dX7_sightOf_59 : decode cX7_sightOf 59 = .ok (.iload 5, 2) := by decide +kernel
theorem dX7_sightOf_61 : decode cX7_sightOf 61 = .ok (.sipush 966, 3) := by decide +kernel
theorem dX7_sightOf_64 : decode cX7_sightOf 64 = .ok (.if_icmp .ge 184, 3) := by decide +kernel
theorem dX7_sightOf_67 : decode cX7_sightOf 67 = .ok (.iload 5, 2) := by decide +kernel
theorem dX7_sightOf_69 : decode cX7_sightOf 69 = .ok (.bipush 6, 2) := by decide +kernel
theorem dX7_sightOf_71 : decode cX7_sightOf 71 = .ok (.idiv, 1) := by decide +kernel
theorem dX7_sightOf_72 : decode cX7_sightOf 72 = .ok (.istore 6, 2) := by decide +kernel
theorem dX7_sightOf_74 : decode cX7_sightOf 74 = .ok (.lconst 0, 1) := by decide +kernel
theorem dX7_sightOf_75 : decode cX7_sightOf 75 = .ok (.lstore 7, 2) := by decide +kernel
theorem dX7_sightOf_77 : decode cX7_sightOf 77 = .ok (.lconst 0, 1) := by decide +kernel
theorem dX7_sightOf_78 : decode cX7_sightOf 78 = .ok (.lstore 9, 2) := by decide +kernel
theorem dX7_sightOf_80 : decode cX7_sightOf 80 = .ok (.iconst 0, 1) := by decide +kernel
theorem dX7_sightOf_81 : decode cX7_sightOf 81 = .ok (.istore 11, 2) := by decide +kernel
theorem dX7_sightOf_83 : decode cX7_sightOf 83 = .ok (.iload 11, 2) := by decide +kernel
theorem dX7_sightOf_85 : decode cX7_sightOf 85 = .ok (.bipush 6, 2) := by decide +kernel
theorem dX7_sightOf_87 : decode cX7_sightOf 87 = .ok (.if_icmp .ge 127, 3) := by decide +kernel
theorem dX7_sightOf_90 : decode cX7_sightOf 90 = .ok (.aload_n 0, 1) := by decide +kernel
theorem dX7_sightOf_91 : decode cX7_sightOf 91 = .ok (.iload 6, 2) := by decide +kernel
theorem dX7_sightOf_93 : decode cX7_sightOf 93 = .ok (.invokevirtual 213, 3) := by decide +kernel
theorem dX7_sightOf_96 : decode cX7_sightOf 96 = .ok (.ifCond .eq 118, 3) := by decide +kernel
theorem dX7_sightOf_99 : decode cX7_sightOf 99 = .ok (.iload 11, 2) := by decide +kernel
theorem dX7_sightOf_101 : decode cX7_sightOf 101 = .ok (.iload 5, 2) := by decide +kernel
theorem dX7_sightOf_103 : decode cX7_sightOf 103 = .ok (.bipush 6, 2) := by decide +kernel
theorem dX7_sightOf_105 : decode cX7_sightOf 105 = .ok (.irem, 1) := by decide +kernel
theorem dX7_sightOf_106 : decode cX7_sightOf 106 = .ok (.invokestatic 197, 3) := by decide +kernel
theorem dX7_sightOf_109 : decode cX7_sightOf 109 = .ok (.aload_n 0, 1) := by decide +kernel
theorem dX7_sightOf_110 : decode cX7_sightOf 110 = .ok (.iload_n 1, 1) := by decide +kernel
theorem dX7_sightOf_111 : decode cX7_sightOf 111 = .ok (.invokevirtual 189, 3) := by decide +kernel
theorem dX7_sightOf_114 : decode cX7_sightOf 114 = .ok (.if_icmp .gt 94, 3) := by decide +kernel
theorem dX7_sightOf_117 : decode cX7_sightOf 117 = .ok (.aload_n 0, 1) := by decide +kernel
theorem dX7_sightOf_118 : decode cX7_sightOf 118 = .ok (.getfield 54, 3) := by decide +kernel
theorem dX7_sightOf_121 : decode cX7_sightOf 121 = .ok (.sipush 966, 3) := by decide +kernel
theorem dX7_sightOf_124 : decode cX7_sightOf 124 = .ok (.iload 4, 2) := by decide +kernel
theorem dX7_sightOf_126 : decode cX7_sightOf 126 = .ok (.iconst 1, 1) := by decide +kernel
theorem dX7_sightOf_127 : decode cX7_sightOf 127 = .ok (.iadd, 1) := by decide +kernel
theorem dX7_sightOf_128 : decode cX7_sightOf 128 = .ok (.imul, 1) := by decide +kernel
theorem dX7_sightOf_129 : decode cX7_sightOf 129 = .ok (.bipush 6, 2) := by decide +kernel
theorem dX7_sightOf_131 : decode cX7_sightOf 131 = .ok (.iload 6, 2) := by decide +kernel
theorem dX7_sightOf_133 : decode cX7_sightOf 133 = .ok (.imul, 1) := by decide +kernel
theorem dX7_sightOf_134 : decode cX7_sightOf 134 = .ok (.iadd, 1) := by decide +kernel
theorem dX7_sightOf_135 : decode cX7_sightOf 135 = .ok (.iload 11, 2) := by decide +kernel
theorem dX7_sightOf_137 : decode cX7_sightOf 137 = .ok (.iadd, 1) := by decide +kernel
theorem dX7_sightOf_138 : decode cX7_sightOf 138 = .ok (.laload, 1) := by decide +kernel
theorem dX7_sightOf_139 : decode cX7_sightOf 139 = .ok (.lstore 12, 2) := by decide +kernel
theorem dX7_sightOf_141 : decode cX7_sightOf 141 = .ok (.aload_n 0, 1) := by decide +kernel
theorem dX7_sightOf_142 : decode cX7_sightOf 142 = .ok (.getfield 54, 3) := by decide +kernel
theorem dX7_sightOf_145 : decode cX7_sightOf 145 = .ok (.sipush 966, 3) := by decide +kernel
theorem dX7_sightOf_148 : decode cX7_sightOf 148 = .ok (.iload 4, 2) := by decide +kernel
theorem dX7_sightOf_150 : decode cX7_sightOf 150 = .ok (.iconst 1, 1) := by decide +kernel
theorem dX7_sightOf_151 : decode cX7_sightOf 151 = .ok (.iadd, 1) := by decide +kernel
theorem dX7_sightOf_152 : decode cX7_sightOf 152 = .ok (.imul, 1) := by decide +kernel
theorem dX7_sightOf_153 : decode cX7_sightOf 153 = .ok (.bipush 6, 2) := by decide +kernel
theorem dX7_sightOf_155 : decode cX7_sightOf 155 = .ok (.aload_n 0, 1) := by decide +kernel
theorem dX7_sightOf_156 : decode cX7_sightOf 156 = .ok (.iload_n 1, 1) := by decide +kernel
theorem dX7_sightOf_157 : decode cX7_sightOf 157 = .ok (.iload 6, 2) := by decide +kernel
theorem dX7_sightOf_159 : decode cX7_sightOf 159 = .ok (.iload 11, 2) := by decide +kernel
theorem dX7_sightOf_161 : decode cX7_sightOf 161 = .ok (.iload 4, 2) := by decide +kernel
theorem dX7_sightOf_163 : decode cX7_sightOf 163 = .ok (.invokevirtual 205, 3) := by decide +kernel
theorem dX7_sightOf_166 : decode cX7_sightOf 166 = .ok (.imul, 1) := by decide +kernel
theorem dX7_sightOf_167 : decode cX7_sightOf 167 = .ok (.iadd, 1) := by decide +kernel
theorem dX7_sightOf_168 : decode cX7_sightOf 168 = .ok (.iload 11, 2) := by decide +kernel
theorem dX7_sightOf_170 : decode cX7_sightOf 170 = .ok (.iadd, 1) := by decide +kernel
theorem dX7_sightOf_171 : decode cX7_sightOf 171 = .ok (.laload, 1) := by decide +kernel
theorem dX7_sightOf_172 : decode cX7_sightOf 172 = .ok (.lstore 14, 2) := by decide +kernel
theorem dX7_sightOf_174 : decode cX7_sightOf 174 = .ok (.lload 12, 2) := by decide +kernel
theorem dX7_sightOf_176 : decode cX7_sightOf 176 = .ok (.lload 7, 2) := by decide +kernel
theorem dX7_sightOf_178 : decode cX7_sightOf 178 = .ok (.lcmp, 1) := by decide +kernel
theorem dX7_sightOf_179 : decode cX7_sightOf 179 = .ok (.ifCond .le 8, 3) := by decide +kernel
theorem dX7_sightOf_182 : decode cX7_sightOf 182 = .ok (.lload 12, 2) := by decide +kernel
theorem dX7_sightOf_184 : decode cX7_sightOf 184 = .ok (.goto 5, 3) := by decide +kernel
theorem dX7_sightOf_187 : decode cX7_sightOf 187 = .ok (.lload 7, 2) := by decide +kernel
theorem dX7_sightOf_189 : decode cX7_sightOf 189 = .ok (.lstore 7, 2) := by decide +kernel
theorem dX7_sightOf_191 : decode cX7_sightOf 191 = .ok (.lload 14, 2) := by decide +kernel
theorem dX7_sightOf_193 : decode cX7_sightOf 193 = .ok (.lload 9, 2) := by decide +kernel
theorem dX7_sightOf_195 : decode cX7_sightOf 195 = .ok (.lcmp, 1) := by decide +kernel
theorem dX7_sightOf_196 : decode cX7_sightOf 196 = .ok (.ifCond .le 8, 3) := by decide +kernel
theorem dX7_sightOf_199 : decode cX7_sightOf 199 = .ok (.lload 14, 2) := by decide +kernel
theorem dX7_sightOf_201 : decode cX7_sightOf 201 = .ok (.goto 5, 3) := by decide +kernel
theorem dX7_sightOf_204 : decode cX7_sightOf 204 = .ok (.lload 9, 2) := by decide +kernel
theorem dX7_sightOf_206 : decode cX7_sightOf 206 = .ok (.lstore 9, 2) := by decide +kernel
theorem dX7_sightOf_208 : decode cX7_sightOf 208 = .ok (.iinc 11 1, 3) := by decide +kernel
theorem dX7_sightOf_211 : decode cX7_sightOf 211 = .ok (.goto (-128), 3) := by decide +kernel
theorem dX7_sightOf_214 : decode cX7_sightOf 214 = .ok (.aload_n 0, 1) := by decide +kernel
theorem dX7_sightOf_215 : decode cX7_sightOf 215 = .ok (.getfield 54, 3) := by decide +kernel
theorem dX7_sightOf_218 : decode cX7_sightOf 218 = .ok (.sipush 966, 3) := by decide +kernel
theorem dX7_sightOf_221 : decode cX7_sightOf 221 = .ok (.iload 4, 2) := by decide +kernel
theorem dX7_sightOf_223 : decode cX7_sightOf 223 = .ok (.imul, 1) := by decide +kernel
theorem dX7_sightOf_224 : decode cX7_sightOf 224 = .ok (.iload 5, 2) := by decide +kernel
theorem dX7_sightOf_226 : decode cX7_sightOf 226 = .ok (.iadd, 1) := by decide +kernel
theorem dX7_sightOf_227 : decode cX7_sightOf 227 = .ok (.iload_n 3, 1) := by decide +kernel
theorem dX7_sightOf_228 : decode cX7_sightOf 228 = .ok (.i2l, 1) := by decide +kernel
theorem dX7_sightOf_229 : decode cX7_sightOf 229 = .ok (.lload 7, 2) := by decide +kernel
theorem dX7_sightOf_231 : decode cX7_sightOf 231 = .ok (.lmul, 1) := by decide +kernel
theorem dX7_sightOf_232 : decode cX7_sightOf 232 = .ok (.bipush 10, 2) := by decide +kernel
theorem dX7_sightOf_234 : decode cX7_sightOf 234 = .ok (.iload_n 3, 1) := by decide +kernel
theorem dX7_sightOf_235 : decode cX7_sightOf 235 = .ok (.isub, 1) := by decide +kernel
theorem dX7_sightOf_236 : decode cX7_sightOf 236 = .ok (.i2l, 1) := by decide +kernel
theorem dX7_sightOf_237 : decode cX7_sightOf 237 = .ok (.lload 9, 2) := by decide +kernel
theorem dX7_sightOf_239 : decode cX7_sightOf 239 = .ok (.lmul, 1) := by decide +kernel
theorem dX7_sightOf_240 : decode cX7_sightOf 240 = .ok (.ladd, 1) := by decide +kernel
theorem dX7_sightOf_241 : decode cX7_sightOf 241 = .ok (.lastore, 1) := by decide +kernel
theorem dX7_sightOf_242 : decode cX7_sightOf 242 = .ok (.iinc 5 1, 3) := by decide +kernel
theorem dX7_sightOf_245 : decode cX7_sightOf 245 = .ok (.goto (-186), 3) := by decide +kernel
theorem dX7_sightOf_248 : decode cX7_sightOf 248 = .ok (.iinc 4 (-1), 3) := by decide +kernel
theorem dX7_sightOf_251 : decode cX7_sightOf 251 = .ok (.goto (-200), 3) := by decide +kernel
theorem dX7_sightOf_254 : decode cX7_sightOf 254 = .ok (.aload_n 0, 1) := by decide +kernel
theorem dX7_sightOf_255 : decode cX7_sightOf 255 = .ok (.getfield 54, 3) := by decide +kernel
theorem dX7_sightOf_258 : decode cX7_sightOf 258 = .ok (.bipush 6, 2) := by decide +kernel
theorem dX7_sightOf_260 : decode cX7_sightOf 260 = .ok (.aload_n 0, 1) := by decide +kernel
theorem dX7_sightOf_261 : decode cX7_sightOf 261 = .ok (.invokevirtual 169, 3) := by decide +kernel
theorem dX7_sightOf_264 : decode cX7_sightOf 264 = .ok (.imul, 1) := by decide +kernel
theorem dX7_sightOf_265 : decode cX7_sightOf 265 = .ok (.laload, 1) := by decide +kernel
theorem dX7_sightOf_266 : decode cX7_sightOf 266 = .ok (.lreturn, 1) := by decide +kernel
theorem dX7_sight_0 : decode cX7_sight 0 = .ok (.aload_n 0, 1) := by decide +kernel
theorem dX7_sight_1 : decode cX7_sight 1 = .ok (.iload_n 1, 1) := by decide +kernel
theorem dX7_sight_2 : decode cX7_sight 2 = .ok (.invokevirtual 186, 3) := by decide +kernel
theorem dX7_sight_5 : decode cX7_sight 5 = .ok (.ifCond .ne 7, 3) := by decide +kernel
theorem dX7_sight_8 : decode cX7_sight 8 = .ok (.ldc2_w 89, 3) := by decide +kernel
theorem dX7_sight_11 : decode cX7_sight 11 = .ok (.lreturn, 1) := by decide +kernel
theorem dX7_sight_12 : decode cX7_sight 12 = .ok (.iload_n 2, 1) := by decide +kernel
theorem dX7_sight_13 : decode cX7_sight 13 = .ok (.bipush 8, 2) := by decide +kernel
theorem dX7_sight_15 : decode cX7_sight 15 = .ok (.iload_n 3, 1) := by decide +kernel
theorem dX7_sight_16 : decode cX7_sight 16 = .ok (.iload 4, 2) := by decide +kernel
theorem dX7_sight_18 : decode cX7_sight 18 = .ok (.invokestatic 243, 3) := by decide +kernel
theorem dX7_sight_21 : decode cX7_sight 21 = .ok (.ifCond .eq 24, 3) := by decide +kernel
theorem dX7_sight_24 : decode cX7_sight 24 = .ok (.aload_n 0, 1) := by decide +kernel
theorem dX7_sight_25 : decode cX7_sight 25 = .ok (.iload_n 1, 1) := by decide +kernel
theorem dX7_sight_26 : decode cX7_sight 26 = .ok (.iload_n 2, 1) := by decide +kernel
theorem dX7_sight_27 : decode cX7_sight 27 = .ok (.iload_n 3, 1) := by decide +kernel
theorem dX7_sight_28 : decode cX7_sight 28 = .ok (.invokevirtual 258, 3) := by decide +kernel
theorem dX7_sight_31 : decode cX7_sight 31 = .ok (.bipush 10, 2) := by decide +kernel
theorem dX7_sight_33 : decode cX7_sight 33 = .ok (.iload_n 2, 1) := by decide +kernel
theorem dX7_sight_34 : decode cX7_sight 34 = .ok (.invokestatic 250, 3) := by decide +kernel
theorem dX7_sight_37 : decode cX7_sight 37 = .ok (.iload 4, 2) := by decide +kernel
theorem dX7_sight_39 : decode cX7_sight 39 = .ok (.invokestatic 254, 3) := by decide +kernel
theorem dX7_sight_42 : decode cX7_sight 42 = .ok (.goto 6, 3) := by decide +kernel
theorem dX7_sight_45 : decode cX7_sight 45 = .ok (.ldc2_w 103, 3) := by decide +kernel
theorem dX7_sight_48 : decode cX7_sight 48 = .ok (.lreturn, 1) := by decide +kernel
theorem dX7_blindOf_0 : decode cX7_blindOf 0 = .ok (.lconst 0, 1) := by decide +kernel
theorem dX7_blindOf_1 : decode cX7_blindOf 1 = .ok (.lstore 4, 2) := by decide +kernel
theorem dX7_blindOf_3 : decode cX7_blindOf 3 = .ok (.iconst 0, 1) := by decide +kernel
theorem dX7_blindOf_4 : decode cX7_blindOf 4 = .ok (.istore 6, 2) := by decide +kernel
theorem dX7_blindOf_6 : decode cX7_blindOf 6 = .ok (.iload 6, 2) := by decide +kernel
theorem dX7_blindOf_8 : decode cX7_blindOf 8 = .ok (.bipush 6, 2) := by decide +kernel
theorem dX7_blindOf_10 : decode cX7_blindOf 10 = .ok (.iload_n 2, 1) := by decide +kernel
theorem dX7_blindOf_11 : decode cX7_blindOf 11 = .ok (.invokestatic 250, 3) := by decide +kernel
theorem dX7_blindOf_14 : decode cX7_blindOf 14 = .ok (.l2i, 1) := by decide +kernel
theorem dX7_blindOf_15 : decode cX7_blindOf 15 = .ok (.if_icmp .ge 130, 3) := by decide +kernel
theorem dX7_blindOf_18 : decode cX7_blindOf 18 = .ok (.iload 6, 2) := by decide +kernel
theorem dX7_blindOf_20 : decode cX7_blindOf 20 = .ok (.istore 7, 2) := by decide +kernel
theorem dX7_blindOf_22 : decode cX7_blindOf 22 = .ok (.iconst 0, 1) := by decide +kernel
theorem dX7_blindOf_23 : decode cX7_blindOf 23 = .ok (.istore 8, 2) := by decide +kernel
theorem dX7_blindOf_25 : decode cX7_blindOf 25 = .ok (.iconst 1, 1) := by decide +kernel
theorem dX7_blindOf_26 : decode cX7_blindOf 26 = .ok (.istore 9, 2) := by decide +kernel
theorem dX7_blindOf_28 : decode cX7_blindOf 28 = .ok (.iconst 0, 1) := by decide +kernel
theorem dX7_blindOf_29 : decode cX7_blindOf 29 = .ok (.istore 10, 2) := by decide +kernel
theorem dX7_blindOf_31 : decode cX7_blindOf 31 = .ok (.iload 10, 2) := by decide +kernel
theorem dX7_blindOf_33 : decode cX7_blindOf 33 = .ok (.iload_n 2, 1) := by decide +kernel
theorem dX7_blindOf_34 : decode cX7_blindOf 34 = .ok (.if_icmp .ge 69, 3) := by decide +kernel
theorem dX7_blindOf_37 : decode cX7_blindOf 37 = .ok (.aload_n 0, 1) := by decide +kernel
theorem dX7_blindOf_38 : decode cX7_blindOf 38 = .ok (.getfield 42, 3) := by decide +kernel
theorem dX7_blindOf_41 : decode cX7_blindOf 41 = .ok (.iload 10, 2) := by decide +kernel
theorem dX7_blindOf_43 : decode cX7_blindOf 43 = .ok (.iload 7, 2) := by decide +kernel
theorem dX7_blindOf_45 : decode cX7_blindOf 45 = .ok (.bipush 6, 2) := by decide +kernel
theorem dX7_blindOf_47 : decode cX7_blindOf 47 = .ok (.irem, 1) := by decide +kernel
theorem dX7_blindOf_48 : decode cX7_blindOf 48 = .ok (.iastore, 1) := by decide +kernel
theorem dX7_blindOf_49 : decode cX7_blindOf 49 = .ok (.iload 7, 2) := by decide +kernel
theorem dX7_blindOf_51 : decode cX7_blindOf 51 = .ok (.bipush 6, 2) := by decide +kernel
theorem dX7_blindOf_53 : decode cX7_blindOf 53 = .ok (.idiv, 1) := by decide +kernel
theorem dX7_blindOf_54 : decode cX7_blindOf 54 = .ok (.istore 7, 2) := by decide +kernel
theorem dX7_blindOf_56 : decode cX7_blindOf 56 = .ok (.iload 9, 2) := by decide +kernel
theorem dX7_blindOf_58 : decode cX7_blindOf 58 = .ok (.ifCond .eq 27, 3) := by decide +kernel
theorem dX7_blindOf_61 : decode cX7_blindOf 61 = .ok (.iload 8, 2) := by decide +kernel
theorem dX7_blindOf_63 : decode cX7_blindOf 63 = .ok (.aload_n 0, 1) := by decide +kernel
theorem dX7_blindOf_64 : decode cX7_blindOf 64 = .ok (.getfield 42, 3) := by decide +kernel
theorem dX7_blindOf_67 : decode cX7_blindOf 67 = .ok (.iload 10, 2) := by decide +kernel
theorem dX7_blindOf_69 : decode cX7_blindOf 69 = .ok (.iaload, 1) := by decide +kernel
theorem dX7_blindOf_70 : decode cX7_blindOf 70 = .ok (.invokestatic 197, 3) := by decide +kernel
theorem dX7_blindOf_73 : decode cX7_blindOf 73 = .ok (.aload_n 0, 1) := by decide +kernel
theorem dX7_blindOf_74 : decode cX7_blindOf 74 = .ok (.iload_n 1, 1) := by decide +kernel
theorem dX7_blindOf_75 : decode cX7_blindOf 75 = .ok (.invokevirtual 189, 3) := by decide +kernel
theorem dX7_blindOf_78 : decode cX7_blindOf 78 = .ok (.if_icmp .gt 7, 3) := by decide +kernel
theorem dX7_blindOf_81 : decode cX7_blindOf 81 = .ok (.iconst 1, 1) := by decide +kernel
theorem dX7_blindOf_82 : decode cX7_blindOf 82 = .ok (.goto 4, 3) := by decide +kernel
theorem dX7_blindOf_85 : decode cX7_blindOf 85 = .ok (.iconst 0, 1) := by decide +kernel
theorem dX7_blindOf_86 : decode cX7_blindOf 86 = .ok (.istore 9, 2) := by decide +kernel
theorem dX7_blindOf_88 : decode cX7_blindOf 88 = .ok (.aload_n 0, 1) := by decide +kernel
theorem dX7_blindOf_89 : decode cX7_blindOf 89 = .ok (.getfield 42, 3) := by decide +kernel
theorem dX7_blindOf_92 : decode cX7_blindOf 92 = .ok (.iload 10, 2) := by decide +kernel
theorem dX7_blindOf_94 : decode cX7_blindOf 94 = .ok (.iaload, 1) := by decide +kernel
theorem dX7_blindOf_95 : decode cX7_blindOf 95 = .ok (.istore 8, 2) := by decide +kernel
theorem dX7_blindOf_97 : decode cX7_blindOf 97 = .ok (.iinc 10 1, 3) := by decide +kernel
theorem dX7_blindOf_100 : decode cX7_blindOf 100 = .ok (.goto (-69), 3) := by decide +kernel
theorem dX7_blindOf_103 : decode cX7_blindOf 103 = .ok (.iload 9, 2) := by decide +kernel
theorem dX7_blindOf_105 : decode cX7_blindOf 105 = .ok (.ifCond .eq 14, 3) := by decide +kernel
theorem dX7_blindOf_108 : decode cX7_blindOf 108 = .ok (.aload_n 0, 1) := by decide +kernel
theorem dX7_blindOf_109 : decode cX7_blindOf 109 = .ok (.iload_n 1, 1) := by decide +kernel
theorem dX7_blindOf_110 : decode cX7_blindOf 110 = .ok (.iload_n 2, 1) := by decide +kernel
theorem dX7_blindOf_111 : decode cX7_blindOf 111 = .ok (.iload_n 3, 1) := by decide +kernel
theorem dX7_blindOf_112 : decode cX7_blindOf 112 = .ok (.iload_n 2, 1) := by decide +kernel
theorem dX7_blindOf_113 : decode cX7_blindOf 113 = .ok (.invokevirtual 246, 3) := by decide +kernel
theorem dX7_blindOf_116 : decode cX7_blindOf 116 = .ok (.goto 4, 3) := by decide +kernel
theorem dX7_blindOf_119 : decode cX7_blindOf 119 = .ok (.lconst 0, 1) := by decide +kernel
theorem dX7_blindOf_120 : decode cX7_blindOf 120 = .ok (.lstore 10, 2) := by decide +kernel
theorem dX7_blindOf_122 : decode cX7_blindOf 122 = .ok (.lload 10, 2) := by decide +kernel
theorem dX7_blindOf_124 : decode cX7_blindOf 124 = .ok (.lload 4, 2) := by decide +kernel
theorem dX7_blindOf_126 : decode cX7_blindOf 126 = .ok (.lcmp, 1) := by decide +kernel
theorem dX7_blindOf_127 : decode cX7_blindOf 127 = .ok (.ifCond .le 8, 3) := by decide +kernel
theorem dX7_blindOf_130 : decode cX7_blindOf 130 = .ok (.lload 10, 2) := by decide +kernel
theorem dX7_blindOf_132 : decode cX7_blindOf 132 = .ok (.goto 5, 3) := by decide +kernel
theorem dX7_blindOf_135 : decode cX7_blindOf 135 = .ok (.lload 4, 2) := by decide +kernel
theorem dX7_blindOf_137 : decode cX7_blindOf 137 = .ok (.lstore 4, 2) := by decide +kernel
theorem dX7_blindOf_139 : decode cX7_blindOf 139 = .ok (.iinc 6 1, 3) := by decide +kernel
theorem dX7_blindOf_142 : decode cX7_blindOf 142 = .ok (.goto (-136), 3) := by decide +kernel
theorem dX7_blindOf_145 : decode cX7_blindOf 145 = .ok (.lload 4, 2) := by decide +kernel
theorem dX7_blindOf_147 : decode cX7_blindOf 147 = .ok (.lreturn, 1) := by decide +kernel
theorem dX7_blind_0 : decode cX7_blind 0 = .ok (.aload_n 0, 1) := by decide +kernel
theorem dX7_blind_1 : decode cX7_blind 1 = .ok (.iload_n 1, 1) := by decide +kernel
theorem dX7_blind_2 : decode cX7_blind 2 = .ok (.invokevirtual 186, 3) := by decide +kernel
theorem dX7_blind_5 : decode cX7_blind 5 = .ok (.ifCond .ne 7, 3) := by decide +kernel
theorem dX7_blind_8 : decode cX7_blind 8 = .ok (.ldc2_w 89, 3) := by decide +kernel
theorem dX7_blind_11 : decode cX7_blind 11 = .ok (.lreturn, 1) := by decide +kernel
theorem dX7_blind_12 : decode cX7_blind 12 = .ok (.iload_n 2, 1) := by decide +kernel
theorem dX7_blind_13 : decode cX7_blind 13 = .ok (.iconst 4, 1) := by decide +kernel
theorem dX7_blind_14 : decode cX7_blind 14 = .ok (.iload_n 3, 1) := by decide +kernel
theorem dX7_blind_15 : decode cX7_blind 15 = .ok (.iload 4, 2) := by decide +kernel
theorem dX7_blind_17 : decode cX7_blind 17 = .ok (.invokestatic 243, 3) := by decide +kernel
theorem dX7_blind_20 : decode cX7_blind 20 = .ok (.ifCond .eq 24, 3) := by decide +kernel
theorem dX7_blind_23 : decode cX7_blind 23 = .ok (.aload_n 0, 1) := by decide +kernel
theorem dX7_blind_24 : decode cX7_blind 24 = .ok (.iload_n 1, 1) := by decide +kernel
theorem dX7_blind_25 : decode cX7_blind 25 = .ok (.iload_n 2, 1) := by decide +kernel
theorem dX7_blind_26 : decode cX7_blind 26 = .ok (.iload_n 3, 1) := by decide +kernel
theorem dX7_blind_27 : decode cX7_blind 27 = .ok (.invokevirtual 262, 3) := by decide +kernel
theorem dX7_blind_30 : decode cX7_blind 30 = .ok (.bipush 10, 2) := by decide +kernel
theorem dX7_blind_32 : decode cX7_blind 32 = .ok (.iload_n 2, 1) := by decide +kernel
theorem dX7_blind_33 : decode cX7_blind 33 = .ok (.invokestatic 250, 3) := by decide +kernel
theorem dX7_blind_36 : decode cX7_blind 36 = .ok (.iload 4, 2) := by decide +kernel
theorem dX7_blind_38 : decode cX7_blind 38 = .ok (.invokestatic 254, 3) := by decide +kernel
theorem dX7_blind_41 : decode cX7_blind 41 = .ok (.goto 6, 3) := by decide +kernel
theorem dX7_blind_44 : decode cX7_blind 44 = .ok (.ldc2_w 103, 3) := by decide +kernel
theorem dX7_blind_47 : decode cX7_blind 47 = .ok (.lreturn, 1) := by decide +kernel
theorem dX7_worth_0 : decode cX7_worth 0 = .ok (.aload_n 0, 1) := by decide +kernel
theorem dX7_worth_1 : decode cX7_worth 1 = .ok (.iload_n 1, 1) := by decide +kernel
theorem dX7_worth_2 : decode cX7_worth 2 = .ok (.invokevirtual 186, 3) := by decide +kernel
theorem dX7_worth_5 : decode cX7_worth 5 = .ok (.ifCond .ne 7, 3) := by decide +kernel
theorem dX7_worth_8 : decode cX7_worth 8 = .ok (.ldc2_w 89, 3) := by decide +kernel
theorem dX7_worth_11 : decode cX7_worth 11 = .ok (.lreturn, 1) := by decide +kernel
theorem dX7_worth_12 : decode cX7_worth 12 = .ok (.iload_n 2, 1) := by decide +kernel
theorem dX7_worth_13 : decode cX7_worth 13 = .ok (.iconst 4, 1) := by decide +kernel
theorem dX7_worth_14 : decode cX7_worth 14 = .ok (.iload_n 3, 1) := by decide +kernel
theorem dX7_worth_15 : decode cX7_worth 15 = .ok (.iload 4, 2) := by decide +kernel
theorem dX7_worth_17 : decode cX7_worth 17 = .ok (.invokestatic 243, 3) := by decide +kernel
theorem dX7_worth_20 : decode cX7_worth 20 = .ok (.ifCond .eq 32, 3) := by decide +kernel
theorem dX7_worth_23 : decode cX7_worth 23 = .ok (.aload_n 0, 1) := by decide +kernel
theorem dX7_worth_24 : decode cX7_worth 24 = .ok (.iload_n 1, 1) := by decide +kernel
theorem dX7_worth_25 : decode cX7_worth 25 = .ok (.iload_n 2, 1) := by decide +kernel
theorem dX7_worth_26 : decode cX7_worth 26 = .ok (.iload_n 3, 1) := by decide +kernel
theorem dX7_worth_27 : decode cX7_worth 27 = .ok (.invokevirtual 258, 3) := by decide +kernel
theorem dX7_worth_30 : decode cX7_worth 30 = .ok (.aload_n 0, 1) := by decide +kernel
theorem dX7_worth_31 : decode cX7_worth 31 = .ok (.iload_n 1, 1) := by decide +kernel
theorem dX7_worth_32 : decode cX7_worth 32 = .ok (.iload_n 2, 1) := by decide +kernel
theorem dX7_worth_33 : decode cX7_worth 33 = .ok (.iload_n 3, 1) := by decide +kernel
theorem dX7_worth_34 : decode cX7_worth 34 = .ok (.invokevirtual 262, 3) := by decide +kernel
theorem dX7_worth_37 : decode cX7_worth 37 = .ok (.lsub, 1) := by decide +kernel
theorem dX7_worth_38 : decode cX7_worth 38 = .ok (.bipush 10, 2) := by decide +kernel
theorem dX7_worth_40 : decode cX7_worth 40 = .ok (.iload_n 2, 1) := by decide +kernel
theorem dX7_worth_41 : decode cX7_worth 41 = .ok (.invokestatic 250, 3) := by decide +kernel
theorem dX7_worth_44 : decode cX7_worth 44 = .ok (.iload 4, 2) := by decide +kernel
theorem dX7_worth_46 : decode cX7_worth 46 = .ok (.invokestatic 254, 3) := by decide +kernel
theorem dX7_worth_49 : decode cX7_worth 49 = .ok (.goto 6, 3) := by decide +kernel
theorem dX7_worth_52 : decode cX7_worth 52 = .ok (.ldc2_w 103, 3) := by decide +kernel
theorem dX7_worth_55 : decode cX7_worth 55 = .ok (.lreturn, 1) := by decide +kernel
theorem dX7_firstOf_0 : decode cX7_firstOf 0 = .ok (.aload_n 0, 1) := by decide +kernel
theorem dX7_firstOf_1 : decode cX7_firstOf 1 = .ok (.iload_n 1, 1) := by decide +kernel
theorem dX7_firstOf_2 : decode cX7_firstOf 2 = .ok (.iconst 0, 1) := by decide +kernel
theorem dX7_firstOf_3 : decode cX7_firstOf 3 = .ok (.invokevirtual 236, 3) := by decide +kernel
theorem dX7_firstOf_6 : decode cX7_firstOf 6 = .ok (.ifCond .ne 5, 3) := by decide +kernel
theorem dX7_firstOf_9 : decode cX7_firstOf 9 = .ok (.iconst (-1), 1) := by decide +kernel
theorem dX7_firstOf_10 : decode cX7_firstOf 10 = .ok (.ireturn, 1) := by decide +kernel
theorem dX7_firstOf_11 : decode cX7_firstOf 11 = .ok (.iconst 0, 1) := by decide +kernel
theorem dX7_firstOf_12 : decode cX7_firstOf 12 = .ok (.istore 4, 2) := by decide +kernel
theorem dX7_firstOf_14 : decode cX7_firstOf 14 = .ok (.iload 4, 2) := by decide +kernel
theorem dX7_firstOf_16 : decode cX7_firstOf 16 = .ok (.aload_n 0, 1) := by decide +kernel
theorem dX7_firstOf_17 : decode cX7_firstOf 17 = .ok (.getfield 224, 3) := by decide +kernel
theorem dX7_firstOf_20 : decode cX7_firstOf 20 = .ok (.if_icmp .ge 50, 3) := by decide +kernel
theorem dX7_firstOf_23 : decode cX7_firstOf 23 = .ok (.aload_n 0, 1) := by decide +kernel
theorem dX7_firstOf_24 : decode cX7_firstOf 24 = .ok (.getfield 45, 3) := by decide +kernel
theorem dX7_firstOf_27 : decode cX7_firstOf 27 = .ok (.iload 4, 2) := by decide +kernel
theorem dX7_firstOf_29 : decode cX7_firstOf 29 = .ok (.iaload, 1) := by decide +kernel
theorem dX7_firstOf_30 : decode cX7_firstOf 30 = .ok (.sipush 160, 3) := by decide +kernel
theorem dX7_firstOf_33 : decode cX7_firstOf 33 = .ok (.if_icmp .eq 31, 3) := by decide +kernel
theorem dX7_firstOf_36 : decode cX7_firstOf 36 = .ok (.aload_n 0, 1) := by decide +kernel
theorem dX7_firstOf_37 : decode cX7_firstOf 37 = .ok (.getfield 45, 3) := by decide +kernel
theorem dX7_firstOf_40 : decode cX7_firstOf 40 = .ok (.iload 4, 2) := by decide +kernel
theorem dX7_firstOf_42 : decode cX7_firstOf 42 = .ok (.iaload, 1) := by decide +kernel
theorem dX7_firstOf_43 : decode cX7_firstOf 43 = .ok (.bipush 20, 2) := by decide +kernel
theorem dX7_firstOf_45 : decode cX7_firstOf 45 = .ok (.idiv, 1) := by decide +kernel
theorem dX7_firstOf_46 : decode cX7_firstOf 46 = .ok (.iload_n 2, 1) := by decide +kernel
theorem dX7_firstOf_47 : decode cX7_firstOf 47 = .ok (.if_icmp .ne 17, 3) := by decide +kernel
theorem dX7_firstOf_50 : decode cX7_firstOf 50 = .ok (.aload_n 0, 1) := by decide +kernel
theorem dX7_firstOf_51 : decode cX7_firstOf 51 = .ok (.getfield 42, 3) := by decide +kernel
theorem dX7_firstOf_54 : decode cX7_firstOf 54 = .ok (.iload 4, 2) := by decide +kernel
theorem dX7_firstOf_56 : decode cX7_firstOf 56 = .ok (.iaload, 1) := by decide +kernel
theorem dX7_firstOf_57 : decode cX7_firstOf 57 = .ok (.iload_n 3, 1) := by decide +kernel
theorem dX7_firstOf_58 : decode cX7_firstOf 58 = .ok (.if_icmp .ne 6, 3) := by decide +kernel
theorem dX7_firstOf_61 : decode cX7_firstOf 61 = .ok (.iload 4, 2) := by decide +kernel
theorem dX7_firstOf_63 : decode cX7_firstOf 63 = .ok (.ireturn, 1) := by decide +kernel
theorem dX7_firstOf_64 : decode cX7_firstOf 64 = .ok (.iinc 4 1, 3) := by decide +kernel
theorem dX7_firstOf_67 : decode cX7_firstOf 67 = .ok (.goto (-53), 3) := by decide +kernel
theorem dX7_firstOf_70 : decode cX7_firstOf 70 = .ok (.iconst (-1), 1) := by decide +kernel
theorem dX7_firstOf_71 : decode cX7_firstOf 71 = .ok (.ireturn, 1) := by decide +kernel
theorem dX7_found_0 : decode cX7_found 0 = .ok (.aload_n 0, 1) := by decide +kernel
theorem dX7_found_1 : decode cX7_found 1 = .ok (.iload_n 1, 1) := by decide +kernel
theorem dX7_found_2 : decode cX7_found 2 = .ok (.invokevirtual 177, 3) := by decide +kernel
theorem dX7_found_5 : decode cX7_found 5 = .ok (.ifCond .eq 10, 3) := by decide +kernel
theorem dX7_found_8 : decode cX7_found 8 = .ok (.iload_n 2, 1) := by decide +kernel
theorem dX7_found_9 : decode cX7_found 9 = .ok (.invokestatic 180, 3) := by decide +kernel
theorem dX7_found_12 : decode cX7_found 12 = .ok (.ifCond .ne 6, 3) := by decide +kernel
theorem dX7_found_15 : decode cX7_found 15 = .ok (.bipush (-2), 2) := by decide +kernel
theorem dX7_found_17 : decode cX7_found 17 = .ok (.ireturn, 1) := by decide +kernel
theorem dX7_found_18 : decode cX7_found 18 = .ok (.iconst 0, 1) := by decide +kernel
theorem dX7_found_19 : decode cX7_found 19 = .ok (.istore_n 3, 1) := by decide +kernel
theorem dX7_found_20 : decode cX7_found 20 = .ok (.iconst 0, 1) := by decide +kernel
theorem dX7_found_21 : decode cX7_found 21 = .ok (.istore 4, 2) := by decide +kernel
theorem dX7_found_23 : decode cX7_found 23 = .ok (.iload 4, 2) := by decide +kernel
theorem dX7_found_25 : decode cX7_found 25 = .ok (.iconst 4, 1) := by decide +kernel
theorem dX7_found_26 : decode cX7_found 26 = .ok (.if_icmp .ge 44, 3) := by decide +kernel
theorem dX7_found_29 : decode cX7_found 29 = .ok (.iload_n 3, 1) := by decide +kernel
theorem dX7_found_30 : decode cX7_found 30 = .ok (.aload_n 0, 1) := by decide +kernel
theorem dX7_found_31 : decode cX7_found 31 = .ok (.getfield 65, 3) := by decide +kernel
theorem dX7_found_34 : decode cX7_found 34 = .ok (.iload 4, 2) := by decide +kernel
theorem dX7_found_36 : decode cX7_found 36 = .ok (.invokestatic 68, 3) := by decide +kernel
theorem dX7_found_39 : decode cX7_found 39 = .ok (.ifCond .eq 22, 3) := by decide +kernel
theorem dX7_found_42 : decode cX7_found 42 = .ok (.aload_n 0, 1) := by decide +kernel
theorem dX7_found_43 : decode cX7_found 43 = .ok (.iload 4, 2) := by decide +kernel
theorem dX7_found_45 : decode cX7_found 45 = .ok (.iload_n 1, 1) := by decide +kernel
theorem dX7_found_46 : decode cX7_found 46 = .ok (.iload_n 2, 1) := by decide +kernel
theorem dX7_found_47 : decode cX7_found 47 = .ok (.invokevirtual 265, 3) := by decide +kernel
theorem dX7_found_50 : decode cX7_found 50 = .ok (.iconst (-1), 1) := by decide +kernel
theorem dX7_found_51 : decode cX7_found 51 = .ok (.if_icmp .eq 10, 3) := by decide +kernel
theorem dX7_found_54 : decode cX7_found 54 = .ok (.iconst 1, 1) := by decide +kernel
theorem dX7_found_55 : decode cX7_found 55 = .ok (.iload 4, 2) := by decide +kernel
theorem dX7_found_57 : decode cX7_found 57 = .ok (.ishl, 1) := by decide +kernel
theorem dX7_found_58 : decode cX7_found 58 = .ok (.goto 4, 3) := by decide +kernel
theorem dX7_found_61 : decode cX7_found 61 = .ok (.iconst 0, 1) := by decide +kernel
theorem dX7_found_62 : decode cX7_found 62 = .ok (.ior, 1) := by decide +kernel
theorem dX7_found_63 : decode cX7_found 63 = .ok (.istore_n 3, 1) := by decide +kernel
theorem dX7_found_64 : decode cX7_found 64 = .ok (.iinc 4 1, 3) := by decide +kernel
theorem dX7_found_67 : decode cX7_found 67 = .ok (.goto (-44), 3) := by decide +kernel
theorem dX7_found_70 : decode cX7_found 70 = .ok (.iload_n 3, 1) := by decide +kernel
theorem dX7_found_71 : decode cX7_found 71 = .ok (.ireturn, 1) := by decide +kernel
theorem dX7_first_0 : decode cX7_first 0 = .ok (.aload_n 0, 1) := by decide +kernel
theorem dX7_first_1 : decode cX7_first 1 = .ok (.iload_n 1, 1) := by decide +kernel
theorem dX7_first_2 : decode cX7_first 2 = .ok (.invokevirtual 186, 3) := by decide +kernel
theorem dX7_first_5 : decode cX7_first 5 = .ok (.ifCond .eq 28, 3) := by decide +kernel
theorem dX7_first_8 : decode cX7_first 8 = .ok (.aload_n 0, 1) := by decide +kernel
theorem dX7_first_9 : decode cX7_first 9 = .ok (.iload_n 2, 1) := by decide +kernel
theorem dX7_first_10 : decode cX7_first 10 = .ok (.invokevirtual 177, 3) := by decide +kernel
theorem dX7_first_13 : decode cX7_first 13 = .ok (.ifCond .eq 20, 3) := by decide +kernel
theorem dX7_first_16 : decode cX7_first 16 = .ok (.iload_n 3, 1) := by decide +kernel
theorem dX7_first_17 : decode cX7_first 17 = .ok (.invokestatic 180, 3) := by decide +kernel
theorem dX7_first_20 : decode cX7_first 20 = .ok (.ifCond .eq 13, 3) := by decide +kernel
theorem dX7_first_23 : decode cX7_first 23 = .ok (.aload_n 0, 1) := by decide +kernel
theorem dX7_first_24 : decode cX7_first 24 = .ok (.iload_n 1, 1) := by decide +kernel
theorem dX7_first_25 : decode cX7_first 25 = .ok (.iload_n 2, 1) := by decide +kernel
theorem dX7_first_26 : decode cX7_first 26 = .ok (.iload_n 3, 1) := by decide +kernel
theorem dX7_first_27 : decode cX7_first 27 = .ok (.invokevirtual 265, 3) := by decide +kernel
theorem dX7_first_30 : decode cX7_first 30 = .ok (.goto 5, 3) := by decide +kernel
theorem dX7_first_33 : decode cX7_first 33 = .ok (.bipush (-2), 2) := by decide +kernel
theorem dX7_first_35 : decode cX7_first 35 = .ok (.ireturn, 1) := by decide +kernel
theorem dX7_books_0 : decode cX7_books 0 = .ok (.aload_n 0, 1) := by decide +kernel
theorem dX7_books_1 : decode cX7_books 1 = .ok (.iload_n 1, 1) := by decide +kernel
theorem dX7_books_2 : decode cX7_books 2 = .ok (.invokevirtual 186, 3) := by decide +kernel
theorem dX7_books_5 : decode cX7_books 5 = .ok (.ifCond .ne 6, 3) := by decide +kernel
theorem dX7_books_8 : decode cX7_books 8 = .ok (.bipush (-2), 2) := by decide +kernel
theorem dX7_books_10 : decode cX7_books 10 = .ok (.ireturn, 1) := by decide +kernel
theorem dX7_books_11 : decode cX7_books 11 = .ok (.iload_n 2, 1) := by decide +kernel
theorem dX7_books_12 : decode cX7_books 12 = .ok (.iconst 0, 1) := by decide +kernel
theorem dX7_books_13 : decode cX7_books 13 = .ok (.iconst 1, 1) := by decide +kernel
theorem dX7_books_14 : decode cX7_books 14 = .ok (.invokestatic 61, 3) := by decide +kernel
theorem dX7_books_17 : decode cX7_books 17 = .ok (.ifCond .ne 6, 3) := by decide +kernel
theorem dX7_books_20 : decode cX7_books 20 = .ok (.bipush (-3), 2) := by decide +kernel
theorem dX7_books_22 : decode cX7_books 22 = .ok (.ireturn, 1) := by decide +kernel
theorem dX7_books_23 : decode cX7_books 23 = .ok (.aload_n 0, 1) := by decide +kernel
theorem dX7_books_24 : decode cX7_books 24 = .ok (.getfield 160, 3) := by decide +kernel
theorem dX7_books_27 : decode cX7_books 27 = .ok (.ifCond .ne 6, 3) := by decide +kernel
theorem dX7_books_30 : decode cX7_books 30 = .ok (.bipush (-4), 2) := by decide +kernel
theorem dX7_books_32 : decode cX7_books 32 = .ok (.ireturn, 1) := by decide +kernel
theorem dX7_books_33 : decode cX7_books 33 = .ok (.iconst 0, 1) := by decide +kernel
theorem dX7_books_34 : decode cX7_books 34 = .ok (.istore_n 3, 1) := by decide +kernel
theorem dX7_books_35 : decode cX7_books 35 = .ok (.iconst 0, 1) := by decide +kernel
theorem dX7_books_36 : decode cX7_books 36 = .ok (.istore 4, 2) := by decide +kernel
theorem dX7_books_38 : decode cX7_books 38 = .ok (.iload 4, 2) := by decide +kernel
theorem dX7_books_40 : decode cX7_books 40 = .ok (.bipush 24, 2) := by decide +kernel
theorem dX7_books_42 : decode cX7_books 42 = .ok (.if_icmp .ge 28, 3) := by decide +kernel
theorem dX7_books_45 : decode cX7_books 45 = .ok (.aload_n 0, 1) := by decide +kernel
theorem dX7_books_46 : decode cX7_books 46 = .ok (.iload_n 1, 1) := by decide +kernel
theorem dX7_books_47 : decode cX7_books 47 = .ok (.iload 4, 2) := by decide +kernel
theorem dX7_books_49 : decode cX7_books 49 = .ok (.invokevirtual 236, 3) := by decide +kernel
theorem dX7_books_52 : decode cX7_books 52 = .ok (.ifCond .eq 18, 3) := by decide +kernel
theorem dX7_books_55 : decode cX7_books 55 = .ok (.iload 4, 2) := by decide +kernel
theorem dX7_books_57 : decode cX7_books 57 = .ok (.aload_n 0, 1) := by decide +kernel
theorem dX7_books_58 : decode cX7_books 58 = .ok (.getfield 224, 3) := by decide +kernel
theorem dX7_books_61 : decode cX7_books 61 = .ok (.iadd, 1) := by decide +kernel
theorem dX7_books_62 : decode cX7_books 62 = .ok (.istore 4, 2) := by decide +kernel
theorem dX7_books_64 : decode cX7_books 64 = .ok (.iinc 3 1, 3) := by decide +kernel
theorem dX7_books_67 : decode cX7_books 67 = .ok (.goto (-29), 3) := by decide +kernel
theorem dX7_books_70 : decode cX7_books 70 = .ok (.iload_n 2, 1) := by decide +kernel
theorem dX7_books_71 : decode cX7_books 71 = .ok (.ifCond .ne 7, 3) := by decide +kernel
theorem dX7_books_74 : decode cX7_books 74 = .ok (.iload_n 3, 1) := by decide +kernel
theorem dX7_books_75 : decode cX7_books 75 = .ok (.goto 15, 3) := by decide +kernel
theorem dX7_books_78 : decode cX7_books 78 = .ok (.iload_n 3, 1) := by decide +kernel
theorem dX7_books_79 : decode cX7_books 79 = .ok (.aload_n 0, 1) := by decide +kernel
theorem dX7_books_80 : decode cX7_books 80 = .ok (.getfield 20, 3) := by decide +kernel
theorem dX7_books_83 : decode cX7_books 83 = .ok (.iconst 4, 1) := by decide +kernel
theorem dX7_books_84 : decode cX7_books 84 = .ok (.iload_n 1, 1) := by decide +kernel
theorem dX7_books_85 : decode cX7_books 85 = .ok (.imul, 1) := by decide +kernel
theorem dX7_books_86 : decode cX7_books 86 = .ok (.iconst 3, 1) := by decide +kernel
theorem dX7_books_87 : decode cX7_books 87 = .ok (.iadd, 1) := by decide +kernel
theorem dX7_books_88 : decode cX7_books 88 = .ok (.iaload, 1) := by decide +kernel
theorem dX7_books_89 : decode cX7_books 89 = .ok (.imul, 1) := by decide +kernel
theorem dX7_books_90 : decode cX7_books 90 = .ok (.ireturn, 1) := by decide +kernel
theorem dX7_count_0 : decode cX7_count 0 = .ok (.iconst 0, 1) := by decide +kernel
theorem dX7_count_1 : decode cX7_count 1 = .ok (.istore_n 2, 1) := by decide +kernel
theorem dX7_count_2 : decode cX7_count 2 = .ok (.iconst 0, 1) := by decide +kernel
theorem dX7_count_3 : decode cX7_count 3 = .ok (.istore_n 3, 1) := by decide +kernel
theorem dX7_count_4 : decode cX7_count 4 = .ok (.iload_n 3, 1) := by decide +kernel
theorem dX7_count_5 : decode cX7_count 5 = .ok (.aload_n 0, 1) := by decide +kernel
theorem dX7_count_6 : decode cX7_count 6 = .ok (.getfield 160, 3) := by decide +kernel
theorem dX7_count_9 : decode cX7_count 9 = .ok (.if_icmp .ge 22, 3) := by decide +kernel
theorem dX7_count_12 : decode cX7_count 12 = .ok (.iload_n 2, 1) := by decide +kernel
theorem dX7_count_13 : decode cX7_count 13 = .ok (.aload_n 0, 1) := by decide +kernel
theorem dX7_count_14 : decode cX7_count 14 = .ok (.getfield 7, 3) := by decide +kernel
theorem dX7_count_17 : decode cX7_count 17 = .ok (.iconst 3, 1) := by decide +kernel
theorem dX7_count_18 : decode cX7_count 18 = .ok (.iload_n 3, 1) := by decide +kernel
theorem dX7_count_19 : decode cX7_count 19 = .ok (.imul, 1) := by decide +kernel
theorem dX7_count_20 : decode cX7_count 20 = .ok (.iconst 1, 1) := by decide +kernel
theorem dX7_count_21 : decode cX7_count 21 = .ok (.iadd, 1) := by decide +kernel
theorem dX7_count_22 : decode cX7_count 22 = .ok (.iaload, 1) := by decide +kernel
theorem dX7_count_23 : decode cX7_count 23 = .ok (.iadd, 1) := by decide +kernel
theorem dX7_count_24 : decode cX7_count 24 = .ok (.istore_n 2, 1) := by decide +kernel
theorem dX7_count_25 : decode cX7_count 25 = .ok (.iinc 3 1, 3) := by decide +kernel
theorem dX7_count_28 : decode cX7_count 28 = .ok (.goto (-24), 3) := by decide +kernel
theorem dX7_count_31 : decode cX7_count 31 = .ok (.iload_n 1, 1) := by decide +kernel
theorem dX7_count_32 : decode cX7_count 32 = .ok (.tableswitch 70 0 5 #[40, 45, 50, 55, 63, 68], 40) := by decide +kernel
theorem dX7_count_72 : decode cX7_count 72 = .ok (.aload_n 0, 1) := by decide +kernel
theorem dX7_count_73 : decode cX7_count 73 = .ok (.getfield 160, 3) := by decide +kernel
theorem dX7_count_76 : decode cX7_count 76 = .ok (.ireturn, 1) := by decide +kernel
theorem dX7_count_77 : decode cX7_count 77 = .ok (.aload_n 0, 1) := by decide +kernel
theorem dX7_count_78 : decode cX7_count 78 = .ok (.getfield 65, 3) := by decide +kernel
theorem dX7_count_81 : decode cX7_count 81 = .ok (.ireturn, 1) := by decide +kernel
theorem dX7_count_82 : decode cX7_count 82 = .ok (.aload_n 0, 1) := by decide +kernel
theorem dX7_count_83 : decode cX7_count 83 = .ok (.getfield 16, 3) := by decide +kernel
theorem dX7_count_86 : decode cX7_count 86 = .ok (.ireturn, 1) := by decide +kernel
theorem dX7_count_87 : decode cX7_count 87 = .ok (.aload_n 0, 1) := by decide +kernel
theorem dX7_count_88 : decode cX7_count 88 = .ok (.getfield 29, 3) := by decide +kernel
theorem dX7_count_91 : decode cX7_count 91 = .ok (.bipush 20, 2) := by decide +kernel
theorem dX7_count_93 : decode cX7_count 93 = .ok (.iaload, 1) := by decide +kernel
theorem dX7_count_94 : decode cX7_count 94 = .ok (.ireturn, 1) := by decide +kernel
theorem dX7_count_95 : decode cX7_count 95 = .ok (.aload_n 0, 1) := by decide +kernel
theorem dX7_count_96 : decode cX7_count 96 = .ok (.getfield 72, 3) := by decide +kernel
theorem dX7_count_99 : decode cX7_count 99 = .ok (.ireturn, 1) := by decide +kernel
theorem dX7_count_100 : decode cX7_count 100 = .ok (.iload_n 2, 1) := by decide +kernel
theorem dX7_count_101 : decode cX7_count 101 = .ok (.ireturn, 1) := by decide +kernel
theorem dX7_count_102 : decode cX7_count 102 = .ok (.bipush (-3), 2) := by decide +kernel
theorem dX7_count_104 : decode cX7_count 104 = .ok (.ireturn, 1) := by decide +kernel
end
section
theorem dL_law_0 : decode cL_law 0 = .ok (.new 7, 3) := by decide +kernel
theorem dL_law_3 : decode cL_law 3 = .ok (.dup, 1) := by decide +kernel
theorem dL_law_4 : decode cL_law 4 = .ok (.invokespecial 9, 3) := by decide +kernel
theorem dL_law_7 : decode cL_law 7 = .ok (.astore_n 1, 1) := by decide +kernel
theorem dL_law_8 : decode cL_law 8 = .ok (.new 10, 3) := by decide +kernel
theorem dL_law_11 : decode cL_law 11 = .ok (.dup, 1) := by decide +kernel
theorem dL_law_12 : decode cL_law 12 = .ok (.invokespecial 12, 3) := by decide +kernel
theorem dL_law_15 : decode cL_law 15 = .ok (.astore_n 2, 1) := by decide +kernel
theorem dL_law_16 : decode cL_law 16 = .ok (.iconst 0, 1) := by decide +kernel
theorem dL_law_17 : decode cL_law 17 = .ok (.istore_n 3, 1) := by decide +kernel
theorem dL_law_18 : decode cL_law 18 = .ok (.iload_n 3, 1) := by decide +kernel
theorem dL_law_19 : decode cL_law 19 = .ok (.aload_n 0, 1) := by decide +kernel
theorem dL_law_20 : decode cL_law 20 = .ok (.arraylength, 1) := by decide +kernel
theorem dL_law_21 : decode cL_law 21 = .ok (.iconst 5, 1) := by decide +kernel
theorem dL_law_22 : decode cL_law 22 = .ok (.isub, 1) := by decide +kernel
theorem dL_law_23 : decode cL_law 23 = .ok (.if_icmp .gt 1020, 3) := by decide +kernel
theorem dL_law_26 : decode cL_law 26 = .ok (.aload_n 0, 1) := by decide +kernel
theorem dL_law_27 : decode cL_law 27 = .ok (.iload_n 3, 1) := by decide +kernel
theorem dL_law_28 : decode cL_law 28 = .ok (.iaload, 1) := by decide +kernel
theorem dL_law_29 : decode cL_law 29 = .ok (.bipush 31, 2) := by decide +kernel
theorem dL_law_31 : decode cL_law 31 = .ok (.iand, 1) := by decide +kernel
theorem dL_law_32 : decode cL_law 32 = .ok (.tableswitch 1005 0 24 #[116, 179, 192, 205, 218, 251, 294, 327, 360, 413, 446, 469, 502, 525, 548, 571, 614, 657, 711, 765, 819, 873, 906, 949, 982], 116) := by decide +kernel
theorem dL_law_148 : decode cL_law 148 = .ok (.aload_n 1, 1) := by decide +kernel
theorem dL_law_149 : decode cL_law 149 = .ok (.aload_n 0, 1) := by decide +kernel
theorem dL_law_150 : decode cL_law 150 = .ok (.iload_n 3, 1) := by decide +kernel
theorem dL_law_151 : decode cL_law 151 = .ok (.iconst 1, 1) := by decide +kernel
theorem dL_law_152 : decode cL_law 152 = .ok (.iadd, 1) := by decide +kernel
theorem dL_law_153 : decode cL_law 153 = .ok (.iaload, 1) := by decide +kernel
theorem dL_law_154 : decode cL_law 154 = .ok (.i2l, 1) := by decide +kernel
theorem dL_law_155 : decode cL_law 155 = .ok (.bipush 32, 2) := by decide +kernel
theorem dL_law_157 : decode cL_law 157 = .ok (.lshl, 1) := by decide +kernel
theorem dL_law_158 : decode cL_law 158 = .ok (.aload_n 0, 1) := by decide +kernel
theorem dL_law_159 : decode cL_law 159 = .ok (.iload_n 3, 1) := by decide +kernel
theorem dL_law_160 : decode cL_law 160 = .ok (.iconst 2, 1) := by decide +kernel
theorem dL_law_161 : decode cL_law 161 = .ok (.iadd, 1) := by decide +kernel
theorem dL_law_162 : decode cL_law 162 = .ok (.iaload, 1) := by decide +kernel
theorem dL_law_163 : decode cL_law 163 = .ok (.i2l, 1) := by decide +kernel
theorem dL_law_164 : decode cL_law 164 = .ok (.ldc2_w 13, 3) := by decide +kernel
theorem dL_law_167 : decode cL_law 167 = .ok (.land, 1) := by decide +kernel
theorem dL_law_168 : decode cL_law 168 = .ok (.lor, 1) := by decide +kernel
theorem dL_law_169 : decode cL_law 169 = .ok (.aload_n 0, 1) := by decide +kernel
theorem dL_law_170 : decode cL_law 170 = .ok (.iload_n 3, 1) := by decide +kernel
theorem dL_law_171 : decode cL_law 171 = .ok (.iconst 3, 1) := by decide +kernel
theorem dL_law_172 : decode cL_law 172 = .ok (.iadd, 1) := by decide +kernel
theorem dL_law_173 : decode cL_law 173 = .ok (.iaload, 1) := by decide +kernel
theorem dL_law_174 : decode cL_law 174 = .ok (.invokevirtual 15, 3) := by decide +kernel
theorem dL_law_177 : decode cL_law 177 = .ok (.aload_n 2, 1) := by decide +kernel
theorem dL_law_178 : decode cL_law 178 = .ok (.aload_n 0, 1) := by decide +kernel
theorem dL_law_179 : decode cL_law 179 = .ok (.iload_n 3, 1) := by decide +kernel
theorem dL_law_180 : decode cL_law 180 = .ok (.iconst 1, 1) := by decide +kernel
theorem dL_law_181 : decode cL_law 181 = .ok (.iadd, 1) := by decide +kernel
theorem dL_law_182 : decode cL_law 182 = .ok (.iaload, 1) := by decide +kernel
theorem dL_law_183 : decode cL_law 183 = .ok (.i2l, 1) := by decide +kernel
theorem dL_law_184 : decode cL_law 184 = .ok (.bipush 32, 2) := by decide +kernel
theorem dL_law_186 : decode cL_law 186 = .ok (.lshl, 1) := by decide +kernel
theorem dL_law_187 : decode cL_law 187 = .ok (.aload_n 0, 1) := by decide +kernel
theorem dL_law_188 : decode cL_law 188 = .ok (.iload_n 3, 1) := by decide +kernel
theorem dL_law_189 : decode cL_law 189 = .ok (.iconst 2, 1) := by decide +kernel
theorem dL_law_190 : decode cL_law 190 = .ok (.iadd, 1) := by decide +kernel
theorem dL_law_191 : decode cL_law 191 = .ok (.iaload, 1) := by decide +kernel
theorem dL_law_192 : decode cL_law 192 = .ok (.i2l, 1) := by decide +kernel
theorem dL_law_193 : decode cL_law 193 = .ok (.ldc2_w 13, 3) := by decide +kernel
theorem dL_law_196 : decode cL_law 196 = .ok (.land, 1) := by decide +kernel
theorem dL_law_197 : decode cL_law 197 = .ok (.lor, 1) := by decide +kernel
theorem dL_law_198 : decode cL_law 198 = .ok (.aload_n 0, 1) := by decide +kernel
theorem dL_law_199 : decode cL_law 199 = .ok (.iload_n 3, 1) := by decide +kernel
theorem dL_law_200 : decode cL_law 200 = .ok (.iconst 3, 1) := by decide +kernel
theorem dL_law_201 : decode cL_law 201 = .ok (.iadd, 1) := by decide +kernel
theorem dL_law_202 : decode cL_law 202 = .ok (.iaload, 1) := by decide +kernel
theorem dL_law_203 : decode cL_law 203 = .ok (.invokevirtual 19, 3) := by decide +kernel
theorem dL_law_206 : decode cL_law 206 = .ok (.if_icmp .eq 831, 3) := by decide +kernel
theorem dL_law_209 : decode cL_law 209 = .ok (.iconst 0, 1) := by decide +kernel
theorem dL_law_210 : decode cL_law 210 = .ok (.ireturn, 1) := by decide +kernel
theorem dL_law_211 : decode cL_law 211 = .ok (.aload_n 1, 1) := by decide +kernel
theorem dL_law_212 : decode cL_law 212 = .ok (.invokevirtual 20, 3) := by decide +kernel
theorem dL_law_215 : decode cL_law 215 = .ok (.aload_n 2, 1) := by decide +kernel
theorem dL_law_216 : decode cL_law 216 = .ok (.invokevirtual 24, 3) := by decide +kernel
theorem dL_law_219 : decode cL_law 219 = .ok (.if_icmp .eq 818, 3) := by decide +kernel
theorem dL_law_222 : decode cL_law 222 = .ok (.iconst 0, 1) := by decide +kernel
theorem dL_law_223 : decode cL_law 223 = .ok (.ireturn, 1) := by decide +kernel
theorem dL_law_224 : decode cL_law 224 = .ok (.aload_n 1, 1) := by decide +kernel
theorem dL_law_225 : decode cL_law 225 = .ok (.invokevirtual 25, 3) := by decide +kernel
theorem dL_law_228 : decode cL_law 228 = .ok (.aload_n 2, 1) := by decide +kernel
theorem dL_law_229 : decode cL_law 229 = .ok (.invokevirtual 28, 3) := by decide +kernel
theorem dL_law_232 : decode cL_law 232 = .ok (.if_icmp .eq 805, 3) := by decide +kernel
theorem dL_law_235 : decode cL_law 235 = .ok (.iconst 0, 1) := by decide +kernel
theorem dL_law_236 : decode cL_law 236 = .ok (.ireturn, 1) := by decide +kernel
theorem dL_law_237 : decode cL_law 237 = .ok (.aload_n 1, 1) := by decide +kernel
theorem dL_law_238 : decode cL_law 238 = .ok (.invokevirtual 29, 3) := by decide +kernel
theorem dL_law_241 : decode cL_law 241 = .ok (.aload_n 2, 1) := by decide +kernel
theorem dL_law_242 : decode cL_law 242 = .ok (.invokevirtual 32, 3) := by decide +kernel
theorem dL_law_245 : decode cL_law 245 = .ok (.if_icmp .eq 792, 3) := by decide +kernel
theorem dL_law_248 : decode cL_law 248 = .ok (.iconst 0, 1) := by decide +kernel
theorem dL_law_249 : decode cL_law 249 = .ok (.ireturn, 1) := by decide +kernel
theorem dL_law_250 : decode cL_law 250 = .ok (.aload_n 1, 1) := by decide +kernel
theorem dL_law_251 : decode cL_law 251 = .ok (.aload_n 0, 1) := by decide +kernel
theorem dL_law_252 : decode cL_law 252 = .ok (.iload_n 3, 1) := by decide +kernel
theorem dL_law_253 : decode cL_law 253 = .ok (.iconst 1, 1) := by decide +kernel
theorem dL_law_254 : decode cL_law 254 = .ok (.iadd, 1) := by decide +kernel
theorem dL_law_255 : decode cL_law 255 = .ok (.iaload, 1) := by decide +kernel
end
section
theorem dL_law_256 : decode cL_law 256 = .ok (.aload_n 0, 1) := by decide +kernel
theorem dL_law_257 : decode cL_law 257 = .ok (.iload_n 3, 1) := by decide +kernel
theorem dL_law_258 : decode cL_law 258 = .ok (.iconst 2, 1) := by decide +kernel
theorem dL_law_259 : decode cL_law 259 = .ok (.iadd, 1) := by decide +kernel
theorem dL_law_260 : decode cL_law 260 = .ok (.iaload, 1) := by decide +kernel
theorem dL_law_261 : decode cL_law 261 = .ok (.invokevirtual 33, 3) := by decide +kernel
theorem dL_law_264 : decode cL_law 264 = .ok (.aload_n 2, 1) := by decide +kernel
theorem dL_law_265 : decode cL_law 265 = .ok (.aload_n 0, 1) := by decide +kernel
theorem dL_law_266 : decode cL_law 266 = .ok (.iload_n 3, 1) := by decide +kernel
theorem dL_law_267 : decode cL_law 267 = .ok (.iconst 1, 1) := by decide +kernel
theorem dL_law_268 : decode cL_law 268 = .ok (.iadd, 1) := by decide +kernel
theorem dL_law_269 : decode cL_law 269 = .ok (.iaload, 1) := by decide +kernel
theorem dL_law_270 : decode cL_law 270 = .ok (.aload_n 0, 1) := by decide +kernel
theorem dL_law_271 : decode cL_law 271 = .ok (.iload_n 3, 1) := by decide +kernel
theorem dL_law_272 : decode cL_law 272 = .ok (.iconst 2, 1) := by decide +kernel
theorem dL_law_273 : decode cL_law 273 = .ok (.iadd, 1) := by decide +kernel
theorem dL_law_274 : decode cL_law 274 = .ok (.iaload, 1) := by decide +kernel
theorem dL_law_275 : decode cL_law 275 = .ok (.invokevirtual 37, 3) := by decide +kernel
theorem dL_law_278 : decode cL_law 278 = .ok (.if_icmp .eq 759, 3) := by decide +kernel
theorem dL_law_281 : decode cL_law 281 = .ok (.iconst 0, 1) := by decide +kernel
theorem dL_law_282 : decode cL_law 282 = .ok (.ireturn, 1) := by decide +kernel
theorem dL_law_283 : decode cL_law 283 = .ok (.aload_n 1, 1) := by decide +kernel
theorem dL_law_284 : decode cL_law 284 = .ok (.aload_n 0, 1) := by decide +kernel
theorem dL_law_285 : decode cL_law 285 = .ok (.iload_n 3, 1) := by decide +kernel
theorem dL_law_286 : decode cL_law 286 = .ok (.iconst 1, 1) := by decide +kernel
theorem dL_law_287 : decode cL_law 287 = .ok (.iadd, 1) := by decide +kernel
theorem dL_law_288 : decode cL_law 288 = .ok (.iaload, 1) := by decide +kernel
theorem dL_law_289 : decode cL_law 289 = .ok (.aload_n 0, 1) := by decide +kernel
theorem dL_law_290 : decode cL_law 290 = .ok (.iload_n 3, 1) := by decide +kernel
theorem dL_law_291 : decode cL_law 291 = .ok (.iconst 2, 1) := by decide +kernel
theorem dL_law_292 : decode cL_law 292 = .ok (.iadd, 1) := by decide +kernel
theorem dL_law_293 : decode cL_law 293 = .ok (.iaload, 1) := by decide +kernel
theorem dL_law_294 : decode cL_law 294 = .ok (.aload_n 0, 1) := by decide +kernel
theorem dL_law_295 : decode cL_law 295 = .ok (.iload_n 3, 1) := by decide +kernel
theorem dL_law_296 : decode cL_law 296 = .ok (.iconst 3, 1) := by decide +kernel
theorem dL_law_297 : decode cL_law 297 = .ok (.iadd, 1) := by decide +kernel
theorem dL_law_298 : decode cL_law 298 = .ok (.iaload, 1) := by decide +kernel
theorem dL_law_299 : decode cL_law 299 = .ok (.invokevirtual 38, 3) := by decide +kernel
theorem dL_law_302 : decode cL_law 302 = .ok (.aload_n 2, 1) := by decide +kernel
theorem dL_law_303 : decode cL_law 303 = .ok (.aload_n 0, 1) := by decide +kernel
theorem dL_law_304 : decode cL_law 304 = .ok (.iload_n 3, 1) := by decide +kernel
theorem dL_law_305 : decode cL_law 305 = .ok (.iconst 1, 1) := by decide +kernel
theorem dL_law_306 : decode cL_law 306 = .ok (.iadd, 1) := by decide +kernel
theorem dL_law_307 : decode cL_law 307 = .ok (.iaload, 1) := by decide +kernel
theorem dL_law_308 : decode cL_law 308 = .ok (.aload_n 0, 1) := by decide +kernel
theorem dL_law_309 : decode cL_law 309 = .ok (.iload_n 3, 1) := by decide +kernel
theorem dL_law_310 : decode cL_law 310 = .ok (.iconst 2, 1) := by decide +kernel
theorem dL_law_311 : decode cL_law 311 = .ok (.iadd, 1) := by decide +kernel
theorem dL_law_312 : decode cL_law 312 = .ok (.iaload, 1) := by decide +kernel
theorem dL_law_313 : decode cL_law 313 = .ok (.aload_n 0, 1) := by decide +kernel
theorem dL_law_314 : decode cL_law 314 = .ok (.iload_n 3, 1) := by decide +kernel
theorem dL_law_315 : decode cL_law 315 = .ok (.iconst 3, 1) := by decide +kernel
theorem dL_law_316 : decode cL_law 316 = .ok (.iadd, 1) := by decide +kernel
theorem dL_law_317 : decode cL_law 317 = .ok (.iaload, 1) := by decide +kernel
theorem dL_law_318 : decode cL_law 318 = .ok (.invokevirtual 42, 3) := by decide +kernel
theorem dL_law_321 : decode cL_law 321 = .ok (.if_icmp .eq 716, 3) := by decide +kernel
theorem dL_law_324 : decode cL_law 324 = .ok (.iconst 0, 1) := by decide +kernel
theorem dL_law_325 : decode cL_law 325 = .ok (.ireturn, 1) := by decide +kernel
theorem dL_law_326 : decode cL_law 326 = .ok (.aload_n 1, 1) := by decide +kernel
theorem dL_law_327 : decode cL_law 327 = .ok (.aload_n 0, 1) := by decide +kernel
theorem dL_law_328 : decode cL_law 328 = .ok (.iload_n 3, 1) := by decide +kernel
theorem dL_law_329 : decode cL_law 329 = .ok (.iconst 1, 1) := by decide +kernel
theorem dL_law_330 : decode cL_law 330 = .ok (.iadd, 1) := by decide +kernel
theorem dL_law_331 : decode cL_law 331 = .ok (.iaload, 1) := by decide +kernel
theorem dL_law_332 : decode cL_law 332 = .ok (.aload_n 0, 1) := by decide +kernel
theorem dL_law_333 : decode cL_law 333 = .ok (.iload_n 3, 1) := by decide +kernel
theorem dL_law_334 : decode cL_law 334 = .ok (.iconst 2, 1) := by decide +kernel
theorem dL_law_335 : decode cL_law 335 = .ok (.iadd, 1) := by decide +kernel
theorem dL_law_336 : decode cL_law 336 = .ok (.iaload, 1) := by decide +kernel
theorem dL_law_337 : decode cL_law 337 = .ok (.invokevirtual 43, 3) := by decide +kernel
theorem dL_law_340 : decode cL_law 340 = .ok (.aload_n 2, 1) := by decide +kernel
theorem dL_law_341 : decode cL_law 341 = .ok (.aload_n 0, 1) := by decide +kernel
theorem dL_law_342 : decode cL_law 342 = .ok (.iload_n 3, 1) := by decide +kernel
theorem dL_law_343 : decode cL_law 343 = .ok (.iconst 1, 1) := by decide +kernel
theorem dL_law_344 : decode cL_law 344 = .ok (.iadd, 1) := by decide +kernel
theorem dL_law_345 : decode cL_law 345 = .ok (.iaload, 1) := by decide +kernel
theorem dL_law_346 : decode cL_law 346 = .ok (.aload_n 0, 1) := by decide +kernel
theorem dL_law_347 : decode cL_law 347 = .ok (.iload_n 3, 1) := by decide +kernel
theorem dL_law_348 : decode cL_law 348 = .ok (.iconst 2, 1) := by decide +kernel
theorem dL_law_349 : decode cL_law 349 = .ok (.iadd, 1) := by decide +kernel
theorem dL_law_350 : decode cL_law 350 = .ok (.iaload, 1) := by decide +kernel
theorem dL_law_351 : decode cL_law 351 = .ok (.invokevirtual 46, 3) := by decide +kernel
theorem dL_law_354 : decode cL_law 354 = .ok (.if_icmp .eq 683, 3) := by decide +kernel
theorem dL_law_357 : decode cL_law 357 = .ok (.iconst 0, 1) := by decide +kernel
theorem dL_law_358 : decode cL_law 358 = .ok (.ireturn, 1) := by decide +kernel
theorem dL_law_359 : decode cL_law 359 = .ok (.aload_n 1, 1) := by decide +kernel
theorem dL_law_360 : decode cL_law 360 = .ok (.aload_n 0, 1) := by decide +kernel
theorem dL_law_361 : decode cL_law 361 = .ok (.iload_n 3, 1) := by decide +kernel
theorem dL_law_362 : decode cL_law 362 = .ok (.iconst 1, 1) := by decide +kernel
theorem dL_law_363 : decode cL_law 363 = .ok (.iadd, 1) := by decide +kernel
theorem dL_law_364 : decode cL_law 364 = .ok (.iaload, 1) := by decide +kernel
theorem dL_law_365 : decode cL_law 365 = .ok (.aload_n 0, 1) := by decide +kernel
theorem dL_law_366 : decode cL_law 366 = .ok (.iload_n 3, 1) := by decide +kernel
theorem dL_law_367 : decode cL_law 367 = .ok (.iconst 2, 1) := by decide +kernel
theorem dL_law_368 : decode cL_law 368 = .ok (.iadd, 1) := by decide +kernel
theorem dL_law_369 : decode cL_law 369 = .ok (.iaload, 1) := by decide +kernel
theorem dL_law_370 : decode cL_law 370 = .ok (.invokevirtual 47, 3) := by decide +kernel
theorem dL_law_373 : decode cL_law 373 = .ok (.aload_n 2, 1) := by decide +kernel
theorem dL_law_374 : decode cL_law 374 = .ok (.aload_n 0, 1) := by decide +kernel
theorem dL_law_375 : decode cL_law 375 = .ok (.iload_n 3, 1) := by decide +kernel
end
section
theorem dL_law_376 : decode cL_law 376 = .ok (.iconst 1, 1) := by decide +kernel
theorem dL_law_377 : decode cL_law 377 = .ok (.iadd, 1) := by decide +kernel
theorem dL_law_378 : decode cL_law 378 = .ok (.iaload, 1) := by decide +kernel
theorem dL_law_379 : decode cL_law 379 = .ok (.aload_n 0, 1) := by decide +kernel
theorem dL_law_380 : decode cL_law 380 = .ok (.iload_n 3, 1) := by decide +kernel
theorem dL_law_381 : decode cL_law 381 = .ok (.iconst 2, 1) := by decide +kernel
theorem dL_law_382 : decode cL_law 382 = .ok (.iadd, 1) := by decide +kernel
theorem dL_law_383 : decode cL_law 383 = .ok (.iaload, 1) := by decide +kernel
theorem dL_law_384 : decode cL_law 384 = .ok (.invokevirtual 50, 3) := by decide +kernel
theorem dL_law_387 : decode cL_law 387 = .ok (.if_icmp .eq 650, 3) := by decide +kernel
theorem dL_law_390 : decode cL_law 390 = .ok (.iconst 0, 1) := by decide +kernel
theorem dL_law_391 : decode cL_law 391 = .ok (.ireturn, 1) := by decide +kernel
theorem dL_law_392 : decode cL_law 392 = .ok (.aload_n 1, 1) := by decide +kernel
theorem dL_law_393 : decode cL_law 393 = .ok (.aload_n 0, 1) := by decide +kernel
theorem dL_law_394 : decode cL_law 394 = .ok (.iload_n 3, 1) := by decide +kernel
theorem dL_law_395 : decode cL_law 395 = .ok (.iconst 1, 1) := by decide +kernel
theorem dL_law_396 : decode cL_law 396 = .ok (.iadd, 1) := by decide +kernel
theorem dL_law_397 : decode cL_law 397 = .ok (.iaload, 1) := by decide +kernel
theorem dL_law_398 : decode cL_law 398 = .ok (.aload_n 0, 1) := by decide +kernel
theorem dL_law_399 : decode cL_law 399 = .ok (.iload_n 3, 1) := by decide +kernel
theorem dL_law_400 : decode cL_law 400 = .ok (.iconst 2, 1) := by decide +kernel
theorem dL_law_401 : decode cL_law 401 = .ok (.iadd, 1) := by decide +kernel
theorem dL_law_402 : decode cL_law 402 = .ok (.iaload, 1) := by decide +kernel
theorem dL_law_403 : decode cL_law 403 = .ok (.aload_n 0, 1) := by decide +kernel
theorem dL_law_404 : decode cL_law 404 = .ok (.iload_n 3, 1) := by decide +kernel
theorem dL_law_405 : decode cL_law 405 = .ok (.iconst 3, 1) := by decide +kernel
theorem dL_law_406 : decode cL_law 406 = .ok (.iadd, 1) := by decide +kernel
theorem dL_law_407 : decode cL_law 407 = .ok (.iaload, 1) := by decide +kernel
theorem dL_law_408 : decode cL_law 408 = .ok (.aload_n 0, 1) := by decide +kernel
theorem dL_law_409 : decode cL_law 409 = .ok (.iload_n 3, 1) := by decide +kernel
theorem dL_law_410 : decode cL_law 410 = .ok (.iconst 4, 1) := by decide +kernel
theorem dL_law_411 : decode cL_law 411 = .ok (.iadd, 1) := by decide +kernel
theorem dL_law_412 : decode cL_law 412 = .ok (.iaload, 1) := by decide +kernel
theorem dL_law_413 : decode cL_law 413 = .ok (.invokevirtual 51, 3) := by decide +kernel
theorem dL_law_416 : decode cL_law 416 = .ok (.aload_n 2, 1) := by decide +kernel
theorem dL_law_417 : decode cL_law 417 = .ok (.aload_n 0, 1) := by decide +kernel
theorem dL_law_418 : decode cL_law 418 = .ok (.iload_n 3, 1) := by decide +kernel
theorem dL_law_419 : decode cL_law 419 = .ok (.iconst 1, 1) := by decide +kernel
theorem dL_law_420 : decode cL_law 420 = .ok (.iadd, 1) := by decide +kernel
theorem dL_law_421 : decode cL_law 421 = .ok (.iaload, 1) := by decide +kernel
theorem dL_law_422 : decode cL_law 422 = .ok (.aload_n 0, 1) := by decide +kernel
theorem dL_law_423 : decode cL_law 423 = .ok (.iload_n 3, 1) := by decide +kernel
theorem dL_law_424 : decode cL_law 424 = .ok (.iconst 2, 1) := by decide +kernel
theorem dL_law_425 : decode cL_law 425 = .ok (.iadd, 1) := by decide +kernel
theorem dL_law_426 : decode cL_law 426 = .ok (.iaload, 1) := by decide +kernel
theorem dL_law_427 : decode cL_law 427 = .ok (.aload_n 0, 1) := by decide +kernel
theorem dL_law_428 : decode cL_law 428 = .ok (.iload_n 3, 1) := by decide +kernel
theorem dL_law_429 : decode cL_law 429 = .ok (.iconst 3, 1) := by decide +kernel
theorem dL_law_430 : decode cL_law 430 = .ok (.iadd, 1) := by decide +kernel
theorem dL_law_431 : decode cL_law 431 = .ok (.iaload, 1) := by decide +kernel
theorem dL_law_432 : decode cL_law 432 = .ok (.aload_n 0, 1) := by decide +kernel
theorem dL_law_433 : decode cL_law 433 = .ok (.iload_n 3, 1) := by decide +kernel
theorem dL_law_434 : decode cL_law 434 = .ok (.iconst 4, 1) := by decide +kernel
theorem dL_law_435 : decode cL_law 435 = .ok (.iadd, 1) := by decide +kernel
theorem dL_law_436 : decode cL_law 436 = .ok (.iaload, 1) := by decide +kernel
theorem dL_law_437 : decode cL_law 437 = .ok (.invokevirtual 55, 3) := by decide +kernel
theorem dL_law_440 : decode cL_law 440 = .ok (.if_icmp .eq 597, 3) := by decide +kernel
theorem dL_law_443 : decode cL_law 443 = .ok (.iconst 0, 1) := by decide +kernel
theorem dL_law_444 : decode cL_law 444 = .ok (.ireturn, 1) := by decide +kernel
theorem dL_law_445 : decode cL_law 445 = .ok (.aload_n 1, 1) := by decide +kernel
theorem dL_law_446 : decode cL_law 446 = .ok (.aload_n 0, 1) := by decide +kernel
theorem dL_law_447 : decode cL_law 447 = .ok (.iload_n 3, 1) := by decide +kernel
theorem dL_law_448 : decode cL_law 448 = .ok (.iconst 1, 1) := by decide +kernel
theorem dL_law_449 : decode cL_law 449 = .ok (.iadd, 1) := by decide +kernel
theorem dL_law_450 : decode cL_law 450 = .ok (.iaload, 1) := by decide +kernel
theorem dL_law_451 : decode cL_law 451 = .ok (.aload_n 0, 1) := by decide +kernel
theorem dL_law_452 : decode cL_law 452 = .ok (.iload_n 3, 1) := by decide +kernel
theorem dL_law_453 : decode cL_law 453 = .ok (.iconst 2, 1) := by decide +kernel
theorem dL_law_454 : decode cL_law 454 = .ok (.iadd, 1) := by decide +kernel
theorem dL_law_455 : decode cL_law 455 = .ok (.iaload, 1) := by decide +kernel
theorem dL_law_456 : decode cL_law 456 = .ok (.invokevirtual 56, 3) := by decide +kernel
theorem dL_law_459 : decode cL_law 459 = .ok (.aload_n 2, 1) := by decide +kernel
theorem dL_law_460 : decode cL_law 460 = .ok (.aload_n 0, 1) := by decide +kernel
theorem dL_law_461 : decode cL_law 461 = .ok (.iload_n 3, 1) := by decide +kernel
theorem dL_law_462 : decode cL_law 462 = .ok (.iconst 1, 1) := by decide +kernel
theorem dL_law_463 : decode cL_law 463 = .ok (.iadd, 1) := by decide +kernel
theorem dL_law_464 : decode cL_law 464 = .ok (.iaload, 1) := by decide +kernel
theorem dL_law_465 : decode cL_law 465 = .ok (.aload_n 0, 1) := by decide +kernel
theorem dL_law_466 : decode cL_law 466 = .ok (.iload_n 3, 1) := by decide +kernel
theorem dL_law_467 : decode cL_law 467 = .ok (.iconst 2, 1) := by decide +kernel
theorem dL_law_468 : decode cL_law 468 = .ok (.iadd, 1) := by decide +kernel
theorem dL_law_469 : decode cL_law 469 = .ok (.iaload, 1) := by decide +kernel
theorem dL_law_470 : decode cL_law 470 = .ok (.invokevirtual 59, 3) := by decide +kernel
theorem dL_law_473 : decode cL_law 473 = .ok (.if_icmp .eq 564, 3) := by decide +kernel
theorem dL_law_476 : decode cL_law 476 = .ok (.iconst 0, 1) := by decide +kernel
theorem dL_law_477 : decode cL_law 477 = .ok (.ireturn, 1) := by decide +kernel
theorem dL_law_478 : decode cL_law 478 = .ok (.aload_n 1, 1) := by decide +kernel
theorem dL_law_479 : decode cL_law 479 = .ok (.aload_n 0, 1) := by decide +kernel
theorem dL_law_480 : decode cL_law 480 = .ok (.iload_n 3, 1) := by decide +kernel
theorem dL_law_481 : decode cL_law 481 = .ok (.iconst 1, 1) := by decide +kernel
theorem dL_law_482 : decode cL_law 482 = .ok (.iadd, 1) := by decide +kernel
theorem dL_law_483 : decode cL_law 483 = .ok (.iaload, 1) := by decide +kernel
theorem dL_law_484 : decode cL_law 484 = .ok (.invokevirtual 60, 3) := by decide +kernel
theorem dL_law_487 : decode cL_law 487 = .ok (.aload_n 2, 1) := by decide +kernel
theorem dL_law_488 : decode cL_law 488 = .ok (.aload_n 0, 1) := by decide +kernel
theorem dL_law_489 : decode cL_law 489 = .ok (.iload_n 3, 1) := by decide +kernel
theorem dL_law_490 : decode cL_law 490 = .ok (.iconst 1, 1) := by decide +kernel
theorem dL_law_491 : decode cL_law 491 = .ok (.iadd, 1) := by decide +kernel
theorem dL_law_492 : decode cL_law 492 = .ok (.iaload, 1) := by decide +kernel
theorem dL_law_493 : decode cL_law 493 = .ok (.invokevirtual 64, 3) := by decide +kernel
end
section
theorem dL_law_496 : decode cL_law 496 = .ok (.if_icmp .eq 541, 3) := by decide +kernel
theorem dL_law_499 : decode cL_law 499 = .ok (.iconst 0, 1) := by decide +kernel
theorem dL_law_500 : decode cL_law 500 = .ok (.ireturn, 1) := by decide +kernel
theorem dL_law_501 : decode cL_law 501 = .ok (.aload_n 1, 1) := by decide +kernel
theorem dL_law_502 : decode cL_law 502 = .ok (.aload_n 0, 1) := by decide +kernel
theorem dL_law_503 : decode cL_law 503 = .ok (.iload_n 3, 1) := by decide +kernel
theorem dL_law_504 : decode cL_law 504 = .ok (.iconst 1, 1) := by decide +kernel
theorem dL_law_505 : decode cL_law 505 = .ok (.iadd, 1) := by decide +kernel
theorem dL_law_506 : decode cL_law 506 = .ok (.iaload, 1) := by decide +kernel
theorem dL_law_507 : decode cL_law 507 = .ok (.aload_n 0, 1) := by decide +kernel
theorem dL_law_508 : decode cL_law 508 = .ok (.iload_n 3, 1) := by decide +kernel
theorem dL_law_509 : decode cL_law 509 = .ok (.iconst 2, 1) := by decide +kernel
theorem dL_law_510 : decode cL_law 510 = .ok (.iadd, 1) := by decide +kernel
theorem dL_law_511 : decode cL_law 511 = .ok (.iaload, 1) := by decide +kernel
theorem dL_law_512 : decode cL_law 512 = .ok (.invokevirtual 65, 3) := by decide +kernel
theorem dL_law_515 : decode cL_law 515 = .ok (.aload_n 2, 1) := by decide +kernel
theorem dL_law_516 : decode cL_law 516 = .ok (.aload_n 0, 1) := by decide +kernel
theorem dL_law_517 : decode cL_law 517 = .ok (.iload_n 3, 1) := by decide +kernel
theorem dL_law_518 : decode cL_law 518 = .ok (.iconst 1, 1) := by decide +kernel
theorem dL_law_519 : decode cL_law 519 = .ok (.iadd, 1) := by decide +kernel
theorem dL_law_520 : decode cL_law 520 = .ok (.iaload, 1) := by decide +kernel
theorem dL_law_521 : decode cL_law 521 = .ok (.aload_n 0, 1) := by decide +kernel
theorem dL_law_522 : decode cL_law 522 = .ok (.iload_n 3, 1) := by decide +kernel
theorem dL_law_523 : decode cL_law 523 = .ok (.iconst 2, 1) := by decide +kernel
theorem dL_law_524 : decode cL_law 524 = .ok (.iadd, 1) := by decide +kernel
theorem dL_law_525 : decode cL_law 525 = .ok (.iaload, 1) := by decide +kernel
theorem dL_law_526 : decode cL_law 526 = .ok (.invokevirtual 68, 3) := by decide +kernel
theorem dL_law_529 : decode cL_law 529 = .ok (.if_icmp .eq 508, 3) := by decide +kernel
theorem dL_law_532 : decode cL_law 532 = .ok (.iconst 0, 1) := by decide +kernel
theorem dL_law_533 : decode cL_law 533 = .ok (.ireturn, 1) := by decide +kernel
theorem dL_law_534 : decode cL_law 534 = .ok (.aload_n 1, 1) := by decide +kernel
theorem dL_law_535 : decode cL_law 535 = .ok (.aload_n 0, 1) := by decide +kernel
theorem dL_law_536 : decode cL_law 536 = .ok (.iload_n 3, 1) := by decide +kernel
theorem dL_law_537 : decode cL_law 537 = .ok (.iconst 1, 1) := by decide +kernel
theorem dL_law_538 : decode cL_law 538 = .ok (.iadd, 1) := by decide +kernel
theorem dL_law_539 : decode cL_law 539 = .ok (.iaload, 1) := by decide +kernel
theorem dL_law_540 : decode cL_law 540 = .ok (.invokevirtual 69, 3) := by decide +kernel
theorem dL_law_543 : decode cL_law 543 = .ok (.aload_n 2, 1) := by decide +kernel
theorem dL_law_544 : decode cL_law 544 = .ok (.aload_n 0, 1) := by decide +kernel
theorem dL_law_545 : decode cL_law 545 = .ok (.iload_n 3, 1) := by decide +kernel
theorem dL_law_546 : decode cL_law 546 = .ok (.iconst 1, 1) := by decide +kernel
theorem dL_law_547 : decode cL_law 547 = .ok (.iadd, 1) := by decide +kernel
theorem dL_law_548 : decode cL_law 548 = .ok (.iaload, 1) := by decide +kernel
theorem dL_law_549 : decode cL_law 549 = .ok (.invokevirtual 72, 3) := by decide +kernel
theorem dL_law_552 : decode cL_law 552 = .ok (.if_icmp .eq 485, 3) := by decide +kernel
theorem dL_law_555 : decode cL_law 555 = .ok (.iconst 0, 1) := by decide +kernel
theorem dL_law_556 : decode cL_law 556 = .ok (.ireturn, 1) := by decide +kernel
theorem dL_law_557 : decode cL_law 557 = .ok (.aload_n 1, 1) := by decide +kernel
theorem dL_law_558 : decode cL_law 558 = .ok (.aload_n 0, 1) := by decide +kernel
theorem dL_law_559 : decode cL_law 559 = .ok (.iload_n 3, 1) := by decide +kernel
theorem dL_law_560 : decode cL_law 560 = .ok (.iconst 1, 1) := by decide +kernel
theorem dL_law_561 : decode cL_law 561 = .ok (.iadd, 1) := by decide +kernel
theorem dL_law_562 : decode cL_law 562 = .ok (.iaload, 1) := by decide +kernel
theorem dL_law_563 : decode cL_law 563 = .ok (.invokevirtual 73, 3) := by decide +kernel
theorem dL_law_566 : decode cL_law 566 = .ok (.aload_n 2, 1) := by decide +kernel
theorem dL_law_567 : decode cL_law 567 = .ok (.aload_n 0, 1) := by decide +kernel
theorem dL_law_568 : decode cL_law 568 = .ok (.iload_n 3, 1) := by decide +kernel
theorem dL_law_569 : decode cL_law 569 = .ok (.iconst 1, 1) := by decide +kernel
theorem dL_law_570 : decode cL_law 570 = .ok (.iadd, 1) := by decide +kernel
theorem dL_law_571 : decode cL_law 571 = .ok (.iaload, 1) := by decide +kernel
theorem dL_law_572 : decode cL_law 572 = .ok (.invokevirtual 76, 3) := by decide +kernel
theorem dL_law_575 : decode cL_law 575 = .ok (.if_icmp .eq 462, 3) := by decide +kernel
theorem dL_law_578 : decode cL_law 578 = .ok (.iconst 0, 1) := by decide +kernel
theorem dL_law_579 : decode cL_law 579 = .ok (.ireturn, 1) := by decide +kernel
theorem dL_law_580 : decode cL_law 580 = .ok (.aload_n 1, 1) := by decide +kernel
theorem dL_law_581 : decode cL_law 581 = .ok (.aload_n 0, 1) := by decide +kernel
theorem dL_law_582 : decode cL_law 582 = .ok (.iload_n 3, 1) := by decide +kernel
theorem dL_law_583 : decode cL_law 583 = .ok (.iconst 1, 1) := by decide +kernel
theorem dL_law_584 : decode cL_law 584 = .ok (.iadd, 1) := by decide +kernel
theorem dL_law_585 : decode cL_law 585 = .ok (.iaload, 1) := by decide +kernel
theorem dL_law_586 : decode cL_law 586 = .ok (.invokevirtual 77, 3) := by decide +kernel
theorem dL_law_589 : decode cL_law 589 = .ok (.aload_n 2, 1) := by decide +kernel
theorem dL_law_590 : decode cL_law 590 = .ok (.aload_n 0, 1) := by decide +kernel
theorem dL_law_591 : decode cL_law 591 = .ok (.iload_n 3, 1) := by decide +kernel
theorem dL_law_592 : decode cL_law 592 = .ok (.iconst 1, 1) := by decide +kernel
theorem dL_law_593 : decode cL_law 593 = .ok (.iadd, 1) := by decide +kernel
theorem dL_law_594 : decode cL_law 594 = .ok (.iaload, 1) := by decide +kernel
theorem dL_law_595 : decode cL_law 595 = .ok (.invokevirtual 80, 3) := by decide +kernel
theorem dL_law_598 : decode cL_law 598 = .ok (.if_icmp .eq 439, 3) := by decide +kernel
theorem dL_law_601 : decode cL_law 601 = .ok (.iconst 0, 1) := by decide +kernel
theorem dL_law_602 : decode cL_law 602 = .ok (.ireturn, 1) := by decide +kernel
theorem dL_law_603 : decode cL_law 603 = .ok (.aload_n 1, 1) := by decide +kernel
theorem dL_law_604 : decode cL_law 604 = .ok (.aload_n 0, 1) := by decide +kernel
theorem dL_law_605 : decode cL_law 605 = .ok (.iload_n 3, 1) := by decide +kernel
theorem dL_law_606 : decode cL_law 606 = .ok (.iconst 1, 1) := by decide +kernel
theorem dL_law_607 : decode cL_law 607 = .ok (.iadd, 1) := by decide +kernel
theorem dL_law_608 : decode cL_law 608 = .ok (.iaload, 1) := by decide +kernel
theorem dL_law_609 : decode cL_law 609 = .ok (.aload_n 0, 1) := by decide +kernel
theorem dL_law_610 : decode cL_law 610 = .ok (.iload_n 3, 1) := by decide +kernel
theorem dL_law_611 : decode cL_law 611 = .ok (.iconst 2, 1) := by decide +kernel
theorem dL_law_612 : decode cL_law 612 = .ok (.iadd, 1) := by decide +kernel
theorem dL_law_613 : decode cL_law 613 = .ok (.iaload, 1) := by decide +kernel
theorem dL_law_614 : decode cL_law 614 = .ok (.aload_n 0, 1) := by decide +kernel
theorem dL_law_615 : decode cL_law 615 = .ok (.iload_n 3, 1) := by decide +kernel
theorem dL_law_616 : decode cL_law 616 = .ok (.iconst 3, 1) := by decide +kernel
theorem dL_law_617 : decode cL_law 617 = .ok (.iadd, 1) := by decide +kernel
theorem dL_law_618 : decode cL_law 618 = .ok (.iaload, 1) := by decide +kernel
theorem dL_law_619 : decode cL_law 619 = .ok (.invokevirtual 81, 3) := by decide +kernel
theorem dL_law_622 : decode cL_law 622 = .ok (.aload_n 2, 1) := by decide +kernel
theorem dL_law_623 : decode cL_law 623 = .ok (.aload_n 0, 1) := by decide +kernel
end
section
theorem dL_law_624 : decode cL_law 624 = .ok (.iload_n 3, 1) := by decide +kernel
theorem dL_law_625 : decode cL_law 625 = .ok (.iconst 1, 1) := by decide +kernel
theorem dL_law_626 : decode cL_law 626 = .ok (.iadd, 1) := by decide +kernel
theorem dL_law_627 : decode cL_law 627 = .ok (.iaload, 1) := by decide +kernel
theorem dL_law_628 : decode cL_law 628 = .ok (.aload_n 0, 1) := by decide +kernel
theorem dL_law_629 : decode cL_law 629 = .ok (.iload_n 3, 1) := by decide +kernel
theorem dL_law_630 : decode cL_law 630 = .ok (.iconst 2, 1) := by decide +kernel
theorem dL_law_631 : decode cL_law 631 = .ok (.iadd, 1) := by decide +kernel
theorem dL_law_632 : decode cL_law 632 = .ok (.iaload, 1) := by decide +kernel
theorem dL_law_633 : decode cL_law 633 = .ok (.aload_n 0, 1) := by decide +kernel
theorem dL_law_634 : decode cL_law 634 = .ok (.iload_n 3, 1) := by decide +kernel
theorem dL_law_635 : decode cL_law 635 = .ok (.iconst 3, 1) := by decide +kernel
theorem dL_law_636 : decode cL_law 636 = .ok (.iadd, 1) := by decide +kernel
theorem dL_law_637 : decode cL_law 637 = .ok (.iaload, 1) := by decide +kernel
theorem dL_law_638 : decode cL_law 638 = .ok (.invokevirtual 84, 3) := by decide +kernel
theorem dL_law_641 : decode cL_law 641 = .ok (.if_icmp .eq 396, 3) := by decide +kernel
theorem dL_law_644 : decode cL_law 644 = .ok (.iconst 0, 1) := by decide +kernel
theorem dL_law_645 : decode cL_law 645 = .ok (.ireturn, 1) := by decide +kernel
theorem dL_law_646 : decode cL_law 646 = .ok (.aload_n 1, 1) := by decide +kernel
theorem dL_law_647 : decode cL_law 647 = .ok (.aload_n 0, 1) := by decide +kernel
theorem dL_law_648 : decode cL_law 648 = .ok (.iload_n 3, 1) := by decide +kernel
theorem dL_law_649 : decode cL_law 649 = .ok (.iconst 1, 1) := by decide +kernel
theorem dL_law_650 : decode cL_law 650 = .ok (.iadd, 1) := by decide +kernel
theorem dL_law_651 : decode cL_law 651 = .ok (.iaload, 1) := by decide +kernel
theorem dL_law_652 : decode cL_law 652 = .ok (.aload_n 0, 1) := by decide +kernel
theorem dL_law_653 : decode cL_law 653 = .ok (.iload_n 3, 1) := by decide +kernel
theorem dL_law_654 : decode cL_law 654 = .ok (.iconst 2, 1) := by decide +kernel
theorem dL_law_655 : decode cL_law 655 = .ok (.iadd, 1) := by decide +kernel
theorem dL_law_656 : decode cL_law 656 = .ok (.iaload, 1) := by decide +kernel
theorem dL_law_657 : decode cL_law 657 = .ok (.aload_n 0, 1) := by decide +kernel
theorem dL_law_658 : decode cL_law 658 = .ok (.iload_n 3, 1) := by decide +kernel
theorem dL_law_659 : decode cL_law 659 = .ok (.iconst 3, 1) := by decide +kernel
theorem dL_law_660 : decode cL_law 660 = .ok (.iadd, 1) := by decide +kernel
theorem dL_law_661 : decode cL_law 661 = .ok (.iaload, 1) := by decide +kernel
theorem dL_law_662 : decode cL_law 662 = .ok (.invokevirtual 85, 3) := by decide +kernel
theorem dL_law_665 : decode cL_law 665 = .ok (.aload_n 2, 1) := by decide +kernel
theorem dL_law_666 : decode cL_law 666 = .ok (.aload_n 0, 1) := by decide +kernel
theorem dL_law_667 : decode cL_law 667 = .ok (.iload_n 3, 1) := by decide +kernel
theorem dL_law_668 : decode cL_law 668 = .ok (.iconst 1, 1) := by decide +kernel
theorem dL_law_669 : decode cL_law 669 = .ok (.iadd, 1) := by decide +kernel
theorem dL_law_670 : decode cL_law 670 = .ok (.iaload, 1) := by decide +kernel
theorem dL_law_671 : decode cL_law 671 = .ok (.aload_n 0, 1) := by decide +kernel
theorem dL_law_672 : decode cL_law 672 = .ok (.iload_n 3, 1) := by decide +kernel
theorem dL_law_673 : decode cL_law 673 = .ok (.iconst 2, 1) := by decide +kernel
theorem dL_law_674 : decode cL_law 674 = .ok (.iadd, 1) := by decide +kernel
theorem dL_law_675 : decode cL_law 675 = .ok (.iaload, 1) := by decide +kernel
theorem dL_law_676 : decode cL_law 676 = .ok (.aload_n 0, 1) := by decide +kernel
theorem dL_law_677 : decode cL_law 677 = .ok (.iload_n 3, 1) := by decide +kernel
theorem dL_law_678 : decode cL_law 678 = .ok (.iconst 3, 1) := by decide +kernel
theorem dL_law_679 : decode cL_law 679 = .ok (.iadd, 1) := by decide +kernel
theorem dL_law_680 : decode cL_law 680 = .ok (.iaload, 1) := by decide +kernel
theorem dL_law_681 : decode cL_law 681 = .ok (.invokevirtual 88, 3) := by decide +kernel
theorem dL_law_684 : decode cL_law 684 = .ok (.if_icmp .eq 353, 3) := by decide +kernel
theorem dL_law_687 : decode cL_law 687 = .ok (.iconst 0, 1) := by decide +kernel
theorem dL_law_688 : decode cL_law 688 = .ok (.ireturn, 1) := by decide +kernel
theorem dL_law_689 : decode cL_law 689 = .ok (.aload_n 1, 1) := by decide +kernel
theorem dL_law_690 : decode cL_law 690 = .ok (.aload_n 0, 1) := by decide +kernel
theorem dL_law_691 : decode cL_law 691 = .ok (.iload_n 3, 1) := by decide +kernel
theorem dL_law_692 : decode cL_law 692 = .ok (.iconst 1, 1) := by decide +kernel
theorem dL_law_693 : decode cL_law 693 = .ok (.iadd, 1) := by decide +kernel
theorem dL_law_694 : decode cL_law 694 = .ok (.iaload, 1) := by decide +kernel
theorem dL_law_695 : decode cL_law 695 = .ok (.aload_n 0, 1) := by decide +kernel
theorem dL_law_696 : decode cL_law 696 = .ok (.iload_n 3, 1) := by decide +kernel
theorem dL_law_697 : decode cL_law 697 = .ok (.iconst 2, 1) := by decide +kernel
theorem dL_law_698 : decode cL_law 698 = .ok (.iadd, 1) := by decide +kernel
theorem dL_law_699 : decode cL_law 699 = .ok (.iaload, 1) := by decide +kernel
theorem dL_law_700 : decode cL_law 700 = .ok (.aload_n 0, 1) := by decide +kernel
theorem dL_law_701 : decode cL_law 701 = .ok (.iload_n 3, 1) := by decide +kernel
theorem dL_law_702 : decode cL_law 702 = .ok (.iconst 3, 1) := by decide +kernel
theorem dL_law_703 : decode cL_law 703 = .ok (.iadd, 1) := by decide +kernel
theorem dL_law_704 : decode cL_law 704 = .ok (.iaload, 1) := by decide +kernel
theorem dL_law_705 : decode cL_law 705 = .ok (.aload_n 0, 1) := by decide +kernel
theorem dL_law_706 : decode cL_law 706 = .ok (.iload_n 3, 1) := by decide +kernel
theorem dL_law_707 : decode cL_law 707 = .ok (.iconst 4, 1) := by decide +kernel
theorem dL_law_708 : decode cL_law 708 = .ok (.iadd, 1) := by decide +kernel
theorem dL_law_709 : decode cL_law 709 = .ok (.iaload, 1) := by decide +kernel
theorem dL_law_710 : decode cL_law 710 = .ok (.invokevirtual 89, 3) := by decide +kernel
theorem dL_law_713 : decode cL_law 713 = .ok (.aload_n 2, 1) := by decide +kernel
theorem dL_law_714 : decode cL_law 714 = .ok (.aload_n 0, 1) := by decide +kernel
theorem dL_law_715 : decode cL_law 715 = .ok (.iload_n 3, 1) := by decide +kernel
theorem dL_law_716 : decode cL_law 716 = .ok (.iconst 1, 1) := by decide +kernel
theorem dL_law_717 : decode cL_law 717 = .ok (.iadd, 1) := by decide +kernel
theorem dL_law_718 : decode cL_law 718 = .ok (.iaload, 1) := by decide +kernel
theorem dL_law_719 : decode cL_law 719 = .ok (.aload_n 0, 1) := by decide +kernel
theorem dL_law_720 : decode cL_law 720 = .ok (.iload_n 3, 1) := by decide +kernel
theorem dL_law_721 : decode cL_law 721 = .ok (.iconst 2, 1) := by decide +kernel
theorem dL_law_722 : decode cL_law 722 = .ok (.iadd, 1) := by decide +kernel
theorem dL_law_723 : decode cL_law 723 = .ok (.iaload, 1) := by decide +kernel
theorem dL_law_724 : decode cL_law 724 = .ok (.aload_n 0, 1) := by decide +kernel
theorem dL_law_725 : decode cL_law 725 = .ok (.iload_n 3, 1) := by decide +kernel
theorem dL_law_726 : decode cL_law 726 = .ok (.iconst 3, 1) := by decide +kernel
theorem dL_law_727 : decode cL_law 727 = .ok (.iadd, 1) := by decide +kernel
theorem dL_law_728 : decode cL_law 728 = .ok (.iaload, 1) := by decide +kernel
theorem dL_law_729 : decode cL_law 729 = .ok (.aload_n 0, 1) := by decide +kernel
theorem dL_law_730 : decode cL_law 730 = .ok (.iload_n 3, 1) := by decide +kernel
theorem dL_law_731 : decode cL_law 731 = .ok (.iconst 4, 1) := by decide +kernel
theorem dL_law_732 : decode cL_law 732 = .ok (.iadd, 1) := by decide +kernel
theorem dL_law_733 : decode cL_law 733 = .ok (.iaload, 1) := by decide +kernel
theorem dL_law_734 : decode cL_law 734 = .ok (.invokevirtual 93, 3) := by decide +kernel
theorem dL_law_737 : decode cL_law 737 = .ok (.lcmp, 1) := by decide +kernel
end
section
theorem dL_law_738 : decode cL_law 738 = .ok (.ifCond .eq 299, 3) := by decide +kernel
theorem dL_law_741 : decode cL_law 741 = .ok (.iconst 0, 1) := by decide +kernel
theorem dL_law_742 : decode cL_law 742 = .ok (.ireturn, 1) := by decide +kernel
theorem dL_law_743 : decode cL_law 743 = .ok (.aload_n 1, 1) := by decide +kernel
theorem dL_law_744 : decode cL_law 744 = .ok (.aload_n 0, 1) := by decide +kernel
theorem dL_law_745 : decode cL_law 745 = .ok (.iload_n 3, 1) := by decide +kernel
theorem dL_law_746 : decode cL_law 746 = .ok (.iconst 1, 1) := by decide +kernel
theorem dL_law_747 : decode cL_law 747 = .ok (.iadd, 1) := by decide +kernel
theorem dL_law_748 : decode cL_law 748 = .ok (.iaload, 1) := by decide +kernel
theorem dL_law_749 : decode cL_law 749 = .ok (.aload_n 0, 1) := by decide +kernel
theorem dL_law_750 : decode cL_law 750 = .ok (.iload_n 3, 1) := by decide +kernel
theorem dL_law_751 : decode cL_law 751 = .ok (.iconst 2, 1) := by decide +kernel
theorem dL_law_752 : decode cL_law 752 = .ok (.iadd, 1) := by decide +kernel
theorem dL_law_753 : decode cL_law 753 = .ok (.iaload, 1) := by decide +kernel
theorem dL_law_754 : decode cL_law 754 = .ok (.aload_n 0, 1) := by decide +kernel
theorem dL_law_755 : decode cL_law 755 = .ok (.iload_n 3, 1) := by decide +kernel
theorem dL_law_756 : decode cL_law 756 = .ok (.iconst 3, 1) := by decide +kernel
theorem dL_law_757 : decode cL_law 757 = .ok (.iadd, 1) := by decide +kernel
theorem dL_law_758 : decode cL_law 758 = .ok (.iaload, 1) := by decide +kernel
theorem dL_law_759 : decode cL_law 759 = .ok (.aload_n 0, 1) := by decide +kernel
theorem dL_law_760 : decode cL_law 760 = .ok (.iload_n 3, 1) := by decide +kernel
theorem dL_law_761 : decode cL_law 761 = .ok (.iconst 4, 1) := by decide +kernel
theorem dL_law_762 : decode cL_law 762 = .ok (.iadd, 1) := by decide +kernel
theorem dL_law_763 : decode cL_law 763 = .ok (.iaload, 1) := by decide +kernel
theorem dL_law_764 : decode cL_law 764 = .ok (.invokevirtual 94, 3) := by decide +kernel
theorem dL_law_767 : decode cL_law 767 = .ok (.aload_n 2, 1) := by decide +kernel
theorem dL_law_768 : decode cL_law 768 = .ok (.aload_n 0, 1) := by decide +kernel
theorem dL_law_769 : decode cL_law 769 = .ok (.iload_n 3, 1) := by decide +kernel
theorem dL_law_770 : decode cL_law 770 = .ok (.iconst 1, 1) := by decide +kernel
theorem dL_law_771 : decode cL_law 771 = .ok (.iadd, 1) := by decide +kernel
theorem dL_law_772 : decode cL_law 772 = .ok (.iaload, 1) := by decide +kernel
theorem dL_law_773 : decode cL_law 773 = .ok (.aload_n 0, 1) := by decide +kernel
theorem dL_law_774 : decode cL_law 774 = .ok (.iload_n 3, 1) := by decide +kernel
theorem dL_law_775 : decode cL_law 775 = .ok (.iconst 2, 1) := by decide +kernel
theorem dL_law_776 : decode cL_law 776 = .ok (.iadd, 1) := by decide +kernel
theorem dL_law_777 : decode cL_law 777 = .ok (.iaload, 1) := by decide +kernel
theorem dL_law_778 : decode cL_law 778 = .ok (.aload_n 0, 1) := by decide +kernel
theorem dL_law_779 : decode cL_law 779 = .ok (.iload_n 3, 1) := by decide +kernel
theorem dL_law_780 : decode cL_law 780 = .ok (.iconst 3, 1) := by decide +kernel
theorem dL_law_781 : decode cL_law 781 = .ok (.iadd, 1) := by decide +kernel
theorem dL_law_782 : decode cL_law 782 = .ok (.iaload, 1) := by decide +kernel
theorem dL_law_783 : decode cL_law 783 = .ok (.aload_n 0, 1) := by decide +kernel
theorem dL_law_784 : decode cL_law 784 = .ok (.iload_n 3, 1) := by decide +kernel
theorem dL_law_785 : decode cL_law 785 = .ok (.iconst 4, 1) := by decide +kernel
theorem dL_law_786 : decode cL_law 786 = .ok (.iadd, 1) := by decide +kernel
theorem dL_law_787 : decode cL_law 787 = .ok (.iaload, 1) := by decide +kernel
theorem dL_law_788 : decode cL_law 788 = .ok (.invokevirtual 97, 3) := by decide +kernel
theorem dL_law_791 : decode cL_law 791 = .ok (.lcmp, 1) := by decide +kernel
theorem dL_law_792 : decode cL_law 792 = .ok (.ifCond .eq 245, 3) := by decide +kernel
theorem dL_law_795 : decode cL_law 795 = .ok (.iconst 0, 1) := by decide +kernel
theorem dL_law_796 : decode cL_law 796 = .ok (.ireturn, 1) := by decide +kernel
theorem dL_law_797 : decode cL_law 797 = .ok (.aload_n 1, 1) := by decide +kernel
theorem dL_law_798 : decode cL_law 798 = .ok (.aload_n 0, 1) := by decide +kernel
theorem dL_law_799 : decode cL_law 799 = .ok (.iload_n 3, 1) := by decide +kernel
theorem dL_law_800 : decode cL_law 800 = .ok (.iconst 1, 1) := by decide +kernel
theorem dL_law_801 : decode cL_law 801 = .ok (.iadd, 1) := by decide +kernel
theorem dL_law_802 : decode cL_law 802 = .ok (.iaload, 1) := by decide +kernel
theorem dL_law_803 : decode cL_law 803 = .ok (.aload_n 0, 1) := by decide +kernel
theorem dL_law_804 : decode cL_law 804 = .ok (.iload_n 3, 1) := by decide +kernel
theorem dL_law_805 : decode cL_law 805 = .ok (.iconst 2, 1) := by decide +kernel
theorem dL_law_806 : decode cL_law 806 = .ok (.iadd, 1) := by decide +kernel
theorem dL_law_807 : decode cL_law 807 = .ok (.iaload, 1) := by decide +kernel
theorem dL_law_808 : decode cL_law 808 = .ok (.aload_n 0, 1) := by decide +kernel
theorem dL_law_809 : decode cL_law 809 = .ok (.iload_n 3, 1) := by decide +kernel
theorem dL_law_810 : decode cL_law 810 = .ok (.iconst 3, 1) := by decide +kernel
theorem dL_law_811 : decode cL_law 811 = .ok (.iadd, 1) := by decide +kernel
theorem dL_law_812 : decode cL_law 812 = .ok (.iaload, 1) := by decide +kernel
theorem dL_law_813 : decode cL_law 813 = .ok (.aload_n 0, 1) := by decide +kernel
theorem dL_law_814 : decode cL_law 814 = .ok (.iload_n 3, 1) := by decide +kernel
theorem dL_law_815 : decode cL_law 815 = .ok (.iconst 4, 1) := by decide +kernel
theorem dL_law_816 : decode cL_law 816 = .ok (.iadd, 1) := by decide +kernel
theorem dL_law_817 : decode cL_law 817 = .ok (.iaload, 1) := by decide +kernel
theorem dL_law_818 : decode cL_law 818 = .ok (.invokevirtual 98, 3) := by decide +kernel
theorem dL_law_821 : decode cL_law 821 = .ok (.aload_n 2, 1) := by decide +kernel
theorem dL_law_822 : decode cL_law 822 = .ok (.aload_n 0, 1) := by decide +kernel
theorem dL_law_823 : decode cL_law 823 = .ok (.iload_n 3, 1) := by decide +kernel
theorem dL_law_824 : decode cL_law 824 = .ok (.iconst 1, 1) := by decide +kernel
theorem dL_law_825 : decode cL_law 825 = .ok (.iadd, 1) := by decide +kernel
theorem dL_law_826 : decode cL_law 826 = .ok (.iaload, 1) := by decide +kernel
theorem dL_law_827 : decode cL_law 827 = .ok (.aload_n 0, 1) := by decide +kernel
theorem dL_law_828 : decode cL_law 828 = .ok (.iload_n 3, 1) := by decide +kernel
theorem dL_law_829 : decode cL_law 829 = .ok (.iconst 2, 1) := by decide +kernel
theorem dL_law_830 : decode cL_law 830 = .ok (.iadd, 1) := by decide +kernel
theorem dL_law_831 : decode cL_law 831 = .ok (.iaload, 1) := by decide +kernel
theorem dL_law_832 : decode cL_law 832 = .ok (.aload_n 0, 1) := by decide +kernel
theorem dL_law_833 : decode cL_law 833 = .ok (.iload_n 3, 1) := by decide +kernel
theorem dL_law_834 : decode cL_law 834 = .ok (.iconst 3, 1) := by decide +kernel
theorem dL_law_835 : decode cL_law 835 = .ok (.iadd, 1) := by decide +kernel
theorem dL_law_836 : decode cL_law 836 = .ok (.iaload, 1) := by decide +kernel
theorem dL_law_837 : decode cL_law 837 = .ok (.aload_n 0, 1) := by decide +kernel
theorem dL_law_838 : decode cL_law 838 = .ok (.iload_n 3, 1) := by decide +kernel
theorem dL_law_839 : decode cL_law 839 = .ok (.iconst 4, 1) := by decide +kernel
theorem dL_law_840 : decode cL_law 840 = .ok (.iadd, 1) := by decide +kernel
theorem dL_law_841 : decode cL_law 841 = .ok (.iaload, 1) := by decide +kernel
theorem dL_law_842 : decode cL_law 842 = .ok (.invokevirtual 101, 3) := by decide +kernel
theorem dL_law_845 : decode cL_law 845 = .ok (.lcmp, 1) := by decide +kernel
theorem dL_law_846 : decode cL_law 846 = .ok (.ifCond .eq 191, 3) := by decide +kernel
theorem dL_law_849 : decode cL_law 849 = .ok (.iconst 0, 1) := by decide +kernel
theorem dL_law_850 : decode cL_law 850 = .ok (.ireturn, 1) := by decide +kernel
theorem dL_law_851 : decode cL_law 851 = .ok (.aload_n 1, 1) := by decide +kernel
end
section
theorem dL_law_852 : decode cL_law 852 = .ok (.aload_n 0, 1) := by decide +kernel
theorem dL_law_853 : decode cL_law 853 = .ok (.iload_n 3, 1) := by decide +kernel
theorem dL_law_854 : decode cL_law 854 = .ok (.iconst 1, 1) := by decide +kernel
theorem dL_law_855 : decode cL_law 855 = .ok (.iadd, 1) := by decide +kernel
theorem dL_law_856 : decode cL_law 856 = .ok (.iaload, 1) := by decide +kernel
theorem dL_law_857 : decode cL_law 857 = .ok (.aload_n 0, 1) := by decide +kernel
theorem dL_law_858 : decode cL_law 858 = .ok (.iload_n 3, 1) := by decide +kernel
theorem dL_law_859 : decode cL_law 859 = .ok (.iconst 2, 1) := by decide +kernel
theorem dL_law_860 : decode cL_law 860 = .ok (.iadd, 1) := by decide +kernel
theorem dL_law_861 : decode cL_law 861 = .ok (.iaload, 1) := by decide +kernel
theorem dL_law_862 : decode cL_law 862 = .ok (.aload_n 0, 1) := by decide +kernel
theorem dL_law_863 : decode cL_law 863 = .ok (.iload_n 3, 1) := by decide +kernel
theorem dL_law_864 : decode cL_law 864 = .ok (.iconst 3, 1) := by decide +kernel
theorem dL_law_865 : decode cL_law 865 = .ok (.iadd, 1) := by decide +kernel
theorem dL_law_866 : decode cL_law 866 = .ok (.iaload, 1) := by decide +kernel
theorem dL_law_867 : decode cL_law 867 = .ok (.aload_n 0, 1) := by decide +kernel
theorem dL_law_868 : decode cL_law 868 = .ok (.iload_n 3, 1) := by decide +kernel
theorem dL_law_869 : decode cL_law 869 = .ok (.iconst 4, 1) := by decide +kernel
theorem dL_law_870 : decode cL_law 870 = .ok (.iadd, 1) := by decide +kernel
theorem dL_law_871 : decode cL_law 871 = .ok (.iaload, 1) := by decide +kernel
theorem dL_law_872 : decode cL_law 872 = .ok (.invokevirtual 102, 3) := by decide +kernel
theorem dL_law_875 : decode cL_law 875 = .ok (.aload_n 2, 1) := by decide +kernel
theorem dL_law_876 : decode cL_law 876 = .ok (.aload_n 0, 1) := by decide +kernel
theorem dL_law_877 : decode cL_law 877 = .ok (.iload_n 3, 1) := by decide +kernel
theorem dL_law_878 : decode cL_law 878 = .ok (.iconst 1, 1) := by decide +kernel
theorem dL_law_879 : decode cL_law 879 = .ok (.iadd, 1) := by decide +kernel
theorem dL_law_880 : decode cL_law 880 = .ok (.iaload, 1) := by decide +kernel
theorem dL_law_881 : decode cL_law 881 = .ok (.aload_n 0, 1) := by decide +kernel
theorem dL_law_882 : decode cL_law 882 = .ok (.iload_n 3, 1) := by decide +kernel
theorem dL_law_883 : decode cL_law 883 = .ok (.iconst 2, 1) := by decide +kernel
theorem dL_law_884 : decode cL_law 884 = .ok (.iadd, 1) := by decide +kernel
theorem dL_law_885 : decode cL_law 885 = .ok (.iaload, 1) := by decide +kernel
theorem dL_law_886 : decode cL_law 886 = .ok (.aload_n 0, 1) := by decide +kernel
theorem dL_law_887 : decode cL_law 887 = .ok (.iload_n 3, 1) := by decide +kernel
theorem dL_law_888 : decode cL_law 888 = .ok (.iconst 3, 1) := by decide +kernel
theorem dL_law_889 : decode cL_law 889 = .ok (.iadd, 1) := by decide +kernel
theorem dL_law_890 : decode cL_law 890 = .ok (.iaload, 1) := by decide +kernel
theorem dL_law_891 : decode cL_law 891 = .ok (.aload_n 0, 1) := by decide +kernel
theorem dL_law_892 : decode cL_law 892 = .ok (.iload_n 3, 1) := by decide +kernel
theorem dL_law_893 : decode cL_law 893 = .ok (.iconst 4, 1) := by decide +kernel
theorem dL_law_894 : decode cL_law 894 = .ok (.iadd, 1) := by decide +kernel
theorem dL_law_895 : decode cL_law 895 = .ok (.iaload, 1) := by decide +kernel
theorem dL_law_896 : decode cL_law 896 = .ok (.invokevirtual 105, 3) := by decide +kernel
theorem dL_law_899 : decode cL_law 899 = .ok (.lcmp, 1) := by decide +kernel
theorem dL_law_900 : decode cL_law 900 = .ok (.ifCond .eq 137, 3) := by decide +kernel
theorem dL_law_903 : decode cL_law 903 = .ok (.iconst 0, 1) := by decide +kernel
theorem dL_law_904 : decode cL_law 904 = .ok (.ireturn, 1) := by decide +kernel
theorem dL_law_905 : decode cL_law 905 = .ok (.aload_n 1, 1) := by decide +kernel
theorem dL_law_906 : decode cL_law 906 = .ok (.aload_n 0, 1) := by decide +kernel
theorem dL_law_907 : decode cL_law 907 = .ok (.iload_n 3, 1) := by decide +kernel
theorem dL_law_908 : decode cL_law 908 = .ok (.iconst 1, 1) := by decide +kernel
theorem dL_law_909 : decode cL_law 909 = .ok (.iadd, 1) := by decide +kernel
theorem dL_law_910 : decode cL_law 910 = .ok (.iaload, 1) := by decide +kernel
theorem dL_law_911 : decode cL_law 911 = .ok (.aload_n 0, 1) := by decide +kernel
theorem dL_law_912 : decode cL_law 912 = .ok (.iload_n 3, 1) := by decide +kernel
theorem dL_law_913 : decode cL_law 913 = .ok (.iconst 2, 1) := by decide +kernel
theorem dL_law_914 : decode cL_law 914 = .ok (.iadd, 1) := by decide +kernel
theorem dL_law_915 : decode cL_law 915 = .ok (.iaload, 1) := by decide +kernel
theorem dL_law_916 : decode cL_law 916 = .ok (.invokevirtual 106, 3) := by decide +kernel
theorem dL_law_919 : decode cL_law 919 = .ok (.aload_n 2, 1) := by decide +kernel
theorem dL_law_920 : decode cL_law 920 = .ok (.aload_n 0, 1) := by decide +kernel
theorem dL_law_921 : decode cL_law 921 = .ok (.iload_n 3, 1) := by decide +kernel
theorem dL_law_922 : decode cL_law 922 = .ok (.iconst 1, 1) := by decide +kernel
theorem dL_law_923 : decode cL_law 923 = .ok (.iadd, 1) := by decide +kernel
theorem dL_law_924 : decode cL_law 924 = .ok (.iaload, 1) := by decide +kernel
theorem dL_law_925 : decode cL_law 925 = .ok (.aload_n 0, 1) := by decide +kernel
theorem dL_law_926 : decode cL_law 926 = .ok (.iload_n 3, 1) := by decide +kernel
theorem dL_law_927 : decode cL_law 927 = .ok (.iconst 2, 1) := by decide +kernel
theorem dL_law_928 : decode cL_law 928 = .ok (.iadd, 1) := by decide +kernel
theorem dL_law_929 : decode cL_law 929 = .ok (.iaload, 1) := by decide +kernel
theorem dL_law_930 : decode cL_law 930 = .ok (.invokevirtual 109, 3) := by decide +kernel
theorem dL_law_933 : decode cL_law 933 = .ok (.if_icmp .eq 104, 3) := by decide +kernel
theorem dL_law_936 : decode cL_law 936 = .ok (.iconst 0, 1) := by decide +kernel
theorem dL_law_937 : decode cL_law 937 = .ok (.ireturn, 1) := by decide +kernel
theorem dL_law_938 : decode cL_law 938 = .ok (.aload_n 1, 1) := by decide +kernel
theorem dL_law_939 : decode cL_law 939 = .ok (.aload_n 0, 1) := by decide +kernel
theorem dL_law_940 : decode cL_law 940 = .ok (.iload_n 3, 1) := by decide +kernel
theorem dL_law_941 : decode cL_law 941 = .ok (.iconst 1, 1) := by decide +kernel
theorem dL_law_942 : decode cL_law 942 = .ok (.iadd, 1) := by decide +kernel
theorem dL_law_943 : decode cL_law 943 = .ok (.iaload, 1) := by decide +kernel
theorem dL_law_944 : decode cL_law 944 = .ok (.aload_n 0, 1) := by decide +kernel
theorem dL_law_945 : decode cL_law 945 = .ok (.iload_n 3, 1) := by decide +kernel
theorem dL_law_946 : decode cL_law 946 = .ok (.iconst 2, 1) := by decide +kernel
theorem dL_law_947 : decode cL_law 947 = .ok (.iadd, 1) := by decide +kernel
theorem dL_law_948 : decode cL_law 948 = .ok (.iaload, 1) := by decide +kernel
theorem dL_law_949 : decode cL_law 949 = .ok (.aload_n 0, 1) := by decide +kernel
theorem dL_law_950 : decode cL_law 950 = .ok (.iload_n 3, 1) := by decide +kernel
theorem dL_law_951 : decode cL_law 951 = .ok (.iconst 3, 1) := by decide +kernel
theorem dL_law_952 : decode cL_law 952 = .ok (.iadd, 1) := by decide +kernel
theorem dL_law_953 : decode cL_law 953 = .ok (.iaload, 1) := by decide +kernel
theorem dL_law_954 : decode cL_law 954 = .ok (.invokevirtual 110, 3) := by decide +kernel
theorem dL_law_957 : decode cL_law 957 = .ok (.aload_n 2, 1) := by decide +kernel
theorem dL_law_958 : decode cL_law 958 = .ok (.aload_n 0, 1) := by decide +kernel
theorem dL_law_959 : decode cL_law 959 = .ok (.iload_n 3, 1) := by decide +kernel
theorem dL_law_960 : decode cL_law 960 = .ok (.iconst 1, 1) := by decide +kernel
theorem dL_law_961 : decode cL_law 961 = .ok (.iadd, 1) := by decide +kernel
theorem dL_law_962 : decode cL_law 962 = .ok (.iaload, 1) := by decide +kernel
theorem dL_law_963 : decode cL_law 963 = .ok (.aload_n 0, 1) := by decide +kernel
theorem dL_law_964 : decode cL_law 964 = .ok (.iload_n 3, 1) := by decide +kernel
theorem dL_law_965 : decode cL_law 965 = .ok (.iconst 2, 1) := by decide +kernel
end
section
theorem dL_law_966 : decode cL_law 966 = .ok (.iadd, 1) := by decide +kernel
theorem dL_law_967 : decode cL_law 967 = .ok (.iaload, 1) := by decide +kernel
theorem dL_law_968 : decode cL_law 968 = .ok (.aload_n 0, 1) := by decide +kernel
theorem dL_law_969 : decode cL_law 969 = .ok (.iload_n 3, 1) := by decide +kernel
theorem dL_law_970 : decode cL_law 970 = .ok (.iconst 3, 1) := by decide +kernel
theorem dL_law_971 : decode cL_law 971 = .ok (.iadd, 1) := by decide +kernel
theorem dL_law_972 : decode cL_law 972 = .ok (.iaload, 1) := by decide +kernel
theorem dL_law_973 : decode cL_law 973 = .ok (.invokevirtual 113, 3) := by decide +kernel
theorem dL_law_976 : decode cL_law 976 = .ok (.if_icmp .eq 61, 3) := by decide +kernel
theorem dL_law_979 : decode cL_law 979 = .ok (.iconst 0, 1) := by decide +kernel
theorem dL_law_980 : decode cL_law 980 = .ok (.ireturn, 1) := by decide +kernel
theorem dL_law_981 : decode cL_law 981 = .ok (.aload_n 1, 1) := by decide +kernel
theorem dL_law_982 : decode cL_law 982 = .ok (.aload_n 0, 1) := by decide +kernel
theorem dL_law_983 : decode cL_law 983 = .ok (.iload_n 3, 1) := by decide +kernel
theorem dL_law_984 : decode cL_law 984 = .ok (.iconst 1, 1) := by decide +kernel
theorem dL_law_985 : decode cL_law 985 = .ok (.iadd, 1) := by decide +kernel
theorem dL_law_986 : decode cL_law 986 = .ok (.iaload, 1) := by decide +kernel
theorem dL_law_987 : decode cL_law 987 = .ok (.aload_n 0, 1) := by decide +kernel
theorem dL_law_988 : decode cL_law 988 = .ok (.iload_n 3, 1) := by decide +kernel
theorem dL_law_989 : decode cL_law 989 = .ok (.iconst 2, 1) := by decide +kernel
theorem dL_law_990 : decode cL_law 990 = .ok (.iadd, 1) := by decide +kernel
theorem dL_law_991 : decode cL_law 991 = .ok (.iaload, 1) := by decide +kernel
theorem dL_law_992 : decode cL_law 992 = .ok (.invokevirtual 114, 3) := by decide +kernel
theorem dL_law_995 : decode cL_law 995 = .ok (.aload_n 2, 1) := by decide +kernel
theorem dL_law_996 : decode cL_law 996 = .ok (.aload_n 0, 1) := by decide +kernel
theorem dL_law_997 : decode cL_law 997 = .ok (.iload_n 3, 1) := by decide +kernel
theorem dL_law_998 : decode cL_law 998 = .ok (.iconst 1, 1) := by decide +kernel
theorem dL_law_999 : decode cL_law 999 = .ok (.iadd, 1) := by decide +kernel
theorem dL_law_1000 : decode cL_law 1000 = .ok (.iaload, 1) := by decide +kernel
theorem dL_law_1001 : decode cL_law 1001 = .ok (.aload_n 0, 1) := by decide +kernel
theorem dL_law_1002 : decode cL_law 1002 = .ok (.iload_n 3, 1) := by decide +kernel
theorem dL_law_1003 : decode cL_law 1003 = .ok (.iconst 2, 1) := by decide +kernel
theorem dL_law_1004 : decode cL_law 1004 = .ok (.iadd, 1) := by decide +kernel
theorem dL_law_1005 : decode cL_law 1005 = .ok (.iaload, 1) := by decide +kernel
theorem dL_law_1006 : decode cL_law 1006 = .ok (.invokevirtual 117, 3) := by decide +kernel
theorem dL_law_1009 : decode cL_law 1009 = .ok (.if_icmp .eq 28, 3) := by decide +kernel
theorem dL_law_1012 : decode cL_law 1012 = .ok (.iconst 0, 1) := by decide +kernel
theorem dL_law_1013 : decode cL_law 1013 = .ok (.ireturn, 1) := by decide +kernel
theorem dL_law_1014 : decode cL_law 1014 = .ok (.aload_n 1, 1) := by decide +kernel
theorem dL_law_1015 : decode cL_law 1015 = .ok (.aload_n 0, 1) := by decide +kernel
theorem dL_law_1016 : decode cL_law 1016 = .ok (.iload_n 3, 1) := by decide +kernel
theorem dL_law_1017 : decode cL_law 1017 = .ok (.iconst 1, 1) := by decide +kernel
theorem dL_law_1018 : decode cL_law 1018 = .ok (.iadd, 1) := by decide +kernel
theorem dL_law_1019 : decode cL_law 1019 = .ok (.iaload, 1) := by decide +kernel
theorem dL_law_1020 : decode cL_law 1020 = .ok (.invokevirtual 118, 3) := by decide +kernel
theorem dL_law_1023 : decode cL_law 1023 = .ok (.aload_n 2, 1) := by decide +kernel
theorem dL_law_1024 : decode cL_law 1024 = .ok (.aload_n 0, 1) := by decide +kernel
theorem dL_law_1025 : decode cL_law 1025 = .ok (.iload_n 3, 1) := by decide +kernel
theorem dL_law_1026 : decode cL_law 1026 = .ok (.iconst 1, 1) := by decide +kernel
theorem dL_law_1027 : decode cL_law 1027 = .ok (.iadd, 1) := by decide +kernel
theorem dL_law_1028 : decode cL_law 1028 = .ok (.iaload, 1) := by decide +kernel
theorem dL_law_1029 : decode cL_law 1029 = .ok (.invokevirtual 121, 3) := by decide +kernel
theorem dL_law_1032 : decode cL_law 1032 = .ok (.if_icmp .eq 5, 3) := by decide +kernel
theorem dL_law_1035 : decode cL_law 1035 = .ok (.iconst 0, 1) := by decide +kernel
theorem dL_law_1036 : decode cL_law 1036 = .ok (.ireturn, 1) := by decide +kernel
theorem dL_law_1037 : decode cL_law 1037 = .ok (.iinc 3 5, 3) := by decide +kernel
theorem dL_law_1040 : decode cL_law 1040 = .ok (.goto (-1022), 3) := by decide +kernel
theorem dL_law_1043 : decode cL_law 1043 = .ok (.iconst 1, 1) := by decide +kernel
theorem dL_law_1044 : decode cL_law 1044 = .ok (.ireturn, 1) := by decide +kernel
end
section
/-- the values of the world: ints, rows of ints, rows of longs, one long -/
def Sg : Type := (Nat → Int32) × (Nat → Nat → Int32) × (Nat → Nat → Int64) × Int64
def Sg.I (σ : Sg) : Nat → Int32 := σ.1
def Sg.A (σ : Sg) : Nat → Nat → Int32 := σ.2.1
def Sg.J (σ : Sg) : Nat → Nat → Int64 := σ.2.2.1
def Sg.L (σ : Sg) : Int64 := σ.2.2.2
def Sg.sI (σ : Sg) (k : Nat) (v : Int32) : Sg := (fun j => if j = k then v else σ.I j, σ.2)
def Sg.sA (σ : Sg) (k : Nat) (f : Nat → Int32) : Sg := (σ.1, fun j => if j = k then f else σ.A j, σ.2.2)
def Sg.sJ (σ : Sg) (k : Nat) (f : Nat → Int64) : Sg := (σ.1, σ.2.1, fun j => if j = k then f else σ.J j, σ.2.2.2)
def Sg.sL (σ : Sg) (v : Int64) : Sg := (σ.1, σ.2.1, σ.2.2.1, v)
theorem sI_I (σ : Sg) (k : Nat) (v : Int32) (j : Nat) : (σ.sI k v).I j = if j = k then v else σ.I j := rfl
theorem sI_A (σ : Sg) (k : Nat) (v : Int32) : (σ.sI k v).A = σ.A := rfl
theorem sI_J (σ : Sg) (k : Nat) (v : Int32) : (σ.sI k v).J = σ.J := rfl
theorem sI_L (σ : Sg) (k : Nat) (v : Int32) : (σ.sI k v).L = σ.L := rfl
theorem sA_I (σ : Sg) (k : Nat) (f : Nat → Int32) : (σ.sA k f).I = σ.I := rfl
theorem sA_A (σ : Sg) (k : Nat) (f : Nat → Int32) (j : Nat) : (σ.sA k f).A j = if j = k then f else σ.A j := rfl
theorem sA_J (σ : Sg) (k : Nat) (f : Nat → Int32) : (σ.sA k f).J = σ.J := rfl
theorem sA_L (σ : Sg) (k : Nat) (f : Nat → Int32) : (σ.sA k f).L = σ.L := rfl
theorem sJ_I (σ : Sg) (k : Nat) (f : Nat → Int64) : (σ.sJ k f).I = σ.I := rfl
theorem sJ_A (σ : Sg) (k : Nat) (f : Nat → Int64) : (σ.sJ k f).A = σ.A := rfl
theorem sJ_J (σ : Sg) (k : Nat) (f : Nat → Int64) (j : Nat) : (σ.sJ k f).J j = if j = k then f else σ.J j := rfl
theorem sJ_L (σ : Sg) (k : Nat) (f : Nat → Int64) : (σ.sJ k f).L = σ.L := rfl
theorem sL_I (σ : Sg) (v : Int64) : (σ.sL v).I = σ.I := rfl
theorem sL_A (σ : Sg) (v : Int64) : (σ.sL v).A = σ.A := rfl
theorem sL_J (σ : Sg) (v : Int64) : (σ.sL v).J = σ.J := rfl
theorem sL_L (σ : Sg) (v : Int64) : (σ.sL v).L = v := rfl
/-- the parameters: numbers of kinds, slots, the rows' kinds, the first free cell, two tables, the texts -/
def Gp : Type := (Nat → ClassId) × (Nat → Nat → Nat) × (ClassId × ClassId × ClassId × ClassId) × Nat × Nat × Nat × (Nat → Nat) × (Nat → Nat)
def Gp.D (g : Gp) : va_G := (g.1, g.2.1)
def Gp.cI (g : Gp) : ClassId := g.2.2.1.1
def Gp.cJ (g : Gp) : ClassId := g.2.2.1.2.1
def Gp.cZ (g : Gp) : ClassId := g.2.2.1.2.2.1
def Gp.cF (g : Gp) : ClassId := g.2.2.1.2.2.2
def Gp.n0 (g : Gp) : Nat := g.2.2.2.1
def Gp.t1 (g : Gp) : Nat := g.2.2.2.2.1
def Gp.t2 (g : Gp) : Nat := g.2.2.2.2.2.1
def Gp.aK (g : Gp) : Nat → Nat := g.2.2.2.2.2.2.1
def Gp.aV (g : Gp) : Nat → Nat := g.2.2.2.2.2.2.2
def Gp.tys (g : Gp) : List (ClassId × FieldType) := [(g.cI, .int), (g.cJ, .long), (g.cZ, .boolean), (g.cF, .object "KiteBarges$Fleet")]
def AA (g : Gp) : Nat → Prop := fun q => g.n0 ≤ q
def lenA (k : Nat) : Nat := [8, 8, 8, 144, 144, 4, 4, 4, 4, 4, 200, 5, 4, 4, 4, 4, 4, 4, 4, 4, 4, 4, 4, 4, 4, 4, 4, 2, 112, 112, 112, 24, 24, 24, 24, 966, 966, 966, 966, 512, 512, 966, 966, 161, 6, 6, 24, 288, 16, 200, 48, 21, 42, 2, 24150, 24, 24, 24, 24, 8694].getD k 0
def tyA (k : Nat) : Nat := [0, 0, 0, 0, 0, 1, 0, 0, 0, 0, 0, 0, 0, 0, 0, 0, 0, 0, 0, 0, 0, 0, 0, 0, 0, 0, 0, 1, 0, 0, 2, 0, 0, 0, 0, 0, 2, 0, 2, 0, 2, 2, 2, 0, 2, 2, 0, 0, 0, 0, 0, 0, 0, 1, 0, 0, 0, 0, 0, 2].getD k 3
def arE (g : Gp) (σ : Sg) (k : Nat) : va_E := if tyA k = 0 then .inl (g.cI, lenA k, .inl (σ.A k)) else if tyA k = 1 then .inl (g.cZ, lenA k, .inl (σ.A k)) else .inl (g.cJ, lenA k, .inr (.inl (σ.J k)))
def obE (g : Gp) (ad : Nat → Nat) (σ : Sg) (k : Nat) : va_E := match k with
  | 60 => .inl (g.cF, 2, .inr (.inr (.inr (.inr (fun i => if i = 0 then some (ad 65) else some (ad 66))))))
  | 61 => .inr (6, [.ref (ad 62), .ref (ad 63), .ref (ad 64), .ref (ad 60), .ref (ad 27), .ref (ad 69), .ref (ad 70)])
  | 62 => .inr (4, [.int (σ.I 0), .int (σ.I 1), .ref (ad 0), .ref (ad 1), .ref (ad 2), .ref (ad 3), .ref (ad 4), .ref (ad 5), .ref (ad 6), .ref (ad 7), .ref (ad 8), .ref (ad 9)])
  | 63 => .inr (5, [.int (σ.I 2), .int (σ.I 3), .ref (ad 10), .int (σ.I 4), .int (σ.I 5), .int (σ.I 6), .int (σ.I 7), .int (σ.I 8), .ref (ad 11), .int (σ.I 9)])
  | 64 => .inr (0, [.int (σ.I 10), .ref (ad 12), .ref (ad 13), .ref (ad 14), .ref (ad 15), .ref (ad 16)])
  | 65 => .inr (0, [.int (σ.I 11), .ref (ad 17), .ref (ad 18), .ref (ad 19), .ref (ad 20), .ref (ad 21)])
  | 66 => .inr (0, [.int (σ.I 12), .ref (ad 22), .ref (ad 23), .ref (ad 24), .ref (ad 25), .ref (ad 26)])
  | 67 => .inr (1, [.ref (ad 31), .ref (ad 32)])
  | 68 => .inr (1, [.ref (ad 33), .ref (ad 34)])
  | 69 => .inr (3, [.ref (ad 28), .ref (ad 62), .ref (ad 29), .ref (ad 30), .ref (ad 67), .ref (ad 68), .ref (ad 35), .ref (ad 36), .ref (ad 37), .ref (ad 38)])
  | 70 => .inr (2, [.ref (ad 62), .ref (ad 39), .ref (ad 40), .ref (ad 41), .ref (ad 42), .ref (ad 43), .ref (ad 44), .ref (ad 45)])
  | _ => .inr (7, [.int (σ.I 13), .ref (ad 46), .ref (ad 47), .int (σ.I 14), .int (σ.I 15), .ref (ad 48), .int (σ.I 16), .ref (ad 49), .int (σ.I 17), .int (σ.I 18), .long σ.L, .int (σ.I 19), .int (σ.I 20), .int (σ.I 21), .int (σ.I 22), .int (σ.I 23), .ref (ad 50), .ref (ad 51), .ref (ad 52), .ref (ad 53), .ref (ad 54), .int (σ.I 24), .int (σ.I 25), .ref (ad 55), .ref (ad 56), .ref (ad 57), .ref (ad 58), .ref (ad 59)])
def ceE (g : Gp) (ad : Nat → Nat) (σ : Sg) (k : Nat) : va_E := if k < 60 then arE g σ k else obE g ad σ k
def wl (g : Gp) (ad : Nat → Nat) (σ : Sg) : va_W := (List.range 72).map (fun k => (ad k, ceE g ad σ k))
theorem wl_get (g : Gp) (ad : Nat → Nat) (σ : Sg) {k : Nat} (h : k < 72) : (wl g ad σ)[k]? = some (ad k, ceE g ad σ k) := by
  unfold wl
  rw [List.getElem?_map, List.getElem?_range h]
  rfl
theorem wl_set {g : Gp} {ad : Nat → Nat} {σ σ2 : Sg} {k : Nat} {e : va_E} (hk : k < 72) (he : e = ceE g ad σ2 k) (ho : ∀ j, j < 72 → j ≠ k → ceE g ad σ2 j = ceE g ad σ j) : (wl g ad σ).set k (ad k, e) = wl g ad σ2 := by
  apply List.ext_getElem?
  intro j
  by_cases hj : j < 72
  · rw [wl_get g ad σ2 hj]
    by_cases hjk : j = k
    · subst hjk
      rw [List.getElem?_set_self (by unfold wl; simpa using hj), he]
    · rw [List.getElem?_set_ne (Ne.symm hjk), wl_get g ad σ hj, ho j hj hjk]
  · have h1 : (wl g ad σ2)[j]? = none := List.getElem?_eq_none (by unfold wl; simpa using Nat.le_of_not_lt hj)
    rw [h1]
    exact List.getElem?_eq_none (by rw [List.length_set]; unfold wl; simpa using Nat.le_of_not_lt hj)
theorem ceE_sA (g : Gp) (ad : Nat → Nat) (σ : Sg) (k : Nat) (f : Nat → Int32) {j : Nat} (h : j ≠ k) : ceE g ad (σ.sA k f) j = ceE g ad σ j := by
  unfold ceE
  split
  · unfold arE
    rw [sA_A, if_neg h, sA_J]
  · unfold obE
    rw [sA_I, sA_L]
theorem ceE_sJ (g : Gp) (ad : Nat → Nat) (σ : Sg) (k : Nat) (f : Nat → Int64) {j : Nat} (h : j ≠ k) : ceE g ad (σ.sJ k f) j = ceE g ad σ j := by
  unfold ceE
  split
  · unfold arE
    rw [sJ_J, if_neg h, sJ_A]
  · unfold obE
    rw [sJ_I, sJ_L]
/-- the world stands in a heap -/
def Wd (g : Gp) (ad : Nat → Nat) (σ : Sg) (H : Heap) : Prop := va_P g.D vwCl (wl g ad σ) H ∧ va_D (AA g) (wl g ad σ)
theorem ceE_arI {g : Gp} {ad : Nat → Nat} {σ : Sg} {k n : Nat} (ht : tyA k = 0) (hn : lenA k = n) (hk : k < 60) : ceE g ad σ k = .inl (g.cI, n, .inl (σ.A k)) := by
  unfold ceE arE
  rw [if_pos hk, if_pos ht, hn]
theorem ceE_arZ {g : Gp} {ad : Nat → Nat} {σ : Sg} {k n : Nat} (ht : tyA k = 1) (hn : lenA k = n) (hk : k < 60) : ceE g ad σ k = .inl (g.cZ, n, .inl (σ.A k)) := by
  unfold ceE arE
  rw [if_pos hk, if_neg (by rw [ht]; decide), if_pos ht, hn]
theorem ceE_arJ {g : Gp} {ad : Nat → Nat} {σ : Sg} {k n : Nat} (ht : tyA k = 2) (hn : lenA k = n) (hk : k < 60) : ceE g ad σ k = .inl (g.cJ, n, .inr (.inl (σ.J k))) := by
  unfold ceE arE
  rw [if_pos hk, if_neg (by rw [ht]; decide), if_neg (by rw [ht]; decide), hn]
theorem set_arI {g : Gp} {ad : Nat → Nat} {σ : Sg} {k n : Nat} (ht : tyA k = 0) (hn : lenA k = n) (hk : k < 60) (f : Nat → Int32) : (wl g ad σ).set k (ad k, .inl (g.cI, n, .inl f)) = wl g ad (σ.sA k f) :=
  wl_set (by omega) (by rw [ceE_arI ht hn hk, sA_A, if_pos rfl]) (fun j _ h => ceE_sA g ad σ k f h)
theorem set_arZ {g : Gp} {ad : Nat → Nat} {σ : Sg} {k n : Nat} (ht : tyA k = 1) (hn : lenA k = n) (hk : k < 60) (f : Nat → Int32) : (wl g ad σ).set k (ad k, .inl (g.cZ, n, .inl f)) = wl g ad (σ.sA k f) :=
  wl_set (by omega) (by rw [ceE_arZ ht hn hk, sA_A, if_pos rfl]) (fun j _ h => ceE_sA g ad σ k f h)
theorem set_arJ {g : Gp} {ad : Nat → Nat} {σ : Sg} {k n : Nat} (ht : tyA k = 2) (hn : lenA k = n) (hk : k < 60) (f : Nat → Int64) : (wl g ad σ).set k (ad k, .inl (g.cJ, n, .inr (.inl f))) = wl g ad (σ.sJ k f) :=
  wl_set (by omega) (by rw [ceE_arJ ht hn hk, sJ_J, if_pos rfl]) (fun j _ h => ceE_sJ g ad σ k f h)
theorem ceE_ob {g : Gp} {ad : Nat → Nat} {σ : Sg} {k : Nat} (hk : ¬ k < 60) : ceE g ad σ k = obE g ad σ k := if_neg hk
/-- a new int in one of the objects: the rows and the other objects stay -/
theorem ceE_sI {g : Gp} {ad : Nat → Nat} {σ : Sg} {i : Nat} {v : Int32} {k : Nat} (h : ∀ j, j < 72 → ¬ j < 60 → j ≠ k → obE g ad (σ.sI i v) j = obE g ad σ j) : ∀ j, j < 72 → j ≠ k → ceE g ad (σ.sI i v) j = ceE g ad σ j := by
  intro j h1 h2
  unfold ceE
  by_cases h3 : j < 60
  · rw [if_pos h3, if_pos h3]
    unfold arE
    rw [sI_A, sI_J]
  · rw [if_neg h3, if_neg h3]
    exact h j h1 h3 h2
theorem ceE_sL {g : Gp} {ad : Nat → Nat} {σ : Sg} {v : Int64} {k : Nat} (h : ∀ j, j < 72 → ¬ j < 60 → j ≠ k → obE g ad (σ.sL v) j = obE g ad σ j) : ∀ j, j < 72 → j ≠ k → ceE g ad (σ.sL v) j = ceE g ad σ j := by
  intro j h1 h2
  unfold ceE
  by_cases h3 : j < 60
  · rw [if_pos h3, if_pos h3]
    unfold arE
    rw [sL_A, sL_J]
  · rw [if_neg h3, if_neg h3]
    exact h j h1 h3 h2
theorem j12 {P : Nat → Prop} (h0 : P 60) (h1 : P 61) (h2 : P 62) (h3 : P 63) (h4 : P 64) (h5 : P 65) (h6 : P 66) (h7 : P 67) (h8 : P 68) (h9 : P 69) (h10 : P 70) (h11 : P 71) : ∀ j, j < 72 → ¬ j < 60 → P j := by
  intro j a b
  rcases (show j = 60 ∨ j = 61 ∨ j = 62 ∨ j = 63 ∨ j = 64 ∨ j = 65 ∨ j = 66 ∨ j = 67 ∨ j = 68 ∨ j = 69 ∨ j = 70 ∨ j = 71 by omega) with rfl | rfl | rfl | rfl | rfl | rfl | rfl | rfl | rfl | rfl | rfl | rfl <;> assumption
theorem set_62_0 (g : Gp) (ad : Nat → Nat) (σ : Sg) (v : Int32) : (wl g ad σ).set 62 (ad 62, .inr (4, [.int v, .int (σ.I 1), .ref (ad 0), .ref (ad 1), .ref (ad 2), .ref (ad 3), .ref (ad 4), .ref (ad 5), .ref (ad 6), .ref (ad 7), .ref (ad 8), .ref (ad 9)])) = wl g ad (σ.sI 0 v) :=
  wl_set (by omega) rfl (ceE_sI (j12 (P := fun j => j ≠ 62 → obE g ad (σ.sI 0 v) j = obE g ad σ j) (fun _ => rfl) (fun _ => rfl) (fun h => absurd rfl h) (fun _ => rfl) (fun _ => rfl) (fun _ => rfl) (fun _ => rfl) (fun _ => rfl) (fun _ => rfl) (fun _ => rfl) (fun _ => rfl) (fun _ => rfl)))
theorem set_62_1 (g : Gp) (ad : Nat → Nat) (σ : Sg) (v : Int32) : (wl g ad σ).set 62 (ad 62, .inr (4, [.int (σ.I 0), .int v, .ref (ad 0), .ref (ad 1), .ref (ad 2), .ref (ad 3), .ref (ad 4), .ref (ad 5), .ref (ad 6), .ref (ad 7), .ref (ad 8), .ref (ad 9)])) = wl g ad (σ.sI 1 v) :=
  wl_set (by omega) rfl (ceE_sI (j12 (P := fun j => j ≠ 62 → obE g ad (σ.sI 1 v) j = obE g ad σ j) (fun _ => rfl) (fun _ => rfl) (fun h => absurd rfl h) (fun _ => rfl) (fun _ => rfl) (fun _ => rfl) (fun _ => rfl) (fun _ => rfl) (fun _ => rfl) (fun _ => rfl) (fun _ => rfl) (fun _ => rfl)))
theorem set_63_0 (g : Gp) (ad : Nat → Nat) (σ : Sg) (v : Int32) : (wl g ad σ).set 63 (ad 63, .inr (5, [.int v, .int (σ.I 3), .ref (ad 10), .int (σ.I 4), .int (σ.I 5), .int (σ.I 6), .int (σ.I 7), .int (σ.I 8), .ref (ad 11), .int (σ.I 9)])) = wl g ad (σ.sI 2 v) :=
  wl_set (by omega) rfl (ceE_sI (j12 (P := fun j => j ≠ 63 → obE g ad (σ.sI 2 v) j = obE g ad σ j) (fun _ => rfl) (fun _ => rfl) (fun _ => rfl) (fun h => absurd rfl h) (fun _ => rfl) (fun _ => rfl) (fun _ => rfl) (fun _ => rfl) (fun _ => rfl) (fun _ => rfl) (fun _ => rfl) (fun _ => rfl)))
theorem set_63_1 (g : Gp) (ad : Nat → Nat) (σ : Sg) (v : Int32) : (wl g ad σ).set 63 (ad 63, .inr (5, [.int (σ.I 2), .int v, .ref (ad 10), .int (σ.I 4), .int (σ.I 5), .int (σ.I 6), .int (σ.I 7), .int (σ.I 8), .ref (ad 11), .int (σ.I 9)])) = wl g ad (σ.sI 3 v) :=
  wl_set (by omega) rfl (ceE_sI (j12 (P := fun j => j ≠ 63 → obE g ad (σ.sI 3 v) j = obE g ad σ j) (fun _ => rfl) (fun _ => rfl) (fun _ => rfl) (fun h => absurd rfl h) (fun _ => rfl) (fun _ => rfl) (fun _ => rfl) (fun _ => rfl) (fun _ => rfl) (fun _ => rfl) (fun _ => rfl) (fun _ => rfl)))
theorem set_63_3 (g : Gp) (ad : Nat → Nat) (σ : Sg) (v : Int32) : (wl g ad σ).set 63 (ad 63, .inr (5, [.int (σ.I 2), .int (σ.I 3), .ref (ad 10), .int v, .int (σ.I 5), .int (σ.I 6), .int (σ.I 7), .int (σ.I 8), .ref (ad 11), .int (σ.I 9)])) = wl g ad (σ.sI 4 v) :=
  wl_set (by omega) rfl (ceE_sI (j12 (P := fun j => j ≠ 63 → obE g ad (σ.sI 4 v) j = obE g ad σ j) (fun _ => rfl) (fun _ => rfl) (fun _ => rfl) (fun h => absurd rfl h) (fun _ => rfl) (fun _ => rfl) (fun _ => rfl) (fun _ => rfl) (fun _ => rfl) (fun _ => rfl) (fun _ => rfl) (fun _ => rfl)))
theorem set_63_4 (g : Gp) (ad : Nat → Nat) (σ : Sg) (v : Int32) : (wl g ad σ).set 63 (ad 63, .inr (5, [.int (σ.I 2), .int (σ.I 3), .ref (ad 10), .int (σ.I 4), .int v, .int (σ.I 6), .int (σ.I 7), .int (σ.I 8), .ref (ad 11), .int (σ.I 9)])) = wl g ad (σ.sI 5 v) :=
  wl_set (by omega) rfl (ceE_sI (j12 (P := fun j => j ≠ 63 → obE g ad (σ.sI 5 v) j = obE g ad σ j) (fun _ => rfl) (fun _ => rfl) (fun _ => rfl) (fun h => absurd rfl h) (fun _ => rfl) (fun _ => rfl) (fun _ => rfl) (fun _ => rfl) (fun _ => rfl) (fun _ => rfl) (fun _ => rfl) (fun _ => rfl)))
theorem set_63_5 (g : Gp) (ad : Nat → Nat) (σ : Sg) (v : Int32) : (wl g ad σ).set 63 (ad 63, .inr (5, [.int (σ.I 2), .int (σ.I 3), .ref (ad 10), .int (σ.I 4), .int (σ.I 5), .int v, .int (σ.I 7), .int (σ.I 8), .ref (ad 11), .int (σ.I 9)])) = wl g ad (σ.sI 6 v) :=
  wl_set (by omega) rfl (ceE_sI (j12 (P := fun j => j ≠ 63 → obE g ad (σ.sI 6 v) j = obE g ad σ j) (fun _ => rfl) (fun _ => rfl) (fun _ => rfl) (fun h => absurd rfl h) (fun _ => rfl) (fun _ => rfl) (fun _ => rfl) (fun _ => rfl) (fun _ => rfl) (fun _ => rfl) (fun _ => rfl) (fun _ => rfl)))
theorem set_63_6 (g : Gp) (ad : Nat → Nat) (σ : Sg) (v : Int32) : (wl g ad σ).set 63 (ad 63, .inr (5, [.int (σ.I 2), .int (σ.I 3), .ref (ad 10), .int (σ.I 4), .int (σ.I 5), .int (σ.I 6), .int v, .int (σ.I 8), .ref (ad 11), .int (σ.I 9)])) = wl g ad (σ.sI 7 v) :=
  wl_set (by omega) rfl (ceE_sI (j12 (P := fun j => j ≠ 63 → obE g ad (σ.sI 7 v) j = obE g ad σ j) (fun _ => rfl) (fun _ => rfl) (fun _ => rfl) (fun h => absurd rfl h) (fun _ => rfl) (fun _ => rfl) (fun _ => rfl) (fun _ => rfl) (fun _ => rfl) (fun _ => rfl) (fun _ => rfl) (fun _ => rfl)))
theorem set_63_7 (g : Gp) (ad : Nat → Nat) (σ : Sg) (v : Int32) : (wl g ad σ).set 63 (ad 63, .inr (5, [.int (σ.I 2), .int (σ.I 3), .ref (ad 10), .int (σ.I 4), .int (σ.I 5), .int (σ.I 6), .int (σ.I 7), .int v, .ref (ad 11), .int (σ.I 9)])) = wl g ad (σ.sI 8 v) :=
  wl_set (by omega) rfl (ceE_sI (j12 (P := fun j => j ≠ 63 → obE g ad (σ.sI 8 v) j = obE g ad σ j) (fun _ => rfl) (fun _ => rfl) (fun _ => rfl) (fun h => absurd rfl h) (fun _ => rfl) (fun _ => rfl) (fun _ => rfl) (fun _ => rfl) (fun _ => rfl) (fun _ => rfl) (fun _ => rfl) (fun _ => rfl)))
theorem set_63_9 (g : Gp) (ad : Nat → Nat) (σ : Sg) (v : Int32) : (wl g ad σ).set 63 (ad 63, .inr (5, [.int (σ.I 2), .int (σ.I 3), .ref (ad 10), .int (σ.I 4), .int (σ.I 5), .int (σ.I 6), .int (σ.I 7), .int (σ.I 8), .ref (ad 11), .int v])) = wl g ad (σ.sI 9 v) :=
  wl_set (by omega) rfl (ceE_sI (j12 (P := fun j => j ≠ 63 → obE g ad (σ.sI 9 v) j = obE g ad σ j) (fun _ => rfl) (fun _ => rfl) (fun _ => rfl) (fun h => absurd rfl h) (fun _ => rfl) (fun _ => rfl) (fun _ => rfl) (fun _ => rfl) (fun _ => rfl) (fun _ => rfl) (fun _ => rfl) (fun _ => rfl)))
theorem set_64_0 (g : Gp) (ad : Nat → Nat) (σ : Sg) (v : Int32) : (wl g ad σ).set 64 (ad 64, .inr (0, [.int v, .ref (ad 12), .ref (ad 13), .ref (ad 14), .ref (ad 15), .ref (ad 16)])) = wl g ad (σ.sI 10 v) :=
  wl_set (by omega) rfl (ceE_sI (j12 (P := fun j => j ≠ 64 → obE g ad (σ.sI 10 v) j = obE g ad σ j) (fun _ => rfl) (fun _ => rfl) (fun _ => rfl) (fun _ => rfl) (fun h => absurd rfl h) (fun _ => rfl) (fun _ => rfl) (fun _ => rfl) (fun _ => rfl) (fun _ => rfl) (fun _ => rfl) (fun _ => rfl)))
theorem set_65_0 (g : Gp) (ad : Nat → Nat) (σ : Sg) (v : Int32) : (wl g ad σ).set 65 (ad 65, .inr (0, [.int v, .ref (ad 17), .ref (ad 18), .ref (ad 19), .ref (ad 20), .ref (ad 21)])) = wl g ad (σ.sI 11 v) :=
  wl_set (by omega) rfl (ceE_sI (j12 (P := fun j => j ≠ 65 → obE g ad (σ.sI 11 v) j = obE g ad σ j) (fun _ => rfl) (fun _ => rfl) (fun _ => rfl) (fun _ => rfl) (fun _ => rfl) (fun h => absurd rfl h) (fun _ => rfl) (fun _ => rfl) (fun _ => rfl) (fun _ => rfl) (fun _ => rfl) (fun _ => rfl)))
theorem set_66_0 (g : Gp) (ad : Nat → Nat) (σ : Sg) (v : Int32) : (wl g ad σ).set 66 (ad 66, .inr (0, [.int v, .ref (ad 22), .ref (ad 23), .ref (ad 24), .ref (ad 25), .ref (ad 26)])) = wl g ad (σ.sI 12 v) :=
  wl_set (by omega) rfl (ceE_sI (j12 (P := fun j => j ≠ 66 → obE g ad (σ.sI 12 v) j = obE g ad σ j) (fun _ => rfl) (fun _ => rfl) (fun _ => rfl) (fun _ => rfl) (fun _ => rfl) (fun _ => rfl) (fun h => absurd rfl h) (fun _ => rfl) (fun _ => rfl) (fun _ => rfl) (fun _ => rfl) (fun _ => rfl)))
theorem set_71_0 (g : Gp) (ad : Nat → Nat) (σ : Sg) (v : Int32) : (wl g ad σ).set 71 (ad 71, .inr (7, [.int v, .ref (ad 46), .ref (ad 47), .int (σ.I 14), .int (σ.I 15), .ref (ad 48), .int (σ.I 16), .ref (ad 49), .int (σ.I 17), .int (σ.I 18), .long σ.L, .int (σ.I 19), .int (σ.I 20), .int (σ.I 21), .int (σ.I 22), .int (σ.I 23), .ref (ad 50), .ref (ad 51), .ref (ad 52), .ref (ad 53), .ref (ad 54), .int (σ.I 24), .int (σ.I 25), .ref (ad 55), .ref (ad 56), .ref (ad 57), .ref (ad 58), .ref (ad 59)])) = wl g ad (σ.sI 13 v) :=
  wl_set (by omega) rfl (ceE_sI (j12 (P := fun j => j ≠ 71 → obE g ad (σ.sI 13 v) j = obE g ad σ j) (fun _ => rfl) (fun _ => rfl) (fun _ => rfl) (fun _ => rfl) (fun _ => rfl) (fun _ => rfl) (fun _ => rfl) (fun _ => rfl) (fun _ => rfl) (fun _ => rfl) (fun _ => rfl) (fun h => absurd rfl h)))
theorem set_71_3 (g : Gp) (ad : Nat → Nat) (σ : Sg) (v : Int32) : (wl g ad σ).set 71 (ad 71, .inr (7, [.int (σ.I 13), .ref (ad 46), .ref (ad 47), .int v, .int (σ.I 15), .ref (ad 48), .int (σ.I 16), .ref (ad 49), .int (σ.I 17), .int (σ.I 18), .long σ.L, .int (σ.I 19), .int (σ.I 20), .int (σ.I 21), .int (σ.I 22), .int (σ.I 23), .ref (ad 50), .ref (ad 51), .ref (ad 52), .ref (ad 53), .ref (ad 54), .int (σ.I 24), .int (σ.I 25), .ref (ad 55), .ref (ad 56), .ref (ad 57), .ref (ad 58), .ref (ad 59)])) = wl g ad (σ.sI 14 v) :=
  wl_set (by omega) rfl (ceE_sI (j12 (P := fun j => j ≠ 71 → obE g ad (σ.sI 14 v) j = obE g ad σ j) (fun _ => rfl) (fun _ => rfl) (fun _ => rfl) (fun _ => rfl) (fun _ => rfl) (fun _ => rfl) (fun _ => rfl) (fun _ => rfl) (fun _ => rfl) (fun _ => rfl) (fun _ => rfl) (fun h => absurd rfl h)))
theorem set_71_4 (g : Gp) (ad : Nat → Nat) (σ : Sg) (v : Int32) : (wl g ad σ).set 71 (ad 71, .inr (7, [.int (σ.I 13), .ref (ad 46), .ref (ad 47), .int (σ.I 14), .int v, .ref (ad 48), .int (σ.I 16), .ref (ad 49), .int (σ.I 17), .int (σ.I 18), .long σ.L, .int (σ.I 19), .int (σ.I 20), .int (σ.I 21), .int (σ.I 22), .int (σ.I 23), .ref (ad 50), .ref (ad 51), .ref (ad 52), .ref (ad 53), .ref (ad 54), .int (σ.I 24), .int (σ.I 25), .ref (ad 55), .ref (ad 56), .ref (ad 57), .ref (ad 58), .ref (ad 59)])) = wl g ad (σ.sI 15 v) :=
  wl_set (by omega) rfl (ceE_sI (j12 (P := fun j => j ≠ 71 → obE g ad (σ.sI 15 v) j = obE g ad σ j) (fun _ => rfl) (fun _ => rfl) (fun _ => rfl) (fun _ => rfl) (fun _ => rfl) (fun _ => rfl) (fun _ => rfl) (fun _ => rfl) (fun _ => rfl) (fun _ => rfl) (fun _ => rfl) (fun h => absurd rfl h)))
theorem set_71_6 (g : Gp) (ad : Nat → Nat) (σ : Sg) (v : Int32) : (wl g ad σ).set 71 (ad 71, .inr (7, [.int (σ.I 13), .ref (ad 46), .ref (ad 47), .int (σ.I 14), .int (σ.I 15), .ref (ad 48), .int v, .ref (ad 49), .int (σ.I 17), .int (σ.I 18), .long σ.L, .int (σ.I 19), .int (σ.I 20), .int (σ.I 21), .int (σ.I 22), .int (σ.I 23), .ref (ad 50), .ref (ad 51), .ref (ad 52), .ref (ad 53), .ref (ad 54), .int (σ.I 24), .int (σ.I 25), .ref (ad 55), .ref (ad 56), .ref (ad 57), .ref (ad 58), .ref (ad 59)])) = wl g ad (σ.sI 16 v) :=
  wl_set (by omega) rfl (ceE_sI (j12 (P := fun j => j ≠ 71 → obE g ad (σ.sI 16 v) j = obE g ad σ j) (fun _ => rfl) (fun _ => rfl) (fun _ => rfl) (fun _ => rfl) (fun _ => rfl) (fun _ => rfl) (fun _ => rfl) (fun _ => rfl) (fun _ => rfl) (fun _ => rfl) (fun _ => rfl) (fun h => absurd rfl h)))
theorem set_71_8 (g : Gp) (ad : Nat → Nat) (σ : Sg) (v : Int32) : (wl g ad σ).set 71 (ad 71, .inr (7, [.int (σ.I 13), .ref (ad 46), .ref (ad 47), .int (σ.I 14), .int (σ.I 15), .ref (ad 48), .int (σ.I 16), .ref (ad 49), .int v, .int (σ.I 18), .long σ.L, .int (σ.I 19), .int (σ.I 20), .int (σ.I 21), .int (σ.I 22), .int (σ.I 23), .ref (ad 50), .ref (ad 51), .ref (ad 52), .ref (ad 53), .ref (ad 54), .int (σ.I 24), .int (σ.I 25), .ref (ad 55), .ref (ad 56), .ref (ad 57), .ref (ad 58), .ref (ad 59)])) = wl g ad (σ.sI 17 v) :=
  wl_set (by omega) rfl (ceE_sI (j12 (P := fun j => j ≠ 71 → obE g ad (σ.sI 17 v) j = obE g ad σ j) (fun _ => rfl) (fun _ => rfl) (fun _ => rfl) (fun _ => rfl) (fun _ => rfl) (fun _ => rfl) (fun _ => rfl) (fun _ => rfl) (fun _ => rfl) (fun _ => rfl) (fun _ => rfl) (fun h => absurd rfl h)))
theorem set_71_9 (g : Gp) (ad : Nat → Nat) (σ : Sg) (v : Int32) : (wl g ad σ).set 71 (ad 71, .inr (7, [.int (σ.I 13), .ref (ad 46), .ref (ad 47), .int (σ.I 14), .int (σ.I 15), .ref (ad 48), .int (σ.I 16), .ref (ad 49), .int (σ.I 17), .int v, .long σ.L, .int (σ.I 19), .int (σ.I 20), .int (σ.I 21), .int (σ.I 22), .int (σ.I 23), .ref (ad 50), .ref (ad 51), .ref (ad 52), .ref (ad 53), .ref (ad 54), .int (σ.I 24), .int (σ.I 25), .ref (ad 55), .ref (ad 56), .ref (ad 57), .ref (ad 58), .ref (ad 59)])) = wl g ad (σ.sI 18 v) :=
  wl_set (by omega) rfl (ceE_sI (j12 (P := fun j => j ≠ 71 → obE g ad (σ.sI 18 v) j = obE g ad σ j) (fun _ => rfl) (fun _ => rfl) (fun _ => rfl) (fun _ => rfl) (fun _ => rfl) (fun _ => rfl) (fun _ => rfl) (fun _ => rfl) (fun _ => rfl) (fun _ => rfl) (fun _ => rfl) (fun h => absurd rfl h)))
theorem set_71_10 (g : Gp) (ad : Nat → Nat) (σ : Sg) (v : Int64) : (wl g ad σ).set 71 (ad 71, .inr (7, [.int (σ.I 13), .ref (ad 46), .ref (ad 47), .int (σ.I 14), .int (σ.I 15), .ref (ad 48), .int (σ.I 16), .ref (ad 49), .int (σ.I 17), .int (σ.I 18), .long v, .int (σ.I 19), .int (σ.I 20), .int (σ.I 21), .int (σ.I 22), .int (σ.I 23), .ref (ad 50), .ref (ad 51), .ref (ad 52), .ref (ad 53), .ref (ad 54), .int (σ.I 24), .int (σ.I 25), .ref (ad 55), .ref (ad 56), .ref (ad 57), .ref (ad 58), .ref (ad 59)])) = wl g ad (σ.sL v) :=
  wl_set (by omega) rfl (ceE_sL (j12 (P := fun j => j ≠ 71 → obE g ad (σ.sL v) j = obE g ad σ j) (fun _ => rfl) (fun _ => rfl) (fun _ => rfl) (fun _ => rfl) (fun _ => rfl) (fun _ => rfl) (fun _ => rfl) (fun _ => rfl) (fun _ => rfl) (fun _ => rfl) (fun _ => rfl) (fun h => absurd rfl h)))
theorem set_71_11 (g : Gp) (ad : Nat → Nat) (σ : Sg) (v : Int32) : (wl g ad σ).set 71 (ad 71, .inr (7, [.int (σ.I 13), .ref (ad 46), .ref (ad 47), .int (σ.I 14), .int (σ.I 15), .ref (ad 48), .int (σ.I 16), .ref (ad 49), .int (σ.I 17), .int (σ.I 18), .long σ.L, .int v, .int (σ.I 20), .int (σ.I 21), .int (σ.I 22), .int (σ.I 23), .ref (ad 50), .ref (ad 51), .ref (ad 52), .ref (ad 53), .ref (ad 54), .int (σ.I 24), .int (σ.I 25), .ref (ad 55), .ref (ad 56), .ref (ad 57), .ref (ad 58), .ref (ad 59)])) = wl g ad (σ.sI 19 v) :=
  wl_set (by omega) rfl (ceE_sI (j12 (P := fun j => j ≠ 71 → obE g ad (σ.sI 19 v) j = obE g ad σ j) (fun _ => rfl) (fun _ => rfl) (fun _ => rfl) (fun _ => rfl) (fun _ => rfl) (fun _ => rfl) (fun _ => rfl) (fun _ => rfl) (fun _ => rfl) (fun _ => rfl) (fun _ => rfl) (fun h => absurd rfl h)))
theorem set_71_12 (g : Gp) (ad : Nat → Nat) (σ : Sg) (v : Int32) : (wl g ad σ).set 71 (ad 71, .inr (7, [.int (σ.I 13), .ref (ad 46), .ref (ad 47), .int (σ.I 14), .int (σ.I 15), .ref (ad 48), .int (σ.I 16), .ref (ad 49), .int (σ.I 17), .int (σ.I 18), .long σ.L, .int (σ.I 19), .int v, .int (σ.I 21), .int (σ.I 22), .int (σ.I 23), .ref (ad 50), .ref (ad 51), .ref (ad 52), .ref (ad 53), .ref (ad 54), .int (σ.I 24), .int (σ.I 25), .ref (ad 55), .ref (ad 56), .ref (ad 57), .ref (ad 58), .ref (ad 59)])) = wl g ad (σ.sI 20 v) :=
  wl_set (by omega) rfl (ceE_sI (j12 (P := fun j => j ≠ 71 → obE g ad (σ.sI 20 v) j = obE g ad σ j) (fun _ => rfl) (fun _ => rfl) (fun _ => rfl) (fun _ => rfl) (fun _ => rfl) (fun _ => rfl) (fun _ => rfl) (fun _ => rfl) (fun _ => rfl) (fun _ => rfl) (fun _ => rfl) (fun h => absurd rfl h)))
theorem set_71_13 (g : Gp) (ad : Nat → Nat) (σ : Sg) (v : Int32) : (wl g ad σ).set 71 (ad 71, .inr (7, [.int (σ.I 13), .ref (ad 46), .ref (ad 47), .int (σ.I 14), .int (σ.I 15), .ref (ad 48), .int (σ.I 16), .ref (ad 49), .int (σ.I 17), .int (σ.I 18), .long σ.L, .int (σ.I 19), .int (σ.I 20), .int v, .int (σ.I 22), .int (σ.I 23), .ref (ad 50), .ref (ad 51), .ref (ad 52), .ref (ad 53), .ref (ad 54), .int (σ.I 24), .int (σ.I 25), .ref (ad 55), .ref (ad 56), .ref (ad 57), .ref (ad 58), .ref (ad 59)])) = wl g ad (σ.sI 21 v) :=
  wl_set (by omega) rfl (ceE_sI (j12 (P := fun j => j ≠ 71 → obE g ad (σ.sI 21 v) j = obE g ad σ j) (fun _ => rfl) (fun _ => rfl) (fun _ => rfl) (fun _ => rfl) (fun _ => rfl) (fun _ => rfl) (fun _ => rfl) (fun _ => rfl) (fun _ => rfl) (fun _ => rfl) (fun _ => rfl) (fun h => absurd rfl h)))
theorem set_71_14 (g : Gp) (ad : Nat → Nat) (σ : Sg) (v : Int32) : (wl g ad σ).set 71 (ad 71, .inr (7, [.int (σ.I 13), .ref (ad 46), .ref (ad 47), .int (σ.I 14), .int (σ.I 15), .ref (ad 48), .int (σ.I 16), .ref (ad 49), .int (σ.I 17), .int (σ.I 18), .long σ.L, .int (σ.I 19), .int (σ.I 20), .int (σ.I 21), .int v, .int (σ.I 23), .ref (ad 50), .ref (ad 51), .ref (ad 52), .ref (ad 53), .ref (ad 54), .int (σ.I 24), .int (σ.I 25), .ref (ad 55), .ref (ad 56), .ref (ad 57), .ref (ad 58), .ref (ad 59)])) = wl g ad (σ.sI 22 v) :=
  wl_set (by omega) rfl (ceE_sI (j12 (P := fun j => j ≠ 71 → obE g ad (σ.sI 22 v) j = obE g ad σ j) (fun _ => rfl) (fun _ => rfl) (fun _ => rfl) (fun _ => rfl) (fun _ => rfl) (fun _ => rfl) (fun _ => rfl) (fun _ => rfl) (fun _ => rfl) (fun _ => rfl) (fun _ => rfl) (fun h => absurd rfl h)))
theorem set_71_15 (g : Gp) (ad : Nat → Nat) (σ : Sg) (v : Int32) : (wl g ad σ).set 71 (ad 71, .inr (7, [.int (σ.I 13), .ref (ad 46), .ref (ad 47), .int (σ.I 14), .int (σ.I 15), .ref (ad 48), .int (σ.I 16), .ref (ad 49), .int (σ.I 17), .int (σ.I 18), .long σ.L, .int (σ.I 19), .int (σ.I 20), .int (σ.I 21), .int (σ.I 22), .int v, .ref (ad 50), .ref (ad 51), .ref (ad 52), .ref (ad 53), .ref (ad 54), .int (σ.I 24), .int (σ.I 25), .ref (ad 55), .ref (ad 56), .ref (ad 57), .ref (ad 58), .ref (ad 59)])) = wl g ad (σ.sI 23 v) :=
  wl_set (by omega) rfl (ceE_sI (j12 (P := fun j => j ≠ 71 → obE g ad (σ.sI 23 v) j = obE g ad σ j) (fun _ => rfl) (fun _ => rfl) (fun _ => rfl) (fun _ => rfl) (fun _ => rfl) (fun _ => rfl) (fun _ => rfl) (fun _ => rfl) (fun _ => rfl) (fun _ => rfl) (fun _ => rfl) (fun h => absurd rfl h)))
theorem set_71_21 (g : Gp) (ad : Nat → Nat) (σ : Sg) (v : Int32) : (wl g ad σ).set 71 (ad 71, .inr (7, [.int (σ.I 13), .ref (ad 46), .ref (ad 47), .int (σ.I 14), .int (σ.I 15), .ref (ad 48), .int (σ.I 16), .ref (ad 49), .int (σ.I 17), .int (σ.I 18), .long σ.L, .int (σ.I 19), .int (σ.I 20), .int (σ.I 21), .int (σ.I 22), .int (σ.I 23), .ref (ad 50), .ref (ad 51), .ref (ad 52), .ref (ad 53), .ref (ad 54), .int v, .int (σ.I 25), .ref (ad 55), .ref (ad 56), .ref (ad 57), .ref (ad 58), .ref (ad 59)])) = wl g ad (σ.sI 24 v) :=
  wl_set (by omega) rfl (ceE_sI (j12 (P := fun j => j ≠ 71 → obE g ad (σ.sI 24 v) j = obE g ad σ j) (fun _ => rfl) (fun _ => rfl) (fun _ => rfl) (fun _ => rfl) (fun _ => rfl) (fun _ => rfl) (fun _ => rfl) (fun _ => rfl) (fun _ => rfl) (fun _ => rfl) (fun _ => rfl) (fun h => absurd rfl h)))
theorem set_71_22 (g : Gp) (ad : Nat → Nat) (σ : Sg) (v : Int32) : (wl g ad σ).set 71 (ad 71, .inr (7, [.int (σ.I 13), .ref (ad 46), .ref (ad 47), .int (σ.I 14), .int (σ.I 15), .ref (ad 48), .int (σ.I 16), .ref (ad 49), .int (σ.I 17), .int (σ.I 18), .long σ.L, .int (σ.I 19), .int (σ.I 20), .int (σ.I 21), .int (σ.I 22), .int (σ.I 23), .ref (ad 50), .ref (ad 51), .ref (ad 52), .ref (ad 53), .ref (ad 54), .int (σ.I 24), .int v, .ref (ad 55), .ref (ad 56), .ref (ad 57), .ref (ad 58), .ref (ad 59)])) = wl g ad (σ.sI 25 v) :=
  wl_set (by omega) rfl (ceE_sI (j12 (P := fun j => j ≠ 71 → obE g ad (σ.sI 25 v) j = obE g ad σ j) (fun _ => rfl) (fun _ => rfl) (fun _ => rfl) (fun _ => rfl) (fun _ => rfl) (fun _ => rfl) (fun _ => rfl) (fun _ => rfl) (fun _ => rfl) (fun _ => rfl) (fun _ => rfl) (fun h => absurd rfl h)))
end
section
/-- the words that go with every call -/
def gtb : List Cond := lw_tbl.filter goodWord
theorem gmem {w : Cond} (i : Nat) (h : tables_1[i]? = some w) (hg : goodWord w = true) : w ∈ gtb := List.mem_filter.mpr ⟨List.mem_append_right _ (List.mem_of_getElem? h), hg⟩
theorem gsel {w : Cond} (i : Nat) (h : (k2_sels lw_privs)[i]? = some w) (hg : goodWord w = true) : w ∈ gtb := List.mem_filter.mpr ⟨List.mem_append_left _ (List.mem_of_getElem? h), hg⟩
def wm (y : MethodName) (cc : ByteArray) (n : Nat) (ret : Option FieldType) : List Cond := .code y cc n ret :: gtb
theorem gtb_good : ∀ w ∈ gtb, (w.onTables && w.keeps) = true ∨ ∃ ty, w = .arrayClass ty := fun w h => good_of_word (List.mem_filter.mp h).2
theorem wm_good {y : MethodName} {cc : ByteArray} {n : Nat} {ret : Option FieldType} (h : Cond.code y cc n ret ∈ gtb) : GoodIn gtb (wm y cc n ret) := by
  intro w hw
  rcases List.mem_cons.mp hw with h1 | h1
  · subst h1
    exact ⟨h, gtb_good _ h⟩
  · exact ⟨h1, gtb_good w h1⟩
def Cx : Type := Program × Launch × Env × Room × State × MethodId × Array Value × List Frame × Method × Code × Nat × Nat × (State → Prop)
def Cx.p (x : Cx) : Program := x.1
def Cx.l (x : Cx) : Launch := x.2.1
def Cx.e (x : Cx) : Env := x.2.2.1
def Cx.R (x : Cx) : Room := x.2.2.2.1
def Cx.s (x : Cx) : State := x.2.2.2.2.1
def Cx.m (x : Cx) : MethodId := x.2.2.2.2.2.1
def Cx.args (x : Cx) : Array Value := x.2.2.2.2.2.2.1
def Cx.below (x : Cx) : List Frame := x.2.2.2.2.2.2.2.1
def Cx.meth (x : Cx) : Method := x.2.2.2.2.2.2.2.2.1
def Cx.c (x : Cx) : Code := x.2.2.2.2.2.2.2.2.2.1
def Cx.nc (x : Cx) : Nat := x.2.2.2.2.2.2.2.2.2.2.1
def Cx.ns (x : Cx) : Nat := x.2.2.2.2.2.2.2.2.2.2.2.1
def Cx.Q (x : Cx) : State → Prop := x.2.2.2.2.2.2.2.2.2.2.2.2
def tmsL : List Int32 := [10, 7, 0, 0, 0, 0, 0, 7]
def sailL : List Int32 := [10, 7, 5, 0, 0, 0, 5, 7]
def stIx : List Nat := [70, 76, 78, 80, 82, 84, 86, 88, 90, 92, 94, 96, 98]
def stTx : List String := ["open", "trees", "lock", "dry", "wind", "barge", "sold", "still", "plain", "paired", "slow", "sail", "torn"]
def lenS : List Nat := [4, 5, 4, 3, 4, 5, 4, 5, 5, 6, 4, 4, 4]
def bytS : List (List Int32) := [[111, 112, 101, 110], [116, 114, 101, 101, 115], [108, 111, 99, 107], [100, 114, 121], [119, 105, 110, 100], [98, 97, 114, 103, 101], [115, 111, 108, 100], [115, 116, 105, 108, 108], [112, 108, 97, 105, 110], [112, 97, 105, 114, 101, 100], [115, 108, 111, 119], [115, 97, 105, 108], [116, 111, 114, 110]]
/-- what holds of a state's tables and of its old cells -/
def KK (g : Gp) (U : State) : Prop := va_K g.D vwCl g.tys U ∧ (va_Z "KiteBarges$River" "TIMES" "[I" (.ref g.t1) (AA g) U U.heap ∧ va_Z "KiteBarges$River" "SAIL_TIMES" "[I" (.ref g.t2) (AA g) U U.heap ∧ va_T .int g.t1 8 (fun j => .int (tmsL.getD j 0)) (AA g) U U.heap ∧ va_T .int g.t2 8 (fun j => .int (sailL.getD j 0)) (AA g) U U.heap) ∧ (vk_S 13 lenS bytS g.aK g.aV (AA g) U U.heap ∧ (∀ i, i < 13 → vk_R "KiteBarges$Text" (stIx.getD i 0) (stTx.getD i "") (g.aK i) U) ∧ va_Z "java/lang/String" "COMPACT_STRINGS" "Z" (.int 1) (AA g) U U.heap) ∧ va_Nw (.methodLinkNest "KiteBarges$Fleet" 59 yX6_isKnot "KiteBarges") U ∧ va_Nw (.methodLinkNest "KiteBarges$Planner" 107 yX6_isKnot "KiteBarges") U
theorem KK.go {g : Gp} {s U : State} (h : KK g s) (hW : s.WarmedH U.vm) (hk : ∀ a : Nat, a < s.heap.size → ¬ AA g a → U.heap[a]? = s.heap[a]?) : KK g U := by
  obtain ⟨h1, ⟨h2, h3, h4, h5⟩, ⟨h6, h7, h8⟩, h9, h10⟩ := h
  exact ⟨va_K.moved hW.alike h1, ⟨va_Z.moved hW.alike (h2.kept hk), va_Z.moved hW.alike (h3.kept hk), va_T.moved hW.alike (h4.kept hk), va_T.moved hW.alike (h5.kept hk)⟩, ⟨vk_S.moved hW.alike (h6.kept hk), fun i hi => vk_R.warm hW (h7 i hi), va_Z.moved hW.alike (h8.kept hk)⟩, va_Nw.warmM hW h9, va_Nw.warmM hW h10⟩
theorem KK.same {g : Gp} {u U : State} (h : KK g u) (hv : U.vm = u.vm) (hh : U.heap = u.heap) : KK g U := by
  obtain ⟨h1, ⟨h2, h3, h4, h5⟩, ⟨h6, h7, h8⟩, h9, h10⟩ := h
  have ha : u.vm.Alike U.vm := by rw [hv]; exact Vm.Alike.refl _
  have hk : ∀ a : Nat, a < u.heap.size → ¬ AA g a → U.heap[a]? = u.heap[a]? := fun a _ _ => by rw [hh]
  exact ⟨va_K.moved ha h1, ⟨va_Z.moved ha (h2.kept hk), va_Z.moved ha (h3.kept hk), va_T.moved ha (h4.kept hk), va_T.moved ha (h5.kept hk)⟩, ⟨vk_S.moved ha (h6.kept hk), fun i hi => vk_R.same hv (h7 i hi), va_Z.moved ha (h8.kept hk)⟩, va_Nw.same rfl hv.symm h9, va_Nw.same rfl hv.symm h10⟩
/-- what holds through a method's whole run -/
def Ok (g : Gp) (x : Cx) (cc : ByteArray) (own : String) (nL fr lo : Nat) : Prop :=
  x.p.tables.exec = Jvm.exec ∧ x.c.code = cc ∧ x.c.maxLocals = nL ∧ x.s.vm.findClass own = some x.m.cls ∧ (∀ w ∈ gtb, w.before x.args x.s = true) ∧ KK g x.s ∧ fr ≤ x.R.frames ∧ lo ≤ x.R.locals ∧ x.nc ≤ x.R.cells ∧ x.ns ≤ x.R.slots
/-- the judgement: from here the machine comes to its end -/
def GJ (g : Gp) (x : Cx) (nL pc : Nat) (lv : List (Nat × Value)) (st : List Value) (ad : Nat → Nat) (σ : Sg) : Prop :=
  ∀ (H : Heap) (locs : List Loc) (ls : Array Slot), Wd g ad σ H → va_S (AA g) x.s.heap H locs → lv_has ls nL lv → W x.p x.l x.e x.R x.s x.m x.args x.below x.meth x.c H locs x.nc x.ns x.Q (F0 x.m pc ls st)
def QQ (g : Gp) (post : Option Value → (Nat → Nat) → Sg → Prop) : Array Value → State → Outcome → State → Prop := fun _ st oc t => ∃ (r : Option Value) (ad : Nat → Nat) (σ : Sg), oc = .returned r ∧ post r ad σ ∧ Wd g ad σ t.heap ∧ va_F (AA g) st t
def Rt (g : Gp) (x : Cx) (ret : Option FieldType) (post : Option Value → (Nat → Nat) → Sg → Prop) : Prop := x.Q = MQ x.below (QQ g post) x.args x.s x.nc x.ns (AA g) ∧ x.meth.sig.returnType = ret ∧ x.meth.locks = false
/-- a method's contract: its start, its end -/
def Con (g : Gp) (l : Launch) (y : MethodName) (cc : ByteArray) (maxL : Nat) (ret : Option FieldType) (fr lo : Nat) (av : List Value) (ad : Nat → Nat) (σ : Sg) (post : Option Value → (Nat → Nat) → Sg → Prop) : Prop :=
  Met l y (wm y cc maxL ret) { frames := fr, cells := 0, slots := 0, locals := lo } (va_Pc av (fun U => KK g U ∧ Wd g ad σ U.heap)) (QQ g post) 0 0 (AA g)
/-- one value, nothing changed -/
def pu (v : Value) (ad : Nat → Nat) (σ : Sg) : Option Value → (Nat → Nat) → Sg → Prop := fun r a2 s2 => r = some v ∧ a2 = ad ∧ s2 = σ
theorem con_mk {g : Gp} {l : Launch} {y : MethodName} {cc : ByteArray} {maxL : Nat} {ret : Option FieldType} {fr lo : Nat} {av : List Value} {ad : Nat → Nat} {σ : Sg} {post : Option Value → (Nat → Nat) → Sg → Prop} (hy : plainName y.cls = true) (hn : (lg_sl av).length ≤ maxL)
    (h : ∀ x : Cx, x.l = l → Ok g x cc y.cls maxL fr lo → Rt g x ret post → GJ g x maxL 0 (lv_args 0 av) [] ad σ) : Con g l y cc maxL ret fr lo av ad σ post := by
  refine Met.ofW (cc := cc) (maxL := maxL) (ret := ret) hy rfl ?_
  intro p e s m args below meth c s₁ B hml hv
  obtain ⟨rfl, hK, hW⟩ := hv
  have hts : ∀ w ∈ gtb, w.before av.toArray s = true := fun w hw => atoms_spec (ws := wm y cc maxL ret) B.pre w (List.mem_cons_of_mem _ hw)
  have hown : s.vm.findClass y.cls = some m.cls := findClass_of_methodNamed B.named
  have hl := lv_entry av (n := maxL) hn
  rw [lg_entry_eq]
  exact h (p, l, e, (headSpec (wm y cc maxL ret) { frames := fr, cells := 0, slots := 0, locals := lo }).room, s, m, av.toArray, below, meth, c, 0, 0, MQ below (QQ g post) av.toArray s 0 0 (AA g)) rfl ⟨B.exec, B.bytes, hml, hown, hts, hK, Nat.le_refl _, Nat.le_refl _, Nat.le_refl _, Nat.le_refl _⟩ ⟨rfl, B.returns, B.notSynchronized⟩ s.heap [] _ hW va_S.rf hl
def lvg (lv : List (Nat × Value)) (i : Nat) : Option Value := match lv with
  | [] => none
  | q :: t => if q.1 = i then some q.2 else lvg t i
theorem lvg_at {ls : Array Slot} {nL : Nat} : ∀ {lv : List (Nat × Value)} {i : Nat} {v : Value}, lv_has ls nL lv → lvg lv i = some v → ls[i]? = some (.val v)
  | [], i, v, _, h => by cases h
  | q :: t, i, v, hl, h => by
    unfold lvg at h
    by_cases hq : q.1 = i
    · rw [if_pos hq] at h
      cases h
      rw [← hq]
      exact hl.2.2 q List.mem_cons_self
    · rw [if_neg hq] at h
      exact lvg_at ⟨hl.1, hl.2.1, fun z hz => hl.2.2 z (List.mem_cons_of_mem _ hz)⟩ h
/-- fewer locals -/
theorem r_sub {g : Gp} {x : Cx} {nL pc : Nat} {lv lv' : List (Nat × Value)} {st : List Value} {ad : Nat → Nat} {σ : Sg} (hs : ∀ q ∈ lv', q ∈ lv) (k : GJ g x nL pc lv' st ad σ) : GJ g x nL pc lv st ad σ :=
  fun H locs ls hW hS hl => k H locs ls hW hS ⟨hl.1, hl.2.1, fun q hq => hl.2.2 q (hs q hq)⟩
section RULES
variable {g : Gp} {x : Cx} {cc : ByteArray} {own : String} {nL fr lo pc : Nat} {lv lv' : List (Nat × Value)} {rest : List Value} {ad : Nat → Nat} {σ : Sg}
theorem r_topi {a b : Int32} (h : a = b) (k : GJ g x nL pc lv (.int b :: rest) ad σ) : GJ g x nL pc lv (.int a :: rest) ad σ := by rw [h]; exact k
theorem r_topl {a b : Int64} (h : a = b) (k : GJ g x nL pc lv (.long b :: rest) ad σ) : GJ g x nL pc lv (.long a :: rest) ad σ := by rw [h]; exact k
theorem r_top2 {a b : Int32} {v : Value} (h : a = b) (k : GJ g x nL pc lv (v :: .int b :: rest) ad σ) : GJ g x nL pc lv (v :: .int a :: rest) ad σ := by rw [h]; exact k
theorem r_top2l {a b : Int64} {v : Value} (h : a = b) (k : GJ g x nL pc lv (v :: .long b :: rest) ad σ) : GJ g x nL pc lv (v :: .long a :: rest) ad σ := by rw [h]; exact k
theorem r_st {st st' : List Value} (h : st = st') (k : GJ g x nL pc lv st' ad σ) : GJ g x nL pc lv st ad σ := by rw [h]; exact k
theorem r_lv {st : List Value} (h : lv = lv') (k : GJ g x nL pc lv' st ad σ) : GJ g x nL pc lv st ad σ := by rw [h]; exact k
theorem r_w {st : List Value} {σ2 : Sg} (h : σ = σ2) (k : GJ g x nL pc lv st ad σ2) : GJ g x nL pc lv st ad σ := by rw [h]; exact k
theorem r_iconst (K : Ok g x cc own nL fr lo) {n : Int} (v : Int32) (hv : Int32.ofInt n = v) (d : decode cc pc = .ok (.iconst n, 1)) (k : GJ g x nL (pc + 1) lv (.int v :: rest) ad σ) : GJ g x nL pc lv (rest) ad σ :=
  fun H locs ls hW hS hl => lv_iconst K.1 K.2.1 d hv (k H locs ls hW hS hl)
theorem r_bipush (K : Ok g x cc own nL fr lo) {n : Int} (v : Int32) (hv : (Int8.ofInt n).toInt32 = v) (d : decode cc pc = .ok (.bipush n, 2)) (k : GJ g x nL (pc + 2) lv (.int v :: rest) ad σ) : GJ g x nL pc lv (rest) ad σ :=
  fun H locs ls hW hS hl => lv_bipush K.1 K.2.1 d hv (k H locs ls hW hS hl)
theorem r_sipush (K : Ok g x cc own nL fr lo) {n : Int} (v : Int32) (hv : (Int16.ofInt n).toInt32 = v) (d : decode cc pc = .ok (.sipush n, 3)) (k : GJ g x nL (pc + 3) lv (.int v :: rest) ad σ) : GJ g x nL pc lv (rest) ad σ :=
  fun H locs ls hW hS hl => lv_sipush K.1 K.2.1 d hv (k H locs ls hW hS hl)
theorem r_lconst (K : Ok g x cc own nL fr lo) {n : Fin 2} (v : Int64) (hv : Int64.ofNat (n : Nat) = v) (d : decode cc pc = .ok (.lconst n, 1)) (k : GJ g x nL (pc + 1) lv (.long v :: rest) ad σ) : GJ g x nL pc lv (rest) ad σ :=
  fun H locs ls hW hS hl => lv_lconst K.1 K.2.1 d hv (k H locs ls hW hS hl)
theorem r_ldc (K : Ok g x cc own nL fr lo) {index : Nat} {v : Int32} (hc : Cond.constant own index v ∈ gtb) (d : decode cc pc = .ok (.ldc index, 2)) (k : GJ g x nL (pc + 2) lv (.int v :: rest) ad σ) : GJ g x nL pc lv (rest) ad σ :=
  fun H locs ls hW hS hl => lv_ldc K.1 K.2.1 K.2.2.2.1 (K.2.2.2.2.1 _ hc) d (k H locs ls hW hS hl)
theorem r_ldc2 (K : Ok g x cc own nL fr lo) {index : Nat} {v : Int64} (hc : Cond.constantLong own index v ∈ gtb) (d : decode cc pc = .ok (.ldc2_w index, 3)) (k : GJ g x nL (pc + 3) lv (.long v :: rest) ad σ) : GJ g x nL pc lv (rest) ad σ :=
  fun H locs ls hW hS hl => lv_ldc2 K.1 K.2.1 K.2.2.2.1 (K.2.2.2.2.1 _ hc) d (k H locs ls hW hS hl)
theorem r_iload_n (K : Ok g x cc own nL fr lo) {q : Fin 4} {v : Int32} (i : Nat) (hi : (q : Nat) = i) (h : lvg lv i = some (.int v)) (d : decode cc pc = .ok (.iload_n q, 1)) (k : GJ g x nL (pc + 1) lv (.int v :: rest) ad σ) : GJ g x nL pc lv (rest) ad σ :=
  fun H locs ls hW hS hl => lv_iload_n K.1 K.2.1 d hi (lvg_at hl h) (k H locs ls hW hS hl)
theorem r_iload (K : Ok g x cc own nL fr lo) {i : Nat} {v : Int32} (h : lvg lv i = some (.int v)) (d : decode cc pc = .ok (.iload i, 2)) (k : GJ g x nL (pc + 2) lv (.int v :: rest) ad σ) : GJ g x nL pc lv (rest) ad σ :=
  fun H locs ls hW hS hl => lv_iload K.1 K.2.1 d (lvg_at hl h) (k H locs ls hW hS hl)
theorem r_lload_n (K : Ok g x cc own nL fr lo) {q : Fin 4} {v : Int64} (i : Nat) (hi : (q : Nat) = i) (h : lvg lv i = some (.long v)) (d : decode cc pc = .ok (.lload_n q, 1)) (k : GJ g x nL (pc + 1) lv (.long v :: rest) ad σ) : GJ g x nL pc lv (rest) ad σ :=
  fun H locs ls hW hS hl => lv_lload_n K.1 K.2.1 d hi (lvg_at hl h) (k H locs ls hW hS hl)
theorem r_lload (K : Ok g x cc own nL fr lo) {i : Nat} {v : Int64} (h : lvg lv i = some (.long v)) (d : decode cc pc = .ok (.lload i, 2)) (k : GJ g x nL (pc + 2) lv (.long v :: rest) ad σ) : GJ g x nL pc lv (rest) ad σ :=
  fun H locs ls hW hS hl => lv_lload K.1 K.2.1 d (lvg_at hl h) (k H locs ls hW hS hl)
theorem r_aload_n (K : Ok g x cc own nL fr lo) {q : Fin 4} {v : Nat} (i : Nat) (hi : (q : Nat) = i) (h : lvg lv i = some (.ref v)) (d : decode cc pc = .ok (.aload_n q, 1)) (k : GJ g x nL (pc + 1) lv (.ref v :: rest) ad σ) : GJ g x nL pc lv (rest) ad σ :=
  fun H locs ls hW hS hl => lv_aload_n K.1 K.2.1 d hi (lvg_at hl h) (k H locs ls hW hS hl)
theorem r_aload (K : Ok g x cc own nL fr lo) {i : Nat} {v : Nat} (h : lvg lv i = some (.ref v)) (d : decode cc pc = .ok (.aload i, 2)) (k : GJ g x nL (pc + 2) lv (.ref v :: rest) ad σ) : GJ g x nL pc lv (rest) ad σ :=
  fun H locs ls hW hS hl => lv_aload K.1 K.2.1 d (lvg_at hl h) (k H locs ls hW hS hl)
theorem r_istore_n (K : Ok g x cc own nL fr lo) {q : Fin 4} {v : Int32} (i : Nat) (hi : (q : Nat) = i) (hn : i < nL) (hl' : (i, Value.int v) :: lv.filter (fun q => !(q.1 == i) && !(q.1 + 1 == i && q.2.category == 2)) = lv') (d : decode cc pc = .ok (.istore_n q, 1)) (k : GJ g x nL (pc + 1) lv' rest ad σ) : GJ g x nL pc lv (.int v :: rest) ad σ :=
  fun H locs ls hW hS hl => lv_istore_n K.1 K.2.1 d hi hl hn hl' (fun ls2 h2 => k H locs ls2 hW hS h2)
theorem r_istore (K : Ok g x cc own nL fr lo) {v : Int32} {i : Nat} (hn : i < nL) (hl' : (i, Value.int v) :: lv.filter (fun q => !(q.1 == i) && !(q.1 + 1 == i && q.2.category == 2)) = lv') (d : decode cc pc = .ok (.istore i, 2)) (k : GJ g x nL (pc + 2) lv' rest ad σ) : GJ g x nL pc lv (.int v :: rest) ad σ :=
  fun H locs ls hW hS hl => lv_istore K.1 K.2.1 d hl hn hl' (fun ls2 h2 => k H locs ls2 hW hS h2)
theorem r_lstore_n (K : Ok g x cc own nL fr lo) {q : Fin 4} {v : Int64} (i : Nat) (hi : (q : Nat) = i) (hn : i + 1 < nL) (hl' : (i, Value.long v) :: lv.filter (fun q => !(q.1 == i) && (!(q.1 == i + 1) && !(q.1 + 1 == i && q.2.category == 2))) = lv') (d : decode cc pc = .ok (.lstore_n q, 1)) (k : GJ g x nL (pc + 1) lv' rest ad σ) : GJ g x nL pc lv (.long v :: rest) ad σ :=
  fun H locs ls hW hS hl => lv_lstore_n K.1 K.2.1 d hi hl hn hl' (fun ls2 h2 => k H locs ls2 hW hS h2)
theorem r_lstore (K : Ok g x cc own nL fr lo) {v : Int64} {i : Nat} (hn : i + 1 < nL) (hl' : (i, Value.long v) :: lv.filter (fun q => !(q.1 == i) && (!(q.1 == i + 1) && !(q.1 + 1 == i && q.2.category == 2))) = lv') (d : decode cc pc = .ok (.lstore i, 2)) (k : GJ g x nL (pc + 2) lv' rest ad σ) : GJ g x nL pc lv (.long v :: rest) ad σ :=
  fun H locs ls hW hS hl => lv_lstore K.1 K.2.1 d hl hn hl' (fun ls2 h2 => k H locs ls2 hW hS h2)
theorem r_astore_n (K : Ok g x cc own nL fr lo) {q : Fin 4} {v : Nat} (i : Nat) (hi : (q : Nat) = i) (hn : i < nL) (hl' : (i, Value.ref v) :: lv.filter (fun q => !(q.1 == i) && !(q.1 + 1 == i && q.2.category == 2)) = lv') (d : decode cc pc = .ok (.astore_n q, 1)) (k : GJ g x nL (pc + 1) lv' rest ad σ) : GJ g x nL pc lv (.ref v :: rest) ad σ :=
  fun H locs ls hW hS hl => lv_astore_n K.1 K.2.1 d hi hl hn hl' (fun ls2 h2 => k H locs ls2 hW hS h2)
theorem r_astore (K : Ok g x cc own nL fr lo) {v : Nat} {i : Nat} (hn : i < nL) (hl' : (i, Value.ref v) :: lv.filter (fun q => !(q.1 == i) && !(q.1 + 1 == i && q.2.category == 2)) = lv') (d : decode cc pc = .ok (.astore i, 2)) (k : GJ g x nL (pc + 2) lv' rest ad σ) : GJ g x nL pc lv (.ref v :: rest) ad σ :=
  fun H locs ls hW hS hl => lv_astore K.1 K.2.1 d hl hn hl' (fun ls2 h2 => k H locs ls2 hW hS h2)
theorem lvg_mem : ∀ {lv : List (Nat × Value)} {i : Nat} {v : Value}, lvg lv i = some v → ∃ k : Nat, lv[k]? = some (i, v)
  | [], i, v, h => by cases h
  | q :: t, i, v, h => by
    unfold lvg at h
    by_cases hq : q.1 = i
    · rw [if_pos hq] at h
      cases h
      exact ⟨0, by rw [← hq]; rfl⟩
    · rw [if_neg hq] at h
      obtain ⟨k, hk⟩ := lvg_mem h
      exact ⟨k + 1, hk⟩
theorem r_iinc (K : Ok g x cc own nL fr lo) {i : Nat} {n : Int} {v : Int32} (w : Int32) (h : lvg lv i = some (.int v)) (hv : v + Int32.ofInt n = w) (hn : i < nL) (hl' : (i, Value.int w) :: lv.filter (fun q => !(q.1 == i) && !(q.1 + 1 == i && q.2.category == 2)) = lv') (d : decode cc pc = .ok (.iinc i n, 3)) (k : GJ g x nL (pc + 3) lv' rest ad σ) : GJ g x nL pc lv rest ad σ := by
  intro H locs ls hW hS hl
  obtain ⟨j, hj⟩ := lvg_mem h
  exact lv_iinc K.1 K.2.1 d hl hj hv hn hl' (fun ls2 h2 => k H locs ls2 hW hS h2)
theorem r_iadd (K : Ok g x cc own nL fr lo) {a b : Int32} (d : decode cc pc = .ok (.iadd, 1)) (k : GJ g x nL (pc + 1) lv (.int (a + b) :: rest) ad σ) : GJ g x nL pc lv (.int b :: .int a :: rest) ad σ :=
  fun H locs ls hW hS hl => lv_iadd K.1 K.2.1 d (k H locs ls hW hS hl)
theorem r_isub (K : Ok g x cc own nL fr lo) {a b : Int32} (d : decode cc pc = .ok (.isub, 1)) (k : GJ g x nL (pc + 1) lv (.int (a - b) :: rest) ad σ) : GJ g x nL pc lv (.int b :: .int a :: rest) ad σ :=
  fun H locs ls hW hS hl => lv_isub K.1 K.2.1 d (k H locs ls hW hS hl)
theorem r_imul (K : Ok g x cc own nL fr lo) {a b : Int32} (d : decode cc pc = .ok (.imul, 1)) (k : GJ g x nL (pc + 1) lv (.int (a * b) :: rest) ad σ) : GJ g x nL pc lv (.int b :: .int a :: rest) ad σ :=
  fun H locs ls hW hS hl => lv_imul K.1 K.2.1 d (k H locs ls hW hS hl)
theorem r_iand (K : Ok g x cc own nL fr lo) {a b : Int32} (d : decode cc pc = .ok (.iand, 1)) (k : GJ g x nL (pc + 1) lv (.int (a &&& b) :: rest) ad σ) : GJ g x nL pc lv (.int b :: .int a :: rest) ad σ :=
  fun H locs ls hW hS hl => lv_iand K.1 K.2.1 d (k H locs ls hW hS hl)
theorem r_ior (K : Ok g x cc own nL fr lo) {a b : Int32} (d : decode cc pc = .ok (.ior, 1)) (k : GJ g x nL (pc + 1) lv (.int (a ||| b) :: rest) ad σ) : GJ g x nL pc lv (.int b :: .int a :: rest) ad σ :=
  fun H locs ls hW hS hl => lv_ior K.1 K.2.1 d (k H locs ls hW hS hl)
theorem r_ladd (K : Ok g x cc own nL fr lo) {a b : Int64} (d : decode cc pc = .ok (.ladd, 1)) (k : GJ g x nL (pc + 1) lv (.long (a + b) :: rest) ad σ) : GJ g x nL pc lv (.long b :: .long a :: rest) ad σ :=
  fun H locs ls hW hS hl => lv_ladd K.1 K.2.1 d (k H locs ls hW hS hl)
theorem r_lsub (K : Ok g x cc own nL fr lo) {a b : Int64} (d : decode cc pc = .ok (.lsub, 1)) (k : GJ g x nL (pc + 1) lv (.long (a - b) :: rest) ad σ) : GJ g x nL pc lv (.long b :: .long a :: rest) ad σ :=
  fun H locs ls hW hS hl => lv_lsub K.1 K.2.1 d (k H locs ls hW hS hl)
theorem r_lmul (K : Ok g x cc own nL fr lo) {a b : Int64} (d : decode cc pc = .ok (.lmul, 1)) (k : GJ g x nL (pc + 1) lv (.long (a * b) :: rest) ad σ) : GJ g x nL pc lv (.long b :: .long a :: rest) ad σ :=
  fun H locs ls hW hS hl => lv_lmul K.1 K.2.1 d (k H locs ls hW hS hl)
theorem r_land (K : Ok g x cc own nL fr lo) {a b : Int64} (d : decode cc pc = .ok (.land, 1)) (k : GJ g x nL (pc + 1) lv (.long (a &&& b) :: rest) ad σ) : GJ g x nL pc lv (.long b :: .long a :: rest) ad σ :=
  fun H locs ls hW hS hl => lv_land K.1 K.2.1 d (k H locs ls hW hS hl)
theorem r_lor (K : Ok g x cc own nL fr lo) {a b : Int64} (d : decode cc pc = .ok (.lor, 1)) (k : GJ g x nL (pc + 1) lv (.long (a ||| b) :: rest) ad σ) : GJ g x nL pc lv (.long b :: .long a :: rest) ad σ :=
  fun H locs ls hW hS hl => lv_lor K.1 K.2.1 d (k H locs ls hW hS hl)
theorem r_ixor (K : Ok g x cc own nL fr lo) {a b : Int32} (d : decode cc pc = .ok (.ixor, 1)) (k : GJ g x nL (pc + 1) lv (.int (a ^^^ b) :: rest) ad σ) : GJ g x nL pc lv (.int b :: .int a :: rest) ad σ :=
  fun H locs ls hW hS hl => lv_ixor K.1 K.2.1 d (k H locs ls hW hS hl)
theorem r_ineg (K : Ok g x cc own nL fr lo) {a : Int32} (d : decode cc pc = .ok (.ineg, 1)) (k : GJ g x nL (pc + 1) lv (.int (-a) :: rest) ad σ) : GJ g x nL pc lv (.int a :: rest) ad σ :=
  fun H locs ls hW hS hl => lv_ineg K.1 K.2.1 d (k H locs ls hW hS hl)
theorem r_ishl (K : Ok g x cc own nL fr lo) {a b : Int32} (d : decode cc pc = .ok (.ishl, 1)) (k : GJ g x nL (pc + 1) lv (.int (a <<< (b &&& 31)) :: rest) ad σ) : GJ g x nL pc lv (.int b :: .int a :: rest) ad σ :=
  fun H locs ls hW hS hl => lv_ishl K.1 K.2.1 d (k H locs ls hW hS hl)
theorem r_ishr (K : Ok g x cc own nL fr lo) {a b : Int32} (d : decode cc pc = .ok (.ishr, 1)) (k : GJ g x nL (pc + 1) lv (.int (a >>> (b &&& 31)) :: rest) ad σ) : GJ g x nL pc lv (.int b :: .int a :: rest) ad σ :=
  fun H locs ls hW hS hl => lv_ishr K.1 K.2.1 d (k H locs ls hW hS hl)
theorem r_idiv (K : Ok g x cc own nL fr lo) {a b : Int32} (hne : ¬ b = 0) (d : decode cc pc = .ok (.idiv, 1)) (k : GJ g x nL (pc + 1) lv (.int (a / b) :: rest) ad σ) : GJ g x nL pc lv (.int b :: .int a :: rest) ad σ :=
  fun H locs ls hW hS hl => lv_idiv K.1 K.2.1 d hne (k H locs ls hW hS hl)
theorem r_irem (K : Ok g x cc own nL fr lo) {a b : Int32} (hne : ¬ b = 0) (d : decode cc pc = .ok (.irem, 1)) (k : GJ g x nL (pc + 1) lv (.int (a - a / b * b) :: rest) ad σ) : GJ g x nL pc lv (.int b :: .int a :: rest) ad σ :=
  fun H locs ls hW hS hl => lv_irem K.1 K.2.1 d hne (k H locs ls hW hS hl)
theorem r_ldiv (K : Ok g x cc own nL fr lo) {a b : Int64} (hne : ¬ b = 0) (d : decode cc pc = .ok (.ldiv, 1)) (k : GJ g x nL (pc + 1) lv (.long (a / b) :: rest) ad σ) : GJ g x nL pc lv (.long b :: .long a :: rest) ad σ :=
  fun H locs ls hW hS hl => lv_ldiv K.1 K.2.1 d hne (k H locs ls hW hS hl)
theorem r_lrem (K : Ok g x cc own nL fr lo) {a b : Int64} (hne : ¬ b = 0) (d : decode cc pc = .ok (.lrem, 1)) (k : GJ g x nL (pc + 1) lv (.long (a - a / b * b) :: rest) ad σ) : GJ g x nL pc lv (.long b :: .long a :: rest) ad σ :=
  fun H locs ls hW hS hl => lv_lrem K.1 K.2.1 d hne (k H locs ls hW hS hl)
theorem r_i2l (K : Ok g x cc own nL fr lo) {a : Int32} (d : decode cc pc = .ok (.i2l, 1)) (k : GJ g x nL (pc + 1) lv (.long a.toInt64 :: rest) ad σ) : GJ g x nL pc lv (.int a :: rest) ad σ :=
  fun H locs ls hW hS hl => lv_i2l K.1 K.2.1 d rfl (k H locs ls hW hS hl)
theorem r_l2i (K : Ok g x cc own nL fr lo) {a : Int64} (d : decode cc pc = .ok (.l2i, 1)) (k : GJ g x nL (pc + 1) lv (.int a.toInt32 :: rest) ad σ) : GJ g x nL pc lv (.long a :: rest) ad σ :=
  fun H locs ls hW hS hl => lv_l2i K.1 K.2.1 d rfl (k H locs ls hW hS hl)
theorem r_i2c (K : Ok g x cc own nL fr lo) {a : Int32} (d : decode cc pc = .ok (.i2c, 1)) (k : GJ g x nL (pc + 1) lv (.int (a.toUInt32 % 65536).toInt32 :: rest) ad σ) : GJ g x nL pc lv (.int a :: rest) ad σ :=
  fun H locs ls hW hS hl => lv_i2c K.1 K.2.1 d rfl (k H locs ls hW hS hl)
theorem r_lshr (K : Ok g x cc own nL fr lo) {a : Int64} {b : Int32} (d : decode cc pc = .ok (.lshr, 1)) (k : GJ g x nL (pc + 1) lv (.long (a >>> (b.toInt64 &&& 63)) :: rest) ad σ) : GJ g x nL pc lv (.int b :: .long a :: rest) ad σ :=
  fun H locs ls hW hS hl => lv_lshr K.1 K.2.1 d rfl (k H locs ls hW hS hl)
theorem r_lshl (K : Ok g x cc own nL fr lo) {a : Int64} {b : Int32} (d : decode cc pc = .ok (.lshl, 1)) (k : GJ g x nL (pc + 1) lv (.long (a <<< (b.toInt64 &&& 63)) :: rest) ad σ) : GJ g x nL pc lv (.int b :: .long a :: rest) ad σ :=
  fun H locs ls hW hS hl => lv_lshl K.1 K.2.1 d rfl (k H locs ls hW hS hl)
theorem r_dup (K : Ok g x cc own nL fr lo) {v : Value} (hv : v.category = 1) (d : decode cc pc = .ok (.dup, 1)) (k : GJ g x nL (pc + 1) lv (v :: v :: rest) ad σ) : GJ g x nL pc lv (v :: rest) ad σ :=
  fun H locs ls hW hS hl => lv_dup K.1 K.2.1 d hv (k H locs ls hW hS hl)
theorem r_pop (K : Ok g x cc own nL fr lo) {v : Value} (hv : v.category = 1) (d : decode cc pc = .ok (.pop, 1)) (k : GJ g x nL (pc + 1) lv (rest) ad σ) : GJ g x nL pc lv (v :: rest) ad σ :=
  fun H locs ls hW hS hl => lv_pop K.1 K.2.1 d hv (k H locs ls hW hS hl)
theorem r_dup_x1 (K : Ok g x cc own nL fr lo) {v w : Value} (hv : v.category = 1) (hw : w.category = 1) (d : decode cc pc = .ok (.dup_x1, 1)) (k : GJ g x nL (pc + 1) lv (v :: w :: v :: rest) ad σ) : GJ g x nL pc lv (v :: w :: rest) ad σ :=
  fun H locs ls hW hS hl => lv_dup_x1 K.1 K.2.1 d hv hw (k H locs ls hW hS hl)
theorem r_dup2_11 (K : Ok g x cc own nL fr lo) {v w : Value} (hv : v.category = 1) (hw : w.category = 1) (d : decode cc pc = .ok (.dup2, 1)) (k : GJ g x nL (pc + 1) lv (v :: w :: v :: w :: rest) ad σ) : GJ g x nL pc lv (v :: w :: rest) ad σ :=
  fun H locs ls hW hS hl => lv_dup2_11 K.1 K.2.1 d hv hw (k H locs ls hW hS hl)
theorem r_goto (K : Ok g x cc own nL fr lo) {off : Int} (tgt : Nat) (d : decode cc pc = .ok (.goto off, 3)) (ht : (pc : Int) + off = (tgt : Int)) (k : GJ g x nL tgt lv rest ad σ) : GJ g x nL pc lv rest ad σ :=
  fun H locs ls hW hS hl => lv_goto K.1 K.2.1 d ht (k H locs ls hW hS hl)
theorem r_icmp_eq (K : Ok g x cc own nL fr lo) {a b : Int32} {off : Int} (tgt : Nat) (d : decode cc pc = .ok (.if_icmp .eq off, 3)) (ht : (pc : Int) + off = (tgt : Int)) (kt : a = b → GJ g x nL tgt lv rest ad σ) (kf : ¬ (a = b) → GJ g x nL (pc + 3) lv rest ad σ) : GJ g x nL pc lv (.int b :: .int a :: rest) ad σ :=
  fun H locs ls hW hS hl => lv_icmp_eq K.1 K.2.1 d ht (fun h => kt h H locs ls hW hS hl) (fun h => kf h H locs ls hW hS hl)
theorem r_if_eq (K : Ok g x cc own nL fr lo) {a : Int32} {off : Int} (tgt : Nat) (d : decode cc pc = .ok (.ifCond .eq off, 3)) (ht : (pc : Int) + off = (tgt : Int)) (kt : a = 0 → GJ g x nL tgt lv rest ad σ) (kf : ¬ (a = 0) → GJ g x nL (pc + 3) lv rest ad σ) : GJ g x nL pc lv (.int a :: rest) ad σ :=
  fun H locs ls hW hS hl => lv_if_eq K.1 K.2.1 d ht (fun h => kt h H locs ls hW hS hl) (fun h => kf h H locs ls hW hS hl)
theorem n_icmp_eq (K : Ok g x cc own nL fr lo) {a b : Nat} {off : Int} (tgt : Nat) (h1 : a < 2 ^ 31) (h2 : b < 2 ^ 31) (d : decode cc pc = .ok (.if_icmp .eq off, 3)) (ht : (pc : Int) + off = (tgt : Int)) (kt : a = b → GJ g x nL tgt lv rest ad σ) (kf : a ≠ b → GJ g x nL (pc + 3) lv rest ad σ) : GJ g x nL pc lv (.int (nI b) :: .int (nI a) :: rest) ad σ :=
  r_icmp_eq K tgt d ht (fun h => kt ((nI_eq h1 h2).mp h)) (fun h => kf (fun z => h (by rw [z])))
theorem r_icmp_ne (K : Ok g x cc own nL fr lo) {a b : Int32} {off : Int} (tgt : Nat) (d : decode cc pc = .ok (.if_icmp .ne off, 3)) (ht : (pc : Int) + off = (tgt : Int)) (kt : a ≠ b → GJ g x nL tgt lv rest ad σ) (kf : a = b → GJ g x nL (pc + 3) lv rest ad σ) : GJ g x nL pc lv (.int b :: .int a :: rest) ad σ :=
  fun H locs ls hW hS hl => lv_icmp_ne K.1 K.2.1 d ht (fun h => kt h H locs ls hW hS hl) (fun h => kf h H locs ls hW hS hl)
theorem r_if_ne (K : Ok g x cc own nL fr lo) {a : Int32} {off : Int} (tgt : Nat) (d : decode cc pc = .ok (.ifCond .ne off, 3)) (ht : (pc : Int) + off = (tgt : Int)) (kt : a ≠ 0 → GJ g x nL tgt lv rest ad σ) (kf : a = 0 → GJ g x nL (pc + 3) lv rest ad σ) : GJ g x nL pc lv (.int a :: rest) ad σ :=
  fun H locs ls hW hS hl => lv_if_ne K.1 K.2.1 d ht (fun h => kt h H locs ls hW hS hl) (fun h => kf h H locs ls hW hS hl)
theorem n_icmp_ne (K : Ok g x cc own nL fr lo) {a b : Nat} {off : Int} (tgt : Nat) (h1 : a < 2 ^ 31) (h2 : b < 2 ^ 31) (d : decode cc pc = .ok (.if_icmp .ne off, 3)) (ht : (pc : Int) + off = (tgt : Int)) (kt : a ≠ b → GJ g x nL tgt lv rest ad σ) (kf : a = b → GJ g x nL (pc + 3) lv rest ad σ) : GJ g x nL pc lv (.int (nI b) :: .int (nI a) :: rest) ad σ :=
  r_icmp_ne K tgt d ht (fun h => kt (fun z => h (by rw [z]))) (fun h => kf ((nI_eq h1 h2).mp h))
theorem r_icmp_lt (K : Ok g x cc own nL fr lo) {a b : Int32} {off : Int} (tgt : Nat) (d : decode cc pc = .ok (.if_icmp .lt off, 3)) (ht : (pc : Int) + off = (tgt : Int)) (kt : a < b → GJ g x nL tgt lv rest ad σ) (kf : ¬ (a < b) → GJ g x nL (pc + 3) lv rest ad σ) : GJ g x nL pc lv (.int b :: .int a :: rest) ad σ :=
  fun H locs ls hW hS hl => lv_icmp_lt K.1 K.2.1 d ht (fun h => kt h H locs ls hW hS hl) (fun h => kf h H locs ls hW hS hl)
theorem r_if_lt (K : Ok g x cc own nL fr lo) {a : Int32} {off : Int} (tgt : Nat) (d : decode cc pc = .ok (.ifCond .lt off, 3)) (ht : (pc : Int) + off = (tgt : Int)) (kt : a < 0 → GJ g x nL tgt lv rest ad σ) (kf : ¬ (a < 0) → GJ g x nL (pc + 3) lv rest ad σ) : GJ g x nL pc lv (.int a :: rest) ad σ :=
  fun H locs ls hW hS hl => lv_if_lt K.1 K.2.1 d ht (fun h => kt h H locs ls hW hS hl) (fun h => kf h H locs ls hW hS hl)
theorem n_icmp_lt (K : Ok g x cc own nL fr lo) {a b : Nat} {off : Int} (tgt : Nat) (h1 : a < 2 ^ 31) (h2 : b < 2 ^ 31) (d : decode cc pc = .ok (.if_icmp .lt off, 3)) (ht : (pc : Int) + off = (tgt : Int)) (kt : a < b → GJ g x nL tgt lv rest ad σ) (kf : b ≤ a → GJ g x nL (pc + 3) lv rest ad σ) : GJ g x nL pc lv (.int (nI b) :: .int (nI a) :: rest) ad σ :=
  r_icmp_lt K tgt d ht (fun h => kt ((nI_ltI h1 h2).mp h)) (fun h => kf (Nat.not_lt.mp (fun z => h ((nI_ltI h1 h2).mpr z))))
theorem r_icmp_ge (K : Ok g x cc own nL fr lo) {a b : Int32} {off : Int} (tgt : Nat) (d : decode cc pc = .ok (.if_icmp .ge off, 3)) (ht : (pc : Int) + off = (tgt : Int)) (kt : b ≤ a → GJ g x nL tgt lv rest ad σ) (kf : ¬ (b ≤ a) → GJ g x nL (pc + 3) lv rest ad σ) : GJ g x nL pc lv (.int b :: .int a :: rest) ad σ :=
  fun H locs ls hW hS hl => lv_icmp_ge K.1 K.2.1 d ht (fun h => kt h H locs ls hW hS hl) (fun h => kf h H locs ls hW hS hl)
theorem r_if_ge (K : Ok g x cc own nL fr lo) {a : Int32} {off : Int} (tgt : Nat) (d : decode cc pc = .ok (.ifCond .ge off, 3)) (ht : (pc : Int) + off = (tgt : Int)) (kt : 0 ≤ a → GJ g x nL tgt lv rest ad σ) (kf : ¬ (0 ≤ a) → GJ g x nL (pc + 3) lv rest ad σ) : GJ g x nL pc lv (.int a :: rest) ad σ :=
  fun H locs ls hW hS hl => lv_if_ge K.1 K.2.1 d ht (fun h => kt h H locs ls hW hS hl) (fun h => kf h H locs ls hW hS hl)
theorem n_icmp_ge (K : Ok g x cc own nL fr lo) {a b : Nat} {off : Int} (tgt : Nat) (h1 : a < 2 ^ 31) (h2 : b < 2 ^ 31) (d : decode cc pc = .ok (.if_icmp .ge off, 3)) (ht : (pc : Int) + off = (tgt : Int)) (kt : b ≤ a → GJ g x nL tgt lv rest ad σ) (kf : a < b → GJ g x nL (pc + 3) lv rest ad σ) : GJ g x nL pc lv (.int (nI b) :: .int (nI a) :: rest) ad σ :=
  r_icmp_ge K tgt d ht (fun h => kt ((nI_leI h2 h1).mp h)) (fun h => kf (Nat.not_le.mp (fun z => h ((nI_leI h2 h1).mpr z))))
theorem r_icmp_gt (K : Ok g x cc own nL fr lo) {a b : Int32} {off : Int} (tgt : Nat) (d : decode cc pc = .ok (.if_icmp .gt off, 3)) (ht : (pc : Int) + off = (tgt : Int)) (kt : b < a → GJ g x nL tgt lv rest ad σ) (kf : ¬ (b < a) → GJ g x nL (pc + 3) lv rest ad σ) : GJ g x nL pc lv (.int b :: .int a :: rest) ad σ :=
  fun H locs ls hW hS hl => lv_icmp_gt K.1 K.2.1 d ht (fun h => kt h H locs ls hW hS hl) (fun h => kf h H locs ls hW hS hl)
theorem r_if_gt (K : Ok g x cc own nL fr lo) {a : Int32} {off : Int} (tgt : Nat) (d : decode cc pc = .ok (.ifCond .gt off, 3)) (ht : (pc : Int) + off = (tgt : Int)) (kt : 0 < a → GJ g x nL tgt lv rest ad σ) (kf : ¬ (0 < a) → GJ g x nL (pc + 3) lv rest ad σ) : GJ g x nL pc lv (.int a :: rest) ad σ :=
  fun H locs ls hW hS hl => lv_if_gt K.1 K.2.1 d ht (fun h => kt h H locs ls hW hS hl) (fun h => kf h H locs ls hW hS hl)
theorem n_icmp_gt (K : Ok g x cc own nL fr lo) {a b : Nat} {off : Int} (tgt : Nat) (h1 : a < 2 ^ 31) (h2 : b < 2 ^ 31) (d : decode cc pc = .ok (.if_icmp .gt off, 3)) (ht : (pc : Int) + off = (tgt : Int)) (kt : b < a → GJ g x nL tgt lv rest ad σ) (kf : a ≤ b → GJ g x nL (pc + 3) lv rest ad σ) : GJ g x nL pc lv (.int (nI b) :: .int (nI a) :: rest) ad σ :=
  r_icmp_gt K tgt d ht (fun h => kt ((nI_ltI h2 h1).mp h)) (fun h => kf (Nat.not_lt.mp (fun z => h ((nI_ltI h2 h1).mpr z))))
theorem r_icmp_le (K : Ok g x cc own nL fr lo) {a b : Int32} {off : Int} (tgt : Nat) (d : decode cc pc = .ok (.if_icmp .le off, 3)) (ht : (pc : Int) + off = (tgt : Int)) (kt : a ≤ b → GJ g x nL tgt lv rest ad σ) (kf : ¬ (a ≤ b) → GJ g x nL (pc + 3) lv rest ad σ) : GJ g x nL pc lv (.int b :: .int a :: rest) ad σ :=
  fun H locs ls hW hS hl => lv_icmp_le K.1 K.2.1 d ht (fun h => kt h H locs ls hW hS hl) (fun h => kf h H locs ls hW hS hl)
theorem r_if_le (K : Ok g x cc own nL fr lo) {a : Int32} {off : Int} (tgt : Nat) (d : decode cc pc = .ok (.ifCond .le off, 3)) (ht : (pc : Int) + off = (tgt : Int)) (kt : a ≤ 0 → GJ g x nL tgt lv rest ad σ) (kf : ¬ (a ≤ 0) → GJ g x nL (pc + 3) lv rest ad σ) : GJ g x nL pc lv (.int a :: rest) ad σ :=
  fun H locs ls hW hS hl => lv_if_le K.1 K.2.1 d ht (fun h => kt h H locs ls hW hS hl) (fun h => kf h H locs ls hW hS hl)
theorem n_icmp_le (K : Ok g x cc own nL fr lo) {a b : Nat} {off : Int} (tgt : Nat) (h1 : a < 2 ^ 31) (h2 : b < 2 ^ 31) (d : decode cc pc = .ok (.if_icmp .le off, 3)) (ht : (pc : Int) + off = (tgt : Int)) (kt : a ≤ b → GJ g x nL tgt lv rest ad σ) (kf : b < a → GJ g x nL (pc + 3) lv rest ad σ) : GJ g x nL pc lv (.int (nI b) :: .int (nI a) :: rest) ad σ :=
  r_icmp_le K tgt d ht (fun h => kt ((nI_leI h1 h2).mp h)) (fun h => kf (Nat.not_le.mp (fun z => h ((nI_leI h1 h2).mpr z))))
theorem n_if_eq (K : Ok g x cc own nL fr lo) {a : Nat} {off : Int} (tgt : Nat) (h1 : a < 2 ^ 31) (d : decode cc pc = .ok (.ifCond .eq off, 3)) (ht : (pc : Int) + off = (tgt : Int)) (kt : a = 0 → GJ g x nL tgt lv rest ad σ) (kf : a ≠ 0 → GJ g x nL (pc + 3) lv rest ad σ) : GJ g x nL pc lv (.int (nI a) :: rest) ad σ :=
  r_if_eq K tgt d ht (fun h => kt ((nI_eq h1 (by decide)).mp h)) (fun h => kf (fun z => h (by rw [z]; rfl)))
theorem n_if_ne (K : Ok g x cc own nL fr lo) {a : Nat} {off : Int} (tgt : Nat) (h1 : a < 2 ^ 31) (d : decode cc pc = .ok (.ifCond .ne off, 3)) (ht : (pc : Int) + off = (tgt : Int)) (kt : a ≠ 0 → GJ g x nL tgt lv rest ad σ) (kf : a = 0 → GJ g x nL (pc + 3) lv rest ad σ) : GJ g x nL pc lv (.int (nI a) :: rest) ad σ :=
  r_if_ne K tgt d ht (fun h => kt (fun z => h (by rw [z]; rfl))) (fun h => kf ((nI_eq h1 (by decide)).mp h))
def bI (b : Bool) : Int32 := if b then 1 else 0
theorem b_if_eq (K : Ok g x cc own nL fr lo) {b : Bool} {off : Int} (tgt : Nat) (d : decode cc pc = .ok (.ifCond .eq off, 3)) (ht : (pc : Int) + off = (tgt : Int)) (kt : b = false → GJ g x nL tgt lv rest ad σ) (kf : b = true → GJ g x nL (pc + 3) lv rest ad σ) : GJ g x nL pc lv (.int (bI b) :: rest) ad σ :=
  r_if_eq K tgt d ht (fun h => kt (by cases b; rfl; exact absurd h (by decide))) (fun h => kf (by cases b; exact absurd rfl h; rfl))
theorem b_if_ne (K : Ok g x cc own nL fr lo) {b : Bool} {off : Int} (tgt : Nat) (d : decode cc pc = .ok (.ifCond .ne off, 3)) (ht : (pc : Int) + off = (tgt : Int)) (kt : b = true → GJ g x nL tgt lv rest ad σ) (kf : b = false → GJ g x nL (pc + 3) lv rest ad σ) : GJ g x nL pc lv (.int (bI b) :: rest) ad σ :=
  r_if_ne K tgt d ht (fun h => kt (by cases b; exact absurd rfl h; rfl)) (fun h => kf (by cases b; rfl; exact absurd h (by decide)))
theorem r_tableIn (K : Ok g x cc own nL fr lo) {dflt lo' hi off : Int} {offs : Array Int} {len : Nat} {v : Int32} (tgt : Nat) (d : decode cc pc = .ok (.tableswitch dflt lo' hi offs, len)) (h1 : ¬ v.toInt < lo') (h2 : ¬ hi < v.toInt) (ho : offs[(v.toInt - lo').toNat]? = some off) (ht : (pc : Int) + off = (tgt : Int)) (k : GJ g x nL tgt lv rest ad σ) : GJ g x nL pc lv (.int v :: rest) ad σ :=
  fun H locs ls hW hS hl => lv_tableIn K.1 K.2.1 d h1 h2 ho ht (k H locs ls hW hS hl)
theorem r_tableOut (K : Ok g x cc own nL fr lo) {dflt lo' hi : Int} {offs : Array Int} {len : Nat} {v : Int32} (tgt : Nat) (d : decode cc pc = .ok (.tableswitch dflt lo' hi offs, len)) (h : v.toInt < lo' ∨ hi < v.toInt) (ht : (pc : Int) + dflt = (tgt : Int)) (k : GJ g x nL tgt lv rest ad σ) : GJ g x nL pc lv (.int v :: rest) ad σ :=
  fun H locs ls hW hS hl => lv_tableOut K.1 K.2.1 d h ht (k H locs ls hW hS hl)
theorem r_lcmp (K : Ok g x cc own nL fr lo) {a b : Int64} (d : decode cc pc = .ok (.lcmp, 1)) (hlt : a < b → GJ g x nL (pc + 1) lv (.int (-1) :: rest) ad σ) (heq : a = b → GJ g x nL (pc + 1) lv (.int 0 :: rest) ad σ) (hgt : b < a → GJ g x nL (pc + 1) lv (.int 1 :: rest) ad σ) : GJ g x nL pc lv (.long b :: .long a :: rest) ad σ := by
  intro H locs ls hW hS hl
  refine W.lcmp K.1 K.2.1 d ?_
  rcases Int.lt_trichotomy a.toInt b.toInt with h | h | h
  · have h0 : a < b := Int64.lt_iff_toInt_lt.mpr h
    have e1 : lg_cmp a b = -1 := by
      have n1 : ¬ b < a := fun z => by have := Int64.lt_iff_toInt_lt.mp z; omega
      have n2 : ¬ a = b := fun z => by rw [z] at h; omega
      simp [lg_cmp, n1, n2, h0]
    rw [e1]
    exact hlt h0 H locs ls hW hS hl
  · have h0 : a = b := Int64.toInt_inj.mp h
    have e1 : lg_cmp a b = 0 := by
      subst h0
      simp [lg_cmp]
    rw [e1]
    exact heq h0 H locs ls hW hS hl
  · have h0 : b < a := Int64.lt_iff_toInt_lt.mpr h
    have e1 : lg_cmp a b = 1 := by simp [lg_cmp, h0]
    rw [e1]
    exact hgt h0 H locs ls hW hS hl
end RULES
end
section
set_option maxRecDepth 40000 in
theorem ml_RL_9 : Cond.methodLink RL 9 yX6_init ∈ gtb := gmem 18 rfl rfl
set_option maxRecDepth 40000 in
theorem fl_RX4_9 : Cond.fieldLink RX4 9 "KiteBarges$River" "reaches" "I" ∈ gtb := gmem 30 rfl rfl
set_option maxRecDepth 40000 in
theorem fl_RX5_45 : Cond.fieldLink RX5 45 "KiteBarges$River" "reaches" "I" ∈ gtb := gmem 31 rfl rfl
set_option maxRecDepth 40000 in
theorem fl_RX3_100 : Cond.fieldLink RX3 100 "KiteBarges$River" "reaches" "I" ∈ gtb := gmem 32 rfl rfl
set_option maxRecDepth 40000 in
theorem fl_RX6_221 : Cond.fieldLink RX6 221 "KiteBarges$River" "reaches" "I" ∈ gtb := gmem 33 rfl rfl
set_option maxRecDepth 40000 in
theorem fl_RX4_15 : Cond.fieldLink RX4 15 "KiteBarges$River" "still" "I" ∈ gtb := gmem 34 rfl rfl
set_option maxRecDepth 40000 in
theorem fl_RX6_230 : Cond.fieldLink RX6 230 "KiteBarges$River" "still" "I" ∈ gtb := gmem 35 rfl rfl
set_option maxRecDepth 40000 in
theorem fl_RX4_18 : Cond.fieldLink RX4 18 "KiteBarges$River" "way" "[I" ∈ gtb := gmem 36 rfl rfl
set_option maxRecDepth 40000 in
theorem fl_RX6_83 : Cond.fieldLink RX6 83 "KiteBarges$River" "way" "[I" ∈ gtb := gmem 37 rfl rfl
set_option maxRecDepth 40000 in
theorem fl_RX4_22 : Cond.fieldLink RX4 22 "KiteBarges$River" "yardsLong" "[I" ∈ gtb := gmem 38 rfl rfl
set_option maxRecDepth 40000 in
theorem fl_RX6_87 : Cond.fieldLink RX6 87 "KiteBarges$River" "yardsLong" "[I" ∈ gtb := gmem 39 rfl rfl
set_option maxRecDepth 40000 in
theorem fl_RX4_25 : Cond.fieldLink RX4 25 "KiteBarges$River" "kind" "[I" ∈ gtb := gmem 40 rfl rfl
set_option maxRecDepth 40000 in
theorem fl_RX6_90 : Cond.fieldLink RX6 90 "KiteBarges$River" "kind" "[I" ∈ gtb := gmem 41 rfl rfl
set_option maxRecDepth 40000 in
theorem fl_RX4_28 : Cond.fieldLink RX4 28 "KiteBarges$River" "windWay" "[I" ∈ gtb := gmem 42 rfl rfl
set_option maxRecDepth 40000 in
theorem fl_RX6_99 : Cond.fieldLink RX6 99 "KiteBarges$River" "windWay" "[I" ∈ gtb := gmem 43 rfl rfl
set_option maxRecDepth 40000 in
theorem fl_RX4_31 : Cond.fieldLink RX4 31 "KiteBarges$River" "strength" "[I" ∈ gtb := gmem 44 rfl rfl
set_option maxRecDepth 40000 in
theorem fl_RX6_102 : Cond.fieldLink RX6 102 "KiteBarges$River" "strength" "[I" ∈ gtb := gmem 45 rfl rfl
set_option maxRecDepth 40000 in
theorem fl_RX4_34 : Cond.fieldLink RX4 34 "KiteBarges$River" "told" "[Z" ∈ gtb := gmem 46 rfl rfl
set_option maxRecDepth 40000 in
theorem fl_RX0_49 : Cond.fieldLink RX0 49 "KiteBarges$River" "told" "[Z" ∈ gtb := gmem 47 rfl rfl
set_option maxRecDepth 40000 in
theorem fl_RX6_163 : Cond.fieldLink RX6 163 "KiteBarges$River" "told" "[Z" ∈ gtb := gmem 48 rfl rfl
set_option maxRecDepth 40000 in
theorem fl_RX4_38 : Cond.fieldLink RX4 38 "KiteBarges$River" "weight" "[I" ∈ gtb := gmem 49 rfl rfl
set_option maxRecDepth 40000 in
theorem fl_RX6_108 : Cond.fieldLink RX6 108 "KiteBarges$River" "weight" "[I" ∈ gtb := gmem 50 rfl rfl
set_option maxRecDepth 40000 in
theorem fl_RX4_41 : Cond.fieldLink RX4 41 "KiteBarges$River" "cordLong" "[I" ∈ gtb := gmem 51 rfl rfl
set_option maxRecDepth 40000 in
theorem fl_RX4_44 : Cond.fieldLink RX4 44 "KiteBarges$River" "kite" "[I" ∈ gtb := gmem 52 rfl rfl
set_option maxRecDepth 40000 in
theorem fl_RX6_115 : Cond.fieldLink RX6 115 "KiteBarges$River" "kite" "[I" ∈ gtb := gmem 53 rfl rfl
set_option maxRecDepth 40000 in
theorem fl_RX4_47 : Cond.fieldLink RX4 47 "KiteBarges$River" "freight" "[I" ∈ gtb := gmem 54 rfl rfl
set_option maxRecDepth 40000 in
theorem fl_RX6_118 : Cond.fieldLink RX6 118 "KiteBarges$River" "freight" "[I" ∈ gtb := gmem 55 rfl rfl
set_option maxRecDepth 40000 in
theorem fl_RX5_9 : Cond.fieldLink RX5 9 "KiteBarges$Text" "length" "I" ∈ gtb := gmem 89 rfl rfl
set_option maxRecDepth 40000 in
theorem fl_RX6_58 : Cond.fieldLink RX6 58 "KiteBarges$Text" "length" "I" ∈ gtb := gmem 90 rfl rfl
set_option maxRecDepth 40000 in
theorem fl_RX5_15 : Cond.fieldLink RX5 15 "KiteBarges$Text" "lines" "I" ∈ gtb := gmem 91 rfl rfl
set_option maxRecDepth 40000 in
theorem fl_RX6_76 : Cond.fieldLink RX6 76 "KiteBarges$Text" "lines" "I" ∈ gtb := gmem 92 rfl rfl
set_option maxRecDepth 40000 in
theorem fl_RX5_18 : Cond.fieldLink RX5 18 "KiteBarges$Text" "bytes" "[I" ∈ gtb := gmem 93 rfl rfl
set_option maxRecDepth 40000 in
theorem fl_RX5_22 : Cond.fieldLink RX5 22 "KiteBarges$Text" "tokenKind" "I" ∈ gtb := gmem 94 rfl rfl
set_option maxRecDepth 40000 in
theorem fl_RX5_25 : Cond.fieldLink RX5 25 "KiteBarges$Text" "place" "I" ∈ gtb := gmem 95 rfl rfl
set_option maxRecDepth 40000 in
theorem fl_RX5_28 : Cond.fieldLink RX5 28 "KiteBarges$Text" "end" "I" ∈ gtb := gmem 96 rfl rfl
set_option maxRecDepth 40000 in
theorem fl_RX5_31 : Cond.fieldLink RX5 31 "KiteBarges$Text" "word" "I" ∈ gtb := gmem 97 rfl rfl
set_option maxRecDepth 40000 in
theorem fl_RX5_34 : Cond.fieldLink RX5 34 "KiteBarges$Text" "filled" "I" ∈ gtb := gmem 98 rfl rfl
set_option maxRecDepth 40000 in
theorem fl_RX5_37 : Cond.fieldLink RX5 37 "KiteBarges$Text" "numbers" "[I" ∈ gtb := gmem 99 rfl rfl
set_option maxRecDepth 40000 in
theorem fl_RX5_40 : Cond.fieldLink RX5 40 "KiteBarges$Text" "reaches" "I" ∈ gtb := gmem 100 rfl rfl
set_option maxRecDepth 40000 in
theorem fl_RX0_9 : Cond.fieldLink RX0 9 "KiteBarges$Fleet" "hours" "I" ∈ gtb := gmem 128 rfl rfl
set_option maxRecDepth 40000 in
theorem fl_RX6_140 : Cond.fieldLink RX6 140 "KiteBarges$Fleet" "hours" "I" ∈ gtb := gmem 129 rfl rfl
set_option maxRecDepth 40000 in
theorem fl_RX0_15 : Cond.fieldLink RX0 15 "KiteBarges$Fleet" "place" "[I" ∈ gtb := gmem 130 rfl rfl
set_option maxRecDepth 40000 in
theorem fl_RX6_137 : Cond.fieldLink RX6 137 "KiteBarges$Fleet" "place" "[I" ∈ gtb := gmem 131 rfl rfl
set_option maxRecDepth 40000 in
theorem fl_RX0_19 : Cond.fieldLink RX0 19 "KiteBarges$Fleet" "layer" "[I" ∈ gtb := gmem 132 rfl rfl
set_option maxRecDepth 40000 in
theorem fl_RX6_154 : Cond.fieldLink RX6 154 "KiteBarges$Fleet" "layer" "[I" ∈ gtb := gmem 133 rfl rfl
set_option maxRecDepth 40000 in
theorem fl_RX0_22 : Cond.fieldLink RX0 22 "KiteBarges$Fleet" "lastLayer" "[I" ∈ gtb := gmem 134 rfl rfl
set_option maxRecDepth 40000 in
theorem fl_RX6_129 : Cond.fieldLink RX6 129 "KiteBarges$Fleet" "lastLayer" "[I" ∈ gtb := gmem 135 rfl rfl
set_option maxRecDepth 40000 in
theorem fl_RX0_25 : Cond.fieldLink RX0 25 "KiteBarges$Fleet" "run" "[I" ∈ gtb := gmem 136 rfl rfl
set_option maxRecDepth 40000 in
theorem fl_RX6_157 : Cond.fieldLink RX6 157 "KiteBarges$Fleet" "run" "[I" ∈ gtb := gmem 137 rfl rfl
set_option maxRecDepth 40000 in
theorem fl_RX0_28 : Cond.fieldLink RX0 28 "KiteBarges$Fleet" "stayed" "[I" ∈ gtb := gmem 138 rfl rfl
set_option maxRecDepth 40000 in
theorem fl_RX6_160 : Cond.fieldLink RX6 160 "KiteBarges$Fleet" "stayed" "[I" ∈ gtb := gmem 139 rfl rfl
set_option maxRecDepth 40000 in
theorem ml_RX6_40 : Cond.methodLink RX6 40 yX3_init ∈ gtb := gmem 156 rfl rfl
set_option maxRecDepth 40000 in
theorem ml_RX3_24 : Cond.methodLink RX3 24 yX1_init ∈ gtb := gmem 162 rfl rfl
set_option maxRecDepth 40000 in
theorem ml_RX1_18 : Cond.methodLink RX1 18 yJ7_fill_53178 ∈ gtb := gmem 166 rfl rfl
set_option maxRecDepth 40000 in
theorem fl_RX1_9 : Cond.fieldLink RX1 9 "KiteBarges$Line" "place" "[I" ∈ gtb := gmem 169 rfl rfl
set_option maxRecDepth 40000 in
theorem fl_RX3_71 : Cond.fieldLink RX3 71 "KiteBarges$Line" "place" "[I" ∈ gtb := gmem 170 rfl rfl
set_option maxRecDepth 40000 in
theorem fl_RX1_15 : Cond.fieldLink RX1 15 "KiteBarges$Line" "layer" "[I" ∈ gtb := gmem 171 rfl rfl
set_option maxRecDepth 40000 in
theorem fl_RX3_74 : Cond.fieldLink RX3 74 "KiteBarges$Line" "layer" "[I" ∈ gtb := gmem 172 rfl rfl
set_option maxRecDepth 40000 in
theorem ml_RX3_48 : Cond.methodLink RX3 48 yJ7_fill_53178 ∈ gtb := gmem 179 rfl rfl
set_option maxRecDepth 40000 in
theorem fl_RX3_11 : Cond.fieldLink RX3 11 "KiteBarges$Planner" "hoursOf" "[I" ∈ gtb := gmem 180 rfl rfl
set_option maxRecDepth 40000 in
theorem fl_RX6_180 : Cond.fieldLink RX6 180 "KiteBarges$Planner" "hoursOf" "[I" ∈ gtb := gmem 181 rfl rfl
set_option maxRecDepth 40000 in
theorem fl_RX3_44 : Cond.fieldLink RX3 44 "KiteBarges$Planner" "river" "LKiteBarges$River;" ∈ gtb := gmem 182 rfl rfl
set_option maxRecDepth 40000 in
theorem fl_RX3_15 : Cond.fieldLink RX3 15 "KiteBarges$Planner" "runOf" "[I" ∈ gtb := gmem 183 rfl rfl
set_option maxRecDepth 40000 in
theorem fl_RX3_18 : Cond.fieldLink RX3 18 "KiteBarges$Planner" "rowOf" "[J" ∈ gtb := gmem 184 rfl rfl
set_option maxRecDepth 40000 in
theorem fl_RX3_25 : Cond.fieldLink RX3 25 "KiteBarges$Planner" "nobody" "LKiteBarges$Line;" ∈ gtb := gmem 185 rfl rfl
set_option maxRecDepth 40000 in
theorem fl_RX3_29 : Cond.fieldLink RX3 29 "KiteBarges$Planner" "drawn" "LKiteBarges$Line;" ∈ gtb := gmem 186 rfl rfl
set_option maxRecDepth 40000 in
theorem fl_RX3_32 : Cond.fieldLink RX3 32 "KiteBarges$Planner" "runs" "[I" ∈ gtb := gmem 187 rfl rfl
set_option maxRecDepth 40000 in
theorem fl_RX3_35 : Cond.fieldLink RX3 35 "KiteBarges$Planner" "rows" "[J" ∈ gtb := gmem 188 rfl rfl
set_option maxRecDepth 40000 in
theorem fl_RX3_38 : Cond.fieldLink RX3 38 "KiteBarges$Planner" "nextRuns" "[I" ∈ gtb := gmem 189 rfl rfl
set_option maxRecDepth 40000 in
theorem fl_RX3_41 : Cond.fieldLink RX3 41 "KiteBarges$Planner" "nextRows" "[J" ∈ gtb := gmem 190 rfl rfl
set_option maxRecDepth 40000 in
theorem ml_RX6_49 : Cond.methodLink RX6 49 yX2_init ∈ gtb := gmem 214 rfl rfl
set_option maxRecDepth 40000 in
theorem fl_RX2_34 : Cond.fieldLink RX2 34 "KiteBarges$Lulls" "river" "LKiteBarges$River;" ∈ gtb := gmem 218 rfl rfl
set_option maxRecDepth 40000 in
theorem fl_RX2_11 : Cond.fieldLink RX2 11 "KiteBarges$Lulls" "placeAt" "[I" ∈ gtb := gmem 219 rfl rfl
set_option maxRecDepth 40000 in
theorem fl_RX2_15 : Cond.fieldLink RX2 15 "KiteBarges$Lulls" "chanceOf" "[J" ∈ gtb := gmem 220 rfl rfl
set_option maxRecDepth 40000 in
theorem fl_RX2_19 : Cond.fieldLink RX2 19 "KiteBarges$Lulls" "values" "[J" ∈ gtb := gmem 221 rfl rfl
set_option maxRecDepth 40000 in
theorem fl_RX2_22 : Cond.fieldLink RX2 22 "KiteBarges$Lulls" "laterValues" "[J" ∈ gtb := gmem 222 rfl rfl
set_option maxRecDepth 40000 in
theorem fl_RX2_25 : Cond.fieldLink RX2 25 "KiteBarges$Lulls" "hoursTo" "[I" ∈ gtb := gmem 223 rfl rfl
set_option maxRecDepth 40000 in
theorem fl_RX2_28 : Cond.fieldLink RX2 28 "KiteBarges$Lulls" "ifLull" "[J" ∈ gtb := gmem 224 rfl rfl
set_option maxRecDepth 40000 in
theorem fl_RX2_31 : Cond.fieldLink RX2 31 "KiteBarges$Lulls" "ifWind" "[J" ∈ gtb := gmem 225 rfl rfl
set_option maxRecDepth 40000 in
theorem fl_RX6_12 : Cond.fieldLink RX6 12 "KiteBarges" "river" "LKiteBarges$River;" ∈ gtb := gmem 243 rfl rfl
set_option maxRecDepth 40000 in
theorem fl_RX6_19 : Cond.fieldLink RX6 19 "KiteBarges" "text" "LKiteBarges$Text;" ∈ gtb := gmem 244 rfl rfl
set_option maxRecDepth 40000 in
theorem fl_RX6_26 : Cond.fieldLink RX6 26 "KiteBarges" "fleet" "LKiteBarges$Fleet;" ∈ gtb := gmem 245 rfl rfl
set_option maxRecDepth 40000 in
theorem fl_RX6_30 : Cond.fieldLink RX6 30 "KiteBarges" "kept" "[LKiteBarges$Fleet;" ∈ gtb := gmem 246 rfl rfl
set_option maxRecDepth 40000 in
theorem fl_RX6_34 : Cond.fieldLink RX6 34 "KiteBarges" "isKept" "[Z" ∈ gtb := gmem 247 rfl rfl
set_option maxRecDepth 40000 in
theorem fl_RX6_43 : Cond.fieldLink RX6 43 "KiteBarges" "planner" "LKiteBarges$Planner;" ∈ gtb := gmem 248 rfl rfl
set_option maxRecDepth 40000 in
theorem fl_RX6_50 : Cond.fieldLink RX6 50 "KiteBarges" "lulls" "LKiteBarges$Lulls;" ∈ gtb := gmem 249 rfl rfl
set_option maxRecDepth 40000 in
theorem ml_RL_15 : Cond.methodLink RL 15 yX6_write ∈ gtb := gmem 265 rfl rfl
set_option maxRecDepth 40000 in
theorem ml_RX6_54 : Cond.methodLink RX6 54 yX5_append ∈ gtb := gmem 269 rfl rfl
set_option maxRecDepth 40000 in
theorem kl_RX5_43 : Cond.constantLong RX5 43 (255) ∈ gtb := gmem 273 rfl rfl
set_option maxRecDepth 40000 in
theorem ml_RL_20 : Cond.methodLink RL 20 yX6_erase ∈ gtb := gmem 274 rfl rfl
set_option maxRecDepth 40000 in
theorem ml_RL_25 : Cond.methodLink RL 25 yX6_fault ∈ gtb := gmem 278 rfl rfl
set_option maxRecDepth 40000 in
theorem ml_RX6_62 : Cond.methodLink RX6 62 yX5_read ∈ gtb := gmem 282 rfl rfl
set_option maxRecDepth 40000 in
theorem ml_RX5_48 : Cond.methodLink RX5 48 yX5_readLine ∈ gtb := gmem 286 rfl rfl
set_option maxRecDepth 40000 in
theorem ml_RX5_56 : Cond.methodLink RX5 56 yX5_readToken ∈ gtb := gmem 290 rfl rfl
set_option maxRecDepth 40000 in
theorem ml_RX5_107 : Cond.methodLink RX5 107 yX5_kindAt ∈ gtb := gmem 294 rfl rfl
set_option maxRecDepth 40000 in
theorem ml_RX5_59 : Cond.methodLink RX5 59 yX5_wordOfLine ∈ gtb := gmem 298 rfl rfl
set_option maxRecDepth 40000 in
theorem ml_RX5_72 : Cond.methodLink RX5 72 yX5_tokenIs ∈ gtb := gmem 303 rfl rfl
set_option maxRecDepth 40000 in
theorem ml_RX5_111 : Cond.methodLink RX5 111 yJ0_length_8abf5 ∈ gtb := gmem 307 rfl rfl
set_option maxRecDepth 40000 in
theorem ml_RJ0_335 : Cond.methodLink RJ0 335 yJ0_coder_7d493 ∈ gtb := gmem 311 rfl rfl
set_option maxRecDepth 40000 in
theorem fl_RJ0_38 : Cond.fieldLink RJ0 38 "java/lang/String" "COMPACT_STRINGS" "Z" ∈ gtb := gmem 315 rfl rfl
set_option maxRecDepth 40000 in
theorem ml_RX5_115 : Cond.methodLink RX5 115 yJ0_charAt_5068e ∈ gtb := gmem 317 rfl rfl
set_option maxRecDepth 40000 in
theorem ml_RJ0_492 : Cond.methodLink RJ0 492 yJ0_isLatin1_aae02 ∈ gtb := gmem 321 rfl rfl
set_option maxRecDepth 40000 in
theorem ml_RJ0_495 : Cond.methodLink RJ0 495 yJ1_charAt_3b067 ∈ gtb := gmem 325 rfl rfl
set_option maxRecDepth 40000 in
theorem ml_RJ1_9 : Cond.methodLink RJ1 9 yJ0_checkIndex_df160 ∈ gtb := gmem 328 rfl rfl
set_option maxRecDepth 40000 in
theorem fl_RJ0_1053 : Cond.fieldLink RJ0 1053 "jdk/internal/util/Preconditions" "SIOOBE_FORMATTER" "Ljava/util/function/BiFunction;" ∈ gtb := gmem 331 rfl rfl
set_option maxRecDepth 40000 in
theorem ml_RJ0_1059 : Cond.methodLink RJ0 1059 yJ3_checkIndex_8e157 ∈ gtb := gmem 333 rfl rfl
set_option maxRecDepth 40000 in
theorem ml_RJ0_498 : Cond.methodLink RJ0 498 yJ2_charAt_3b067 ∈ gtb := gmem 336 rfl rfl
set_option maxRecDepth 40000 in
theorem ml_RJ2_67 : Cond.methodLink RJ2 67 yJ2_checkIndex_2214a ∈ gtb := gmem 339 rfl rfl
set_option maxRecDepth 40000 in
theorem ml_RJ2_48 : Cond.methodLink RJ2 48 yJ2_length_9d52b ∈ gtb := gmem 342 rfl rfl
set_option maxRecDepth 40000 in
theorem ml_RJ2_414 : Cond.methodLink RJ2 414 yJ0_checkIndex_df160 ∈ gtb := gmem 345 rfl rfl
set_option maxRecDepth 40000 in
theorem ml_RJ2_71 : Cond.methodLink RJ2 71 yJ2_getChar_3b067 ∈ gtb := gmem 346 rfl rfl
set_option maxRecDepth 40000 in
theorem fl_RJ2_44 : Cond.fieldLink RJ2 44 "java/lang/StringUTF16" "$assertionsDisabled" "Z" ∈ gtb := gmem 349 rfl rfl
set_option maxRecDepth 40000 in
theorem fl_RJ2_59 : Cond.fieldLink RJ2 59 "java/lang/StringUTF16" "HI_BYTE_SHIFT" "I" ∈ gtb := gmem 351 rfl rfl
set_option maxRecDepth 40000 in
theorem fl_RJ2_63 : Cond.fieldLink RJ2 63 "java/lang/StringUTF16" "LO_BYTE_SHIFT" "I" ∈ gtb := gmem 353 rfl rfl
set_option maxRecDepth 40000 in
theorem ml_RX5_63 : Cond.methodLink RX5 63 yX5_readNumber ∈ gtb := gmem 362 rfl rfl
set_option maxRecDepth 40000 in
theorem ml_RX5_103 : Cond.methodLink RX5 103 yX5_addNumber ∈ gtb := gmem 366 rfl rfl
set_option maxRecDepth 40000 in
theorem ml_RX5_67 : Cond.methodLink RX5 67 yX5_readKite ∈ gtb := gmem 370 rfl rfl
set_option maxRecDepth 40000 in
theorem ml_RX5_100 : Cond.methodLink RX5 100 yX5_kiteOfToken ∈ gtb := gmem 374 rfl rfl
set_option maxRecDepth 40000 in
theorem ml_RX5_52 : Cond.methodLink RX5 52 yX4_tell ∈ gtb := gmem 383 rfl rfl
set_option maxRecDepth 40000 in
theorem ml_RX4_50 : Cond.methodLink RX4 50 yX4_tellWind ∈ gtb := gmem 387 rfl rfl
set_option maxRecDepth 40000 in
theorem ml_RX4_54 : Cond.methodLink RX4 54 yX4_tellBarge ∈ gtb := gmem 391 rfl rfl
set_option maxRecDepth 40000 in
theorem ml_RX4_57 : Cond.methodLink RX4 57 yX4_addReach ∈ gtb := gmem 395 rfl rfl
set_option maxRecDepth 40000 in
theorem ml_RL_29 : Cond.methodLink RL 29 yX6_river ∈ gtb := gmem 400 rfl rfl
set_option maxRecDepth 40000 in
theorem ml_RX6_66 : Cond.methodLink RX6 66 yX4_begin ∈ gtb := gmem 404 rfl rfl
set_option maxRecDepth 40000 in
theorem ml_RX6_70 : Cond.methodLink RX6 70 yX0_begin ∈ gtb := gmem 408 rfl rfl
set_option maxRecDepth 40000 in
theorem ml_RX0_31 : Cond.methodLink RX0 31 yJ7_fill_53178 ∈ gtb := gmem 412 rfl rfl
set_option maxRecDepth 40000 in
theorem ml_RX6_73 : Cond.methodLink RX6 73 yX3_forget ∈ gtb := gmem 413 rfl rfl
set_option maxRecDepth 40000 in
theorem ml_RL_33 : Cond.methodLink RL 33 yX6_reach ∈ gtb := gmem 417 rfl rfl
set_option maxRecDepth 40000 in
theorem ml_RX6_79 : Cond.methodLink RX6 79 yX4_hasReach ∈ gtb := gmem 421 rfl rfl
set_option maxRecDepth 40000 in
theorem ml_RL_38 : Cond.methodLink RL 38 yX6_wind ∈ gtb := gmem 425 rfl rfl
set_option maxRecDepth 40000 in
theorem ml_RX6_93 : Cond.methodLink RX6 93 yX6_isLayer ∈ gtb := gmem 429 rfl rfl
set_option maxRecDepth 40000 in
theorem ml_RX6_96 : Cond.methodLink RX6 96 yX6_isHour ∈ gtb := gmem 432 rfl rfl
set_option maxRecDepth 40000 in
theorem ml_RL_43 : Cond.methodLink RL 43 yX6_barge ∈ gtb := gmem 435 rfl rfl
set_option maxRecDepth 40000 in
theorem ml_RX6_105 : Cond.methodLink RX6 105 yX4_hasBarge ∈ gtb := gmem 439 rfl rfl
set_option maxRecDepth 40000 in
theorem ml_RX6_111 : Cond.methodLink RX6 111 yX4_cordOf ∈ gtb := gmem 443 rfl rfl
set_option maxRecDepth 40000 in
theorem ml_RL_47 : Cond.methodLink RL 47 yX6_as ∈ gtb := gmem 447 rfl rfl
set_option maxRecDepth 40000 in
theorem ml_RX6_121 : Cond.methodLink RX6 121 yX4_pulled ∈ gtb := gmem 451 rfl rfl
set_option maxRecDepth 40000 in
theorem fl_RX4_61 : Cond.fieldLink RX4 61 "KiteBarges$River" "SAIL_TIMES" "[I" ∈ gtb := gmem 454 rfl rfl
set_option maxRecDepth 40000 in
theorem fl_RX4_64 : Cond.fieldLink RX4 64 "KiteBarges$River" "TIMES" "[I" ∈ gtb := gmem 456 rfl rfl
set_option maxRecDepth 40000 in
theorem ml_RL_51 : Cond.methodLink RL 51 yX6_yards ∈ gtb := gmem 458 rfl rfl
set_option maxRecDepth 40000 in
theorem ml_RX6_125 : Cond.methodLink RX6 125 yX4_stepOf ∈ gtb := gmem 462 rfl rfl
set_option maxRecDepth 40000 in
theorem ml_RX4_67 : Cond.methodLink RX4 67 yX4_pulled ∈ gtb := gmem 466 rfl rfl
set_option maxRecDepth 40000 in
theorem ml_RL_56 : Cond.methodLink RL 56 yX6_cord ∈ gtb := gmem 467 rfl rfl
set_option maxRecDepth 40000 in
theorem ml_RX6_132 : Cond.methodLink RX6 132 yJ9_abs_0f7a4 ∈ gtb := gmem 471 rfl rfl
set_option maxRecDepth 40000 in
theorem ml_RX6_143 : Cond.methodLink RX6 143 yX0_change ∈ gtb := gmem 474 rfl rfl
set_option maxRecDepth 40000 in
theorem ml_RX0_43 : Cond.methodLink RX0 43 yJ9_abs_0f7a4 ∈ gtb := gmem 478 rfl rfl
set_option maxRecDepth 40000 in
theorem ml_RL_60 : Cond.methodLink RL 60 yX6_go ∈ gtb := gmem 479 rfl rfl
set_option maxRecDepth 40000 in
theorem ml_RX6_147 : Cond.methodLink RX6 147 yJ9_min_7cf53 ∈ gtb := gmem 483 rfl rfl
set_option maxRecDepth 40000 in
theorem ml_RX6_150 : Cond.methodLink RX6 150 yX0_passHour ∈ gtb := gmem 486 rfl rfl
set_option maxRecDepth 40000 in
theorem ml_RX0_55 : Cond.methodLink RX0 55 yX4_moved ∈ gtb := gmem 490 rfl rfl
set_option maxRecDepth 40000 in
theorem ml_RX4_71 : Cond.methodLink RX4 71 yX4_stepOf ∈ gtb := gmem 494 rfl rfl
set_option maxRecDepth 40000 in
theorem ml_RL_65 : Cond.methodLink RL 65 yX6_at ∈ gtb := gmem 495 rfl rfl
set_option maxRecDepth 40000 in
theorem ml_RL_69 : Cond.methodLink RL 69 yX6_knots ∈ gtb := gmem 499 rfl rfl
set_option maxRecDepth 40000 in
theorem ml_RX6_166 : Cond.methodLink RX6 166 yX0_areKnotted ∈ gtb := gmem 503 rfl rfl
set_option maxRecDepth 40000 in
theorem ml_RL_73 : Cond.methodLink RL 73 yX6_keep ∈ gtb := gmem 510 rfl rfl
set_option maxRecDepth 40000 in
theorem ml_RX6_170 : Cond.methodLink RX6 170 yX0_copyFrom ∈ gtb := gmem 514 rfl rfl
set_option maxRecDepth 40000 in
theorem ml_RL_77 : Cond.methodLink RL 77 yX6_back ∈ gtb := gmem 521 rfl rfl
set_option maxRecDepth 40000 in
theorem ml_RL_81 : Cond.methodLink RL 81 yX6_soonest ∈ gtb := gmem 525 rfl rfl
set_option maxRecDepth 40000 in
theorem ml_RX6_174 : Cond.methodLink RX6 174 yX3_soonestOf ∈ gtb := gmem 529 rfl rfl
set_option maxRecDepth 40000 in
theorem ml_RX3_54 : Cond.methodLink RX3 54 yX3_search ∈ gtb := gmem 533 rfl rfl
set_option maxRecDepth 40000 in
theorem ml_RX3_79 : Cond.methodLink RX3 79 yX4_begin ∈ gtb := gmem 537 rfl rfl
set_option maxRecDepth 40000 in
theorem ml_RX3_89 : Cond.methodLink RX3 89 yX3_settle ∈ gtb := gmem 538 rfl rfl
set_option maxRecDepth 40000 in
theorem ml_RX3_93 : Cond.methodLink RX3 93 yX3_spread ∈ gtb := gmem 542 rfl rfl
set_option maxRecDepth 40000 in
theorem ml_RX3_96 : Cond.methodLink RX3 96 yX4_cordOf ∈ gtb := gmem 546 rfl rfl
set_option maxRecDepth 40000 in
theorem ml_RX3_66 : Cond.methodLink RX3 66 yJ9_min_7cf53 ∈ gtb := gmem 547 rfl rfl
set_option maxRecDepth 40000 in
theorem ml_RX3_104 : Cond.methodLink RX3 104 yJ9_max_7cf53 ∈ gtb := gmem 548 rfl rfl
set_option maxRecDepth 40000 in
theorem ml_RX3_85 : Cond.methodLink RX3 85 yX4_moved ∈ gtb := gmem 551 rfl rfl
set_option maxRecDepth 40000 in
theorem ml_RX3_111 : Cond.methodLink RX3 111 yJ9_abs_0f7a4 ∈ gtb := gmem 553 rfl rfl
set_option maxRecDepth 40000 in
theorem kl_RX3_77 : Cond.constantLong RX3 77 (6) ∈ gtb := gmem 554 rfl rfl
set_option maxRecDepth 40000 in
theorem ml_RX3_114 : Cond.methodLink RX3 114 yX3_offer ∈ gtb := gmem 555 rfl rfl
set_option maxRecDepth 40000 in
theorem ml_RX3_118 : Cond.methodLink RX3 118 yX3_swap ∈ gtb := gmem 559 rfl rfl
set_option maxRecDepth 40000 in
theorem ml_RX6_177 : Cond.methodLink RX6 177 yX3_answerOf ∈ gtb := gmem 563 rfl rfl
set_option maxRecDepth 40000 in
theorem ml_RX3_62 : Cond.methodLink RX3 62 yX3_layerIn ∈ gtb := gmem 567 rfl rfl
set_option maxRecDepth 40000 in
theorem ml_RL_85 : Cond.methodLink RL 85 yX6_clear ∈ gtb := gmem 571 rfl rfl
set_option maxRecDepth 40000 in
theorem ml_RX6_183 : Cond.methodLink RX6 183 yX3_clearOf ∈ gtb := gmem 575 rfl rfl
set_option maxRecDepth 40000 in
theorem ml_RX3_58 : Cond.methodLink RX3 58 yX3_draw ∈ gtb := gmem 579 rfl rfl
set_option maxRecDepth 40000 in
theorem ml_RL_89 : Cond.methodLink RL 89 yX6_odds ∈ gtb := gmem 583 rfl rfl
set_option maxRecDepth 40000 in
theorem ml_RX6_186 : Cond.methodLink RX6 186 yX6_oddsRefused ∈ gtb := gmem 587 rfl rfl
set_option maxRecDepth 40000 in
theorem kl_RX6_190 : Cond.constantLong RX6 190 (-4) ∈ gtb := gmem 591 rfl rfl
set_option maxRecDepth 40000 in
theorem ml_RX6_192 : Cond.methodLink RX6 192 yX2_start ∈ gtb := gmem 592 rfl rfl
set_option maxRecDepth 40000 in
theorem ml_RX2_38 : Cond.methodLink RX2 38 yX4_begin ∈ gtb := gmem 596 rfl rfl
set_option maxRecDepth 40000 in
theorem ml_RX2_44 : Cond.methodLink RX2 44 yJ9_min_7cf53 ∈ gtb := gmem 597 rfl rfl
set_option maxRecDepth 40000 in
theorem ml_RX6_196 : Cond.methodLink RX6 196 yX3_layerKept ∈ gtb := gmem 598 rfl rfl
set_option maxRecDepth 40000 in
theorem ml_RX6_199 : Cond.methodLink RX6 199 yX2_branch ∈ gtb := gmem 602 rfl rfl
set_option maxRecDepth 40000 in
theorem ml_RX2_50 : Cond.methodLink RX2 50 yX4_moved ∈ gtb := gmem 606 rfl rfl
set_option maxRecDepth 40000 in
theorem ml_RX6_203 : Cond.methodLink RX6 203 yX2_thereAfter ∈ gtb := gmem 607 rfl rfl
set_option maxRecDepth 40000 in
theorem ml_RX6_207 : Cond.methodLink RX6 207 yX6_lowestTerms ∈ gtb := gmem 611 rfl rfl
set_option maxRecDepth 40000 in
theorem kl_RX6_236 : Cond.constantLong RX6 236 (10) ∈ gtb := gmem 614 rfl rfl
set_option maxRecDepth 40000 in
theorem kl_RX6_238 : Cond.constantLong RX6 238 (2) ∈ gtb := gmem 615 rfl rfl
set_option maxRecDepth 40000 in
theorem kl_RX6_240 : Cond.constantLong RX6 240 (5) ∈ gtb := gmem 616 rfl rfl
set_option maxRecDepth 40000 in
theorem ml_RL_94 : Cond.methodLink RL 94 yX6_sight ∈ gtb := gmem 617 rfl rfl
set_option maxRecDepth 40000 in
theorem ml_RX6_211 : Cond.methodLink RX6 211 yX2_bestSeeing ∈ gtb := gmem 621 rfl rfl
set_option maxRecDepth 40000 in
theorem ml_RX2_80 : Cond.methodLink RX2 80 yX2_findPlaces ∈ gtb := gmem 625 rfl rfl
set_option maxRecDepth 40000 in
theorem ml_RX2_96 : Cond.methodLink RX2 96 yJ7_fill_53178 ∈ gtb := gmem 629 rfl rfl
set_option maxRecDepth 40000 in
theorem ml_RX2_99 : Cond.methodLink RX2 99 yX2_findNext ∈ gtb := gmem 630 rfl rfl
set_option maxRecDepth 40000 in
theorem ml_RX2_83 : Cond.methodLink RX2 83 yJ7_fill_d0a16 ∈ gtb := gmem 634 rfl rfl
set_option maxRecDepth 40000 in
theorem ml_RX2_89 : Cond.methodLink RX2 89 yX2_valuePlace ∈ gtb := gmem 637 rfl rfl
set_option maxRecDepth 40000 in
theorem ml_RX2_66 : Cond.methodLink RX2 66 yX4_cordOf ∈ gtb := gmem 641 rfl rfl
set_option maxRecDepth 40000 in
theorem ml_RX2_102 : Cond.methodLink RX2 102 yX2_greatest ∈ gtb := gmem 642 rfl rfl
set_option maxRecDepth 40000 in
theorem ml_RX2_70 : Cond.methodLink RX2 70 yJ9_max_7cf53 ∈ gtb := gmem 645 rfl rfl
set_option maxRecDepth 40000 in
theorem ml_RX2_77 : Cond.methodLink RX2 77 yJ9_max_f86c9 ∈ gtb := gmem 646 rfl rfl
set_option maxRecDepth 40000 in
theorem ml_RX2_93 : Cond.methodLink RX2 93 yX2_swap ∈ gtb := gmem 649 rfl rfl
set_option maxRecDepth 40000 in
theorem ml_RL_98 : Cond.methodLink RL 98 yX6_blind ∈ gtb := gmem 653 rfl rfl
set_option maxRecDepth 40000 in
theorem ml_RX6_215 : Cond.methodLink RX6 215 yX2_bestBlind ∈ gtb := gmem 657 rfl rfl
set_option maxRecDepth 40000 in
theorem ml_RX2_54 : Cond.methodLink RX2 54 yX2_start ∈ gtb := gmem 661 rfl rfl
set_option maxRecDepth 40000 in
theorem ml_RX2_58 : Cond.methodLink RX2 58 yX2_bestRow ∈ gtb := gmem 662 rfl rfl
set_option maxRecDepth 40000 in
theorem ml_RX2_62 : Cond.methodLink RX2 62 yX2_thereAfter ∈ gtb := gmem 666 rfl rfl
set_option maxRecDepth 40000 in
theorem ml_RX2_73 : Cond.methodLink RX2 73 yX2_branch ∈ gtb := gmem 667 rfl rfl
set_option maxRecDepth 40000 in
theorem ml_RL_102 : Cond.methodLink RL 102 yX6_worth ∈ gtb := gmem 668 rfl rfl
set_option maxRecDepth 40000 in
theorem ml_RL_106 : Cond.methodLink RL 106 yX6_found ∈ gtb := gmem 672 rfl rfl
set_option maxRecDepth 40000 in
theorem ml_RX6_218 : Cond.methodLink RX6 218 yX3_hourIn ∈ gtb := gmem 676 rfl rfl
set_option maxRecDepth 40000 in
theorem ml_RL_110 : Cond.methodLink RL 110 yX6_first ∈ gtb := gmem 680 rfl rfl
set_option maxRecDepth 40000 in
theorem ml_RL_114 : Cond.methodLink RL 114 yX6_books ∈ gtb := gmem 684 rfl rfl
set_option maxRecDepth 40000 in
theorem ml_RX6_224 : Cond.methodLink RX6 224 yX6_passages ∈ gtb := gmem 688 rfl rfl
set_option maxRecDepth 40000 in
theorem ml_RL_118 : Cond.methodLink RL 118 yX6_count ∈ gtb := gmem 692 rfl rfl
set_option maxRecDepth 40000 in
theorem ml_RX6_227 : Cond.methodLink RX6 227 yX4_toldBits ∈ gtb := gmem 696 rfl rfl
set_option maxRecDepth 40000 in
theorem ml_RX6_233 : Cond.methodLink RX6 233 yX4_wholeLength ∈ gtb := gmem 700 rfl rfl
set_option maxRecDepth 40000 in
theorem ml_RL_12 : Cond.methodLink RL 12 yX7_init ∈ gtb := gmem 706 rfl rfl
set_option maxRecDepth 40000 in
theorem ml_RX7_58 : Cond.methodLink RX7 58 yX7_begin ∈ gtb := gmem 710 rfl rfl
set_option maxRecDepth 40000 in
theorem ml_RX7_169 : Cond.methodLink RX7 169 yX7_start ∈ gtb := gmem 714 rfl rfl
set_option maxRecDepth 40000 in
theorem fl_RX7_160 : Cond.fieldLink RX7 160 "KiteBargesModel" "reaches" "I" ∈ gtb := gmem 718 rfl rfl
set_option maxRecDepth 40000 in
theorem fl_RX7_7 : Cond.fieldLink RX7 7 "KiteBargesModel" "reach" "[I" ∈ gtb := gmem 719 rfl rfl
set_option maxRecDepth 40000 in
theorem fl_RX7_13 : Cond.fieldLink RX7 13 "KiteBargesModel" "wind" "[I" ∈ gtb := gmem 720 rfl rfl
set_option maxRecDepth 40000 in
theorem fl_RX7_16 : Cond.fieldLink RX7 16 "KiteBargesModel" "still" "I" ∈ gtb := gmem 721 rfl rfl
set_option maxRecDepth 40000 in
theorem fl_RX7_65 : Cond.fieldLink RX7 65 "KiteBargesModel" "told" "I" ∈ gtb := gmem 722 rfl rfl
set_option maxRecDepth 40000 in
theorem fl_RX7_20 : Cond.fieldLink RX7 20 "KiteBargesModel" "barge" "[I" ∈ gtb := gmem 723 rfl rfl
set_option maxRecDepth 40000 in
theorem fl_RX7_72 : Cond.fieldLink RX7 72 "KiteBargesModel" "bytes" "I" ∈ gtb := gmem 724 rfl rfl
set_option maxRecDepth 40000 in
theorem fl_RX7_23 : Cond.fieldLink RX7 23 "KiteBargesModel" "text" "[I" ∈ gtb := gmem 725 rfl rfl
set_option maxRecDepth 40000 in
theorem fl_RX7_77 : Cond.fieldLink RX7 77 "KiteBargesModel" "position" "I" ∈ gtb := gmem 726 rfl rfl
set_option maxRecDepth 40000 in
theorem fl_RX7_80 : Cond.fieldLink RX7 80 "KiteBargesModel" "tokenAt" "I" ∈ gtb := gmem 727 rfl rfl
set_option maxRecDepth 40000 in
theorem fl_RX7_91 : Cond.fieldLink RX7 91 "KiteBargesModel" "token" "J" ∈ gtb := gmem 728 rfl rfl
set_option maxRecDepth 40000 in
theorem fl_RX7_83 : Cond.fieldLink RX7 83 "KiteBargesModel" "digits" "I" ∈ gtb := gmem 729 rfl rfl
set_option maxRecDepth 40000 in
theorem fl_RX7_86 : Cond.fieldLink RX7 86 "KiteBargesModel" "number" "I" ∈ gtb := gmem 730 rfl rfl
set_option maxRecDepth 40000 in
theorem fl_RX7_105 : Cond.fieldLink RX7 105 "KiteBargesModel" "faultAt" "I" ∈ gtb := gmem 731 rfl rfl
set_option maxRecDepth 40000 in
theorem fl_RX7_157 : Cond.fieldLink RX7 157 "KiteBargesModel" "readMany" "I" ∈ gtb := gmem 732 rfl rfl
set_option maxRecDepth 40000 in
theorem fl_RX7_125 : Cond.fieldLink RX7 125 "KiteBargesModel" "readReaches" "I" ∈ gtb := gmem 733 rfl rfl
set_option maxRecDepth 40000 in
theorem fl_RX7_26 : Cond.fieldLink RX7 26 "KiteBargesModel" "read" "[I" ∈ gtb := gmem 734 rfl rfl
set_option maxRecDepth 40000 in
theorem fl_RX7_29 : Cond.fieldLink RX7 29 "KiteBargesModel" "now" "[I" ∈ gtb := gmem 735 rfl rfl
set_option maxRecDepth 40000 in
theorem fl_RX7_32 : Cond.fieldLink RX7 32 "KiteBargesModel" "image" "[I" ∈ gtb := gmem 736 rfl rfl
set_option maxRecDepth 40000 in
theorem fl_RX7_35 : Cond.fieldLink RX7 35 "KiteBargesModel" "isKept" "[Z" ∈ gtb := gmem 737 rfl rfl
set_option maxRecDepth 40000 in
theorem fl_RX7_39 : Cond.fieldLink RX7 39 "KiteBargesModel" "left" "[I" ∈ gtb := gmem 738 rfl rfl
set_option maxRecDepth 40000 in
theorem fl_RX7_224 : Cond.fieldLink RX7 224 "KiteBargesModel" "planHours" "I" ∈ gtb := gmem 739 rfl rfl
set_option maxRecDepth 40000 in
theorem fl_RX7_227 : Cond.fieldLink RX7 227 "KiteBargesModel" "planRun" "I" ∈ gtb := gmem 740 rfl rfl
set_option maxRecDepth 40000 in
theorem fl_RX7_42 : Cond.fieldLink RX7 42 "KiteBargesModel" "planLayer" "[I" ∈ gtb := gmem 741 rfl rfl
set_option maxRecDepth 40000 in
theorem fl_RX7_45 : Cond.fieldLink RX7 45 "KiteBargesModel" "planPlace" "[I" ∈ gtb := gmem 742 rfl rfl
set_option maxRecDepth 40000 in
theorem fl_RX7_48 : Cond.fieldLink RX7 48 "KiteBargesModel" "otherPlace" "[I" ∈ gtb := gmem 743 rfl rfl
set_option maxRecDepth 40000 in
theorem fl_RX7_51 : Cond.fieldLink RX7 51 "KiteBargesModel" "otherLayer" "[I" ∈ gtb := gmem 744 rfl rfl
set_option maxRecDepth 40000 in
theorem fl_RX7_54 : Cond.fieldLink RX7 54 "KiteBargesModel" "chance" "[J" ∈ gtb := gmem 745 rfl rfl
set_option maxRecDepth 40000 in
theorem ml_RL_19 : Cond.methodLink RL 19 yX7_write ∈ gtb := gmem 803 rfl rfl
set_option maxRecDepth 40000 in
theorem ml_RX7_61 : Cond.methodLink RX7 61 yX7_in ∈ gtb := gmem 807 rfl rfl
set_option maxRecDepth 40000 in
theorem kl_RX7_75 : Cond.constantLong RX7 75 (255) ∈ gtb := gmem 810 rfl rfl
set_option maxRecDepth 40000 in
theorem ml_RL_24 : Cond.methodLink RL 24 yX7_erase ∈ gtb := gmem 811 rfl rfl
set_option maxRecDepth 40000 in
theorem ml_RL_28 : Cond.methodLink RL 28 yX7_fault ∈ gtb := gmem 815 rfl rfl
set_option maxRecDepth 40000 in
theorem ml_RX7_166 : Cond.methodLink RX7 166 yX7_isRead ∈ gtb := gmem 819 rfl rfl
set_option maxRecDepth 40000 in
theorem ml_RX7_163 : Cond.methodLink RX7 163 yX7_isLine ∈ gtb := gmem 823 rfl rfl
set_option maxRecDepth 40000 in
theorem ml_RX7_108 : Cond.methodLink RX7 108 yX7_nextToken ∈ gtb := gmem 827 rfl rfl
set_option maxRecDepth 40000 in
theorem kl_RX7_89 : Cond.constantLong RX7 89 (-2) ∈ gtb := gmem 831 rfl rfl
set_option maxRecDepth 40000 in
theorem kl_RX7_95 : Cond.constantLong RX7 95 (27) ∈ gtb := gmem 832 rfl rfl
set_option maxRecDepth 40000 in
theorem kl_RX7_97 : Cond.constantLong RX7 97 (96) ∈ gtb := gmem 833 rfl rfl
set_option maxRecDepth 40000 in
theorem kl_RX7_99 : Cond.constantLong RX7 99 (-4) ∈ gtb := gmem 834 rfl rfl
set_option maxRecDepth 40000 in
theorem kl_RX7_101 : Cond.constantLong RX7 101 (-1) ∈ gtb := gmem 835 rfl rfl
set_option maxRecDepth 40000 in
theorem kl_RX7_103 : Cond.constantLong RX7 103 (-3) ∈ gtb := gmem 836 rfl rfl
set_option maxRecDepth 40000 in
theorem kl_RX7_131 : Cond.constantLong RX7 131 (307058) ∈ gtb := gmem 837 rfl rfl
set_option maxRecDepth 40000 in
theorem kl_RX7_133 : Cond.constantLong RX7 133 (10986913) ∈ gtb := gmem 838 rfl rfl
set_option maxRecDepth 40000 in
theorem kl_RX7_135 : Cond.constantLong RX7 135 (247223) ∈ gtb := gmem 839 rfl rfl
set_option maxRecDepth 40000 in
theorem kl_RX7_137 : Cond.constantLong RX7 137 (3427) ∈ gtb := gmem 840 rfl rfl
set_option maxRecDepth 40000 in
theorem kl_RX7_139 : Cond.constantLong RX7 139 (459652) ∈ gtb := gmem 841 rfl rfl
set_option maxRecDepth 40000 in
theorem kl_RX7_141 : Cond.constantLong RX7 141 (1095881) ∈ gtb := gmem 842 rfl rfl
set_option maxRecDepth 40000 in
theorem kl_RX7_143 : Cond.constantLong RX7 143 (385240) ∈ gtb := gmem 843 rfl rfl
set_option maxRecDepth 40000 in
theorem kl_RX7_145 : Cond.constantLong RX7 145 (10497936) ∈ gtb := gmem 844 rfl rfl
set_option maxRecDepth 40000 in
theorem ml_RX7_147 : Cond.methodLink RX7 147 yX7_isReachLine ∈ gtb := gmem 845 rfl rfl
set_option maxRecDepth 40000 in
theorem ml_RX7_111 : Cond.methodLink RX7 111 yX7_fails ∈ gtb := gmem 849 rfl rfl
set_option maxRecDepth 40000 in
theorem ml_RX7_128 : Cond.methodLink RX7 128 yX7_isNumber ∈ gtb := gmem 853 rfl rfl
set_option maxRecDepth 40000 in
theorem ml_RX7_151 : Cond.methodLink RX7 151 yX7_isWind ∈ gtb := gmem 857 rfl rfl
set_option maxRecDepth 40000 in
theorem ml_RX7_154 : Cond.methodLink RX7 154 yX7_isKite ∈ gtb := gmem 861 rfl rfl
set_option maxRecDepth 40000 in
theorem kl_RX7_115 : Cond.constantLong RX7 115 (8740238) ∈ gtb := gmem 865 rfl rfl
set_option maxRecDepth 40000 in
theorem kl_RX7_117 : Cond.constantLong RX7 117 (230304361) ∈ gtb := gmem 866 rfl rfl
set_option maxRecDepth 40000 in
theorem kl_RX7_119 : Cond.constantLong RX7 119 (383153) ∈ gtb := gmem 867 rfl rfl
set_option maxRecDepth 40000 in
theorem kl_RX7_121 : Cond.constantLong RX7 121 (374961) ∈ gtb := gmem 868 rfl rfl
set_option maxRecDepth 40000 in
theorem kl_RX7_123 : Cond.constantLong RX7 123 (405095) ∈ gtb := gmem 869 rfl rfl
set_option maxRecDepth 40000 in
theorem ml_RL_32 : Cond.methodLink RL 32 yX7_river ∈ gtb := gmem 870 rfl rfl
set_option maxRecDepth 40000 in
theorem ml_RX7_173 : Cond.methodLink RX7 173 yX7_doLine ∈ gtb := gmem 874 rfl rfl
set_option maxRecDepth 40000 in
theorem ml_RL_37 : Cond.methodLink RL 37 yX7_reach ∈ gtb := gmem 878 rfl rfl
set_option maxRecDepth 40000 in
theorem ml_RX7_177 : Cond.methodLink RX7 177 yX7_isReach ∈ gtb := gmem 882 rfl rfl
set_option maxRecDepth 40000 in
theorem ml_RL_42 : Cond.methodLink RL 42 yX7_wind ∈ gtb := gmem 886 rfl rfl
set_option maxRecDepth 40000 in
theorem ml_RX7_180 : Cond.methodLink RX7 180 yX7_isLayer ∈ gtb := gmem 890 rfl rfl
set_option maxRecDepth 40000 in
theorem ml_RX7_183 : Cond.methodLink RX7 183 yX7_isHour ∈ gtb := gmem 893 rfl rfl
set_option maxRecDepth 40000 in
theorem ml_RL_46 : Cond.methodLink RL 46 yX7_barge ∈ gtb := gmem 896 rfl rfl
set_option maxRecDepth 40000 in
theorem ml_RX7_186 : Cond.methodLink RX7 186 yX7_isBarge ∈ gtb := gmem 900 rfl rfl
set_option maxRecDepth 40000 in
theorem ml_RX7_68 : Cond.methodLink RX7 68 yX7_has ∈ gtb := gmem 904 rfl rfl
set_option maxRecDepth 40000 in
theorem ml_RX7_189 : Cond.methodLink RX7 189 yX7_cordOf ∈ gtb := gmem 907 rfl rfl
set_option maxRecDepth 40000 in
theorem ml_RL_50 : Cond.methodLink RL 50 yX7_as ∈ gtb := gmem 911 rfl rfl
set_option maxRecDepth 40000 in
theorem ml_RX7_193 : Cond.methodLink RX7 193 yX7_pull ∈ gtb := gmem 915 rfl rfl
set_option maxRecDepth 40000 in
theorem ml_RL_55 : Cond.methodLink RL 55 yX7_yards ∈ gtb := gmem 918 rfl rfl
set_option maxRecDepth 40000 in
theorem ml_RX7_201 : Cond.methodLink RX7 201 yX7_yardsOf ∈ gtb := gmem 922 rfl rfl
set_option maxRecDepth 40000 in
theorem ml_RX7_197 : Cond.methodLink RX7 197 yX7_off ∈ gtb := gmem 926 rfl rfl
set_option maxRecDepth 40000 in
theorem ml_RL_59 : Cond.methodLink RL 59 yX7_cord ∈ gtb := gmem 929 rfl rfl
set_option maxRecDepth 40000 in
theorem ml_RL_64 : Cond.methodLink RL 64 yX7_go ∈ gtb := gmem 933 rfl rfl
set_option maxRecDepth 40000 in
theorem ml_RX7_205 : Cond.methodLink RX7 205 yX7_goes ∈ gtb := gmem 937 rfl rfl
set_option maxRecDepth 40000 in
theorem ml_RL_68 : Cond.methodLink RL 68 yX7_at ∈ gtb := gmem 941 rfl rfl
set_option maxRecDepth 40000 in
theorem ml_RL_72 : Cond.methodLink RL 72 yX7_knots ∈ gtb := gmem 945 rfl rfl
set_option maxRecDepth 40000 in
theorem ml_RX7_208 : Cond.methodLink RX7 208 yX7_isKnot ∈ gtb := gmem 949 rfl rfl
set_option maxRecDepth 40000 in
theorem ml_RL_76 : Cond.methodLink RL 76 yX7_keep ∈ gtb := gmem 952 rfl rfl
set_option maxRecDepth 40000 in
theorem ml_RL_80 : Cond.methodLink RL 80 yX7_back ∈ gtb := gmem 956 rfl rfl
set_option maxRecDepth 40000 in
theorem ml_RL_84 : Cond.methodLink RL 84 yX7_soonest ∈ gtb := gmem 960 rfl rfl
set_option maxRecDepth 40000 in
theorem ml_RX7_236 : Cond.methodLink RX7 236 yX7_isSoonest ∈ gtb := gmem 964 rfl rfl
set_option maxRecDepth 40000 in
theorem ml_RX7_230 : Cond.methodLink RX7 230 yX7_noOther ∈ gtb := gmem 968 rfl rfl
set_option maxRecDepth 40000 in
theorem ml_RX7_233 : Cond.methodLink RX7 233 yX7_findPlan ∈ gtb := gmem 972 rfl rfl
set_option maxRecDepth 40000 in
theorem ml_RX7_220 : Cond.methodLink RX7 220 yX7_layLeft ∈ gtb := gmem 976 rfl rfl
set_option maxRecDepth 40000 in
theorem ki_RX7_212 : Cond.constant RX7 212 (1000000) ∈ gtb := gmem 980 rfl rfl
set_option maxRecDepth 40000 in
theorem ml_RX7_213 : Cond.methodLink RX7 213 yX7_isPlace ∈ gtb := gmem 981 rfl rfl
set_option maxRecDepth 40000 in
theorem ml_RX7_216 : Cond.methodLink RX7 216 yX7_through ∈ gtb := gmem 985 rfl rfl
set_option maxRecDepth 40000 in
theorem ml_RX7_239 : Cond.methodLink RX7 239 yX7_tell ∈ gtb := gmem 989 rfl rfl
set_option maxRecDepth 40000 in
theorem ml_RL_88 : Cond.methodLink RL 88 yX7_clear ∈ gtb := gmem 993 rfl rfl
set_option maxRecDepth 40000 in
theorem ml_RL_93 : Cond.methodLink RL 93 yX7_odds ∈ gtb := gmem 997 rfl rfl
set_option maxRecDepth 40000 in
theorem ml_RX7_243 : Cond.methodLink RX7 243 yX7_areOdds ∈ gtb := gmem 1001 rfl rfl
set_option maxRecDepth 40000 in
theorem ml_RX7_246 : Cond.methodLink RX7 246 yX7_byRow ∈ gtb := gmem 1004 rfl rfl
set_option maxRecDepth 40000 in
theorem ml_RX7_250 : Cond.methodLink RX7 250 yX7_power ∈ gtb := gmem 1008 rfl rfl
set_option maxRecDepth 40000 in
theorem ml_RX7_254 : Cond.methodLink RX7 254 yX7_part ∈ gtb := gmem 1011 rfl rfl
set_option maxRecDepth 40000 in
theorem ml_RL_97 : Cond.methodLink RL 97 yX7_sight ∈ gtb := gmem 1014 rfl rfl
set_option maxRecDepth 40000 in
theorem ml_RX7_258 : Cond.methodLink RX7 258 yX7_sightOf ∈ gtb := gmem 1018 rfl rfl
set_option maxRecDepth 40000 in
theorem ml_RL_101 : Cond.methodLink RL 101 yX7_blind ∈ gtb := gmem 1022 rfl rfl
set_option maxRecDepth 40000 in
theorem ml_RX7_262 : Cond.methodLink RX7 262 yX7_blindOf ∈ gtb := gmem 1026 rfl rfl
set_option maxRecDepth 40000 in
theorem ml_RL_105 : Cond.methodLink RL 105 yX7_worth ∈ gtb := gmem 1030 rfl rfl
set_option maxRecDepth 40000 in
theorem ml_RL_109 : Cond.methodLink RL 109 yX7_found ∈ gtb := gmem 1034 rfl rfl
set_option maxRecDepth 40000 in
theorem ml_RX7_265 : Cond.methodLink RX7 265 yX7_firstOf ∈ gtb := gmem 1038 rfl rfl
set_option maxRecDepth 40000 in
theorem ml_RL_113 : Cond.methodLink RL 113 yX7_first ∈ gtb := gmem 1042 rfl rfl
set_option maxRecDepth 40000 in
theorem ml_RL_117 : Cond.methodLink RL 117 yX7_books ∈ gtb := gmem 1046 rfl rfl
set_option maxRecDepth 40000 in
theorem ml_RL_121 : Cond.methodLink RL 121 yX7_count ∈ gtb := gmem 1050 rfl rfl
set_option maxRecDepth 40000 in
theorem kl_RL_13 : Cond.constantLong RL 13 (4294967295) ∈ gtb := gmem 1054 rfl rfl
set_option maxRecDepth 40000 in
theorem fl_RJ0_9 : Cond.fieldLink RJ0 9 "java/lang/String" "value" "[B" ∈ gtb := gmem 1055 rfl rfl
set_option maxRecDepth 40000 in
theorem fl_RJ0_15 : Cond.fieldLink RJ0 15 "java/lang/String" "coder" "B" ∈ gtb := gmem 1056 rfl rfl
set_option maxRecDepth 40000 in
theorem inX0 : ∀ w ∈ u_ws RX0 TX0 6, w ∈ gtb := by
  have e : u_ws RX0 TX0 6 = [.lays "KiteBarges$Fleet" "KiteBarges$Fleet" "hours" "I", .laysFinal "KiteBarges$Fleet" "KiteBarges$Fleet" "place" "[I", .laysFinal "KiteBarges$Fleet" "KiteBarges$Fleet" "layer" "[I", .laysFinal "KiteBarges$Fleet" "KiteBarges$Fleet" "lastLayer" "[I", .laysFinal "KiteBarges$Fleet" "KiteBarges$Fleet" "run" "[I", .laysFinal "KiteBarges$Fleet" "KiteBarges$Fleet" "stayed" "[I"] := rfl
  rw [e]
  exact List.forall_mem_cons.mpr ⟨gmem 140 rfl rfl, List.forall_mem_cons.mpr ⟨gmem 142 rfl rfl, List.forall_mem_cons.mpr ⟨gmem 144 rfl rfl, List.forall_mem_cons.mpr ⟨gmem 146 rfl rfl, List.forall_mem_cons.mpr ⟨gmem 148 rfl rfl, List.forall_mem_cons.mpr ⟨gmem 150 rfl rfl, fun _ h => absurd h List.not_mem_nil⟩⟩⟩⟩⟩⟩
set_option maxRecDepth 40000 in
theorem inX1 : ∀ w ∈ u_ws RX1 TX1 2, w ∈ gtb := by
  have e : u_ws RX1 TX1 2 = [.laysFinal "KiteBarges$Line" "KiteBarges$Line" "place" "[I", .laysFinal "KiteBarges$Line" "KiteBarges$Line" "layer" "[I"] := rfl
  rw [e]
  exact List.forall_mem_cons.mpr ⟨gmem 173 rfl rfl, List.forall_mem_cons.mpr ⟨gmem 175 rfl rfl, fun _ h => absurd h List.not_mem_nil⟩⟩
set_option maxRecDepth 40000 in
theorem inX2 : ∀ w ∈ u_ws RX2 TX2 8, w ∈ gtb := by
  have e : u_ws RX2 TX2 8 = [.laysFinal "KiteBarges$Lulls" "KiteBarges$Lulls" "river" "LKiteBarges$River;", .laysFinal "KiteBarges$Lulls" "KiteBarges$Lulls" "placeAt" "[I", .laysFinal "KiteBarges$Lulls" "KiteBarges$Lulls" "chanceOf" "[J", .lays "KiteBarges$Lulls" "KiteBarges$Lulls" "values" "[J", .lays "KiteBarges$Lulls" "KiteBarges$Lulls" "laterValues" "[J", .laysFinal "KiteBarges$Lulls" "KiteBarges$Lulls" "hoursTo" "[I", .laysFinal "KiteBarges$Lulls" "KiteBarges$Lulls" "ifLull" "[J", .laysFinal "KiteBarges$Lulls" "KiteBarges$Lulls" "ifWind" "[J"] := rfl
  rw [e]
  exact List.forall_mem_cons.mpr ⟨gmem 226 rfl rfl, List.forall_mem_cons.mpr ⟨gmem 228 rfl rfl, List.forall_mem_cons.mpr ⟨gmem 230 rfl rfl, List.forall_mem_cons.mpr ⟨gmem 232 rfl rfl, List.forall_mem_cons.mpr ⟨gmem 234 rfl rfl, List.forall_mem_cons.mpr ⟨gmem 236 rfl rfl, List.forall_mem_cons.mpr ⟨gmem 238 rfl rfl, List.forall_mem_cons.mpr ⟨gmem 240 rfl rfl, fun _ h => absurd h List.not_mem_nil⟩⟩⟩⟩⟩⟩⟩⟩
set_option maxRecDepth 40000 in
theorem inX3 : ∀ w ∈ u_ws RX3 TX3 10, w ∈ gtb := by
  have e : u_ws RX3 TX3 10 = [.laysFinal "KiteBarges$Planner" "KiteBarges$Planner" "hoursOf" "[I", .laysFinal "KiteBarges$Planner" "KiteBarges$Planner" "river" "LKiteBarges$River;", .laysFinal "KiteBarges$Planner" "KiteBarges$Planner" "runOf" "[I", .laysFinal "KiteBarges$Planner" "KiteBarges$Planner" "rowOf" "[J", .laysFinal "KiteBarges$Planner" "KiteBarges$Planner" "nobody" "LKiteBarges$Line;", .laysFinal "KiteBarges$Planner" "KiteBarges$Planner" "drawn" "LKiteBarges$Line;", .lays "KiteBarges$Planner" "KiteBarges$Planner" "runs" "[I", .lays "KiteBarges$Planner" "KiteBarges$Planner" "rows" "[J", .lays "KiteBarges$Planner" "KiteBarges$Planner" "nextRuns" "[I", .lays "KiteBarges$Planner" "KiteBarges$Planner" "nextRows" "[J"] := rfl
  rw [e]
  exact List.forall_mem_cons.mpr ⟨gmem 191 rfl rfl, List.forall_mem_cons.mpr ⟨gmem 193 rfl rfl, List.forall_mem_cons.mpr ⟨gmem 195 rfl rfl, List.forall_mem_cons.mpr ⟨gmem 197 rfl rfl, List.forall_mem_cons.mpr ⟨gmem 199 rfl rfl, List.forall_mem_cons.mpr ⟨gmem 201 rfl rfl, List.forall_mem_cons.mpr ⟨gmem 203 rfl rfl, List.forall_mem_cons.mpr ⟨gmem 205 rfl rfl, List.forall_mem_cons.mpr ⟨gmem 207 rfl rfl, List.forall_mem_cons.mpr ⟨gmem 209 rfl rfl, fun _ h => absurd h List.not_mem_nil⟩⟩⟩⟩⟩⟩⟩⟩⟩⟩
set_option maxRecDepth 40000 in
theorem inX4 : ∀ w ∈ u_ws RX4 TX4 12, w ∈ gtb := by
  have e : u_ws RX4 TX4 12 = [.lays "KiteBarges$River" "KiteBarges$River" "reaches" "I", .lays "KiteBarges$River" "KiteBarges$River" "still" "I", .laysFinal "KiteBarges$River" "KiteBarges$River" "way" "[I", .laysFinal "KiteBarges$River" "KiteBarges$River" "yardsLong" "[I", .laysFinal "KiteBarges$River" "KiteBarges$River" "kind" "[I", .laysFinal "KiteBarges$River" "KiteBarges$River" "windWay" "[I", .laysFinal "KiteBarges$River" "KiteBarges$River" "strength" "[I", .laysFinal "KiteBarges$River" "KiteBarges$River" "told" "[Z", .laysFinal "KiteBarges$River" "KiteBarges$River" "weight" "[I", .laysFinal "KiteBarges$River" "KiteBarges$River" "cordLong" "[I", .laysFinal "KiteBarges$River" "KiteBarges$River" "kite" "[I", .laysFinal "KiteBarges$River" "KiteBarges$River" "freight" "[I"] := rfl
  rw [e]
  exact List.forall_mem_cons.mpr ⟨gmem 56 rfl rfl, List.forall_mem_cons.mpr ⟨gmem 58 rfl rfl, List.forall_mem_cons.mpr ⟨gmem 60 rfl rfl, List.forall_mem_cons.mpr ⟨gmem 62 rfl rfl, List.forall_mem_cons.mpr ⟨gmem 64 rfl rfl, List.forall_mem_cons.mpr ⟨gmem 66 rfl rfl, List.forall_mem_cons.mpr ⟨gmem 68 rfl rfl, List.forall_mem_cons.mpr ⟨gmem 70 rfl rfl, List.forall_mem_cons.mpr ⟨gmem 72 rfl rfl, List.forall_mem_cons.mpr ⟨gmem 74 rfl rfl, List.forall_mem_cons.mpr ⟨gmem 76 rfl rfl, List.forall_mem_cons.mpr ⟨gmem 78 rfl rfl, fun _ h => absurd h List.not_mem_nil⟩⟩⟩⟩⟩⟩⟩⟩⟩⟩⟩⟩
set_option maxRecDepth 40000 in
theorem inX5 : ∀ w ∈ u_ws RX5 TX5 10, w ∈ gtb := by
  have e : u_ws RX5 TX5 10 = [.lays "KiteBarges$Text" "KiteBarges$Text" "length" "I", .lays "KiteBarges$Text" "KiteBarges$Text" "lines" "I", .laysFinal "KiteBarges$Text" "KiteBarges$Text" "bytes" "[I", .lays "KiteBarges$Text" "KiteBarges$Text" "tokenKind" "I", .lays "KiteBarges$Text" "KiteBarges$Text" "place" "I", .lays "KiteBarges$Text" "KiteBarges$Text" "end" "I", .lays "KiteBarges$Text" "KiteBarges$Text" "word" "I", .lays "KiteBarges$Text" "KiteBarges$Text" "filled" "I", .laysFinal "KiteBarges$Text" "KiteBarges$Text" "numbers" "[I", .lays "KiteBarges$Text" "KiteBarges$Text" "reaches" "I"] := rfl
  rw [e]
  exact List.forall_mem_cons.mpr ⟨gmem 101 rfl rfl, List.forall_mem_cons.mpr ⟨gmem 103 rfl rfl, List.forall_mem_cons.mpr ⟨gmem 105 rfl rfl, List.forall_mem_cons.mpr ⟨gmem 107 rfl rfl, List.forall_mem_cons.mpr ⟨gmem 109 rfl rfl, List.forall_mem_cons.mpr ⟨gmem 111 rfl rfl, List.forall_mem_cons.mpr ⟨gmem 113 rfl rfl, List.forall_mem_cons.mpr ⟨gmem 115 rfl rfl, List.forall_mem_cons.mpr ⟨gmem 117 rfl rfl, List.forall_mem_cons.mpr ⟨gmem 119 rfl rfl, fun _ h => absurd h List.not_mem_nil⟩⟩⟩⟩⟩⟩⟩⟩⟩⟩
set_option maxRecDepth 40000 in
theorem inX6 : ∀ w ∈ u_ws RX6 TX6 7, w ∈ gtb := by
  have e : u_ws RX6 TX6 7 = [.laysFinal "KiteBarges" "KiteBarges" "river" "LKiteBarges$River;", .laysFinal "KiteBarges" "KiteBarges" "text" "LKiteBarges$Text;", .laysFinal "KiteBarges" "KiteBarges" "fleet" "LKiteBarges$Fleet;", .laysFinal "KiteBarges" "KiteBarges" "kept" "[LKiteBarges$Fleet;", .laysFinal "KiteBarges" "KiteBarges" "isKept" "[Z", .laysFinal "KiteBarges" "KiteBarges" "planner" "LKiteBarges$Planner;", .laysFinal "KiteBarges" "KiteBarges" "lulls" "LKiteBarges$Lulls;"] := rfl
  rw [e]
  exact List.forall_mem_cons.mpr ⟨gmem 250 rfl rfl, List.forall_mem_cons.mpr ⟨gmem 252 rfl rfl, List.forall_mem_cons.mpr ⟨gmem 254 rfl rfl, List.forall_mem_cons.mpr ⟨gmem 256 rfl rfl, List.forall_mem_cons.mpr ⟨gmem 258 rfl rfl, List.forall_mem_cons.mpr ⟨gmem 260 rfl rfl, List.forall_mem_cons.mpr ⟨gmem 262 rfl rfl, fun _ h => absurd h List.not_mem_nil⟩⟩⟩⟩⟩⟩⟩
set_option maxRecDepth 40000 in
theorem inX7 : ∀ w ∈ u_ws RX7 TX7 28, w ∈ gtb := by
  have e : u_ws RX7 TX7 28 = [.lays "KiteBargesModel" "KiteBargesModel" "reaches" "I", .laysFinal "KiteBargesModel" "KiteBargesModel" "reach" "[I", .laysFinal "KiteBargesModel" "KiteBargesModel" "wind" "[I", .lays "KiteBargesModel" "KiteBargesModel" "still" "I", .lays "KiteBargesModel" "KiteBargesModel" "told" "I", .laysFinal "KiteBargesModel" "KiteBargesModel" "barge" "[I", .lays "KiteBargesModel" "KiteBargesModel" "bytes" "I", .laysFinal "KiteBargesModel" "KiteBargesModel" "text" "[I", .lays "KiteBargesModel" "KiteBargesModel" "position" "I", .lays "KiteBargesModel" "KiteBargesModel" "tokenAt" "I", .lays "KiteBargesModel" "KiteBargesModel" "token" "J", .lays "KiteBargesModel" "KiteBargesModel" "digits" "I", .lays "KiteBargesModel" "KiteBargesModel" "number" "I", .lays "KiteBargesModel" "KiteBargesModel" "faultAt" "I", .lays "KiteBargesModel" "KiteBargesModel" "readMany" "I", .lays "KiteBargesModel" "KiteBargesModel" "readReaches" "I", .laysFinal "KiteBargesModel" "KiteBargesModel" "read" "[I", .laysFinal "KiteBargesModel" "KiteBargesModel" "now" "[I", .laysFinal "KiteBargesModel" "KiteBargesModel" "image" "[I", .laysFinal "KiteBargesModel" "KiteBargesModel" "isKept" "[Z", .laysFinal "KiteBargesModel" "KiteBargesModel" "left" "[I", .lays "KiteBargesModel" "KiteBargesModel" "planHours" "I", .lays "KiteBargesModel" "KiteBargesModel" "planRun" "I", .laysFinal "KiteBargesModel" "KiteBargesModel" "planLayer" "[I", .laysFinal "KiteBargesModel" "KiteBargesModel" "planPlace" "[I", .laysFinal "KiteBargesModel" "KiteBargesModel" "otherPlace" "[I", .laysFinal "KiteBargesModel" "KiteBargesModel" "otherLayer" "[I", .laysFinal "KiteBargesModel" "KiteBargesModel" "chance" "[J"] := rfl
  rw [e]
  exact List.forall_mem_cons.mpr ⟨gmem 746 rfl rfl, List.forall_mem_cons.mpr ⟨gmem 748 rfl rfl, List.forall_mem_cons.mpr ⟨gmem 750 rfl rfl, List.forall_mem_cons.mpr ⟨gmem 752 rfl rfl, List.forall_mem_cons.mpr ⟨gmem 754 rfl rfl, List.forall_mem_cons.mpr ⟨gmem 756 rfl rfl, List.forall_mem_cons.mpr ⟨gmem 758 rfl rfl, List.forall_mem_cons.mpr ⟨gmem 760 rfl rfl, List.forall_mem_cons.mpr ⟨gmem 762 rfl rfl, List.forall_mem_cons.mpr ⟨gmem 764 rfl rfl, List.forall_mem_cons.mpr ⟨gmem 766 rfl rfl, List.forall_mem_cons.mpr ⟨gmem 768 rfl rfl, List.forall_mem_cons.mpr ⟨gmem 770 rfl rfl, List.forall_mem_cons.mpr ⟨gmem 772 rfl rfl, List.forall_mem_cons.mpr ⟨gmem 774 rfl rfl, List.forall_mem_cons.mpr ⟨gmem 776 rfl rfl, List.forall_mem_cons.mpr ⟨gmem 778 rfl rfl, List.forall_mem_cons.mpr ⟨gmem 780 rfl rfl, List.forall_mem_cons.mpr ⟨gmem 782 rfl rfl, List.forall_mem_cons.mpr ⟨gmem 784 rfl rfl, List.forall_mem_cons.mpr ⟨gmem 786 rfl rfl, List.forall_mem_cons.mpr ⟨gmem 788 rfl rfl, List.forall_mem_cons.mpr ⟨gmem 790 rfl rfl, List.forall_mem_cons.mpr ⟨gmem 792 rfl rfl, List.forall_mem_cons.mpr ⟨gmem 794 rfl rfl, List.forall_mem_cons.mpr ⟨gmem 796 rfl rfl, List.forall_mem_cons.mpr ⟨gmem 798 rfl rfl, List.forall_mem_cons.mpr ⟨gmem 800 rfl rfl, fun _ h => absurd h List.not_mem_nil⟩⟩⟩⟩⟩⟩⟩⟩⟩⟩⟩⟩⟩⟩⟩⟩⟩⟩⟩⟩⟩⟩⟩⟩⟩⟩⟩⟩
/-- what the tables say of a method that is called on an object -/
def MV (y : MethodName) (cc : ByteArray) (maxL : Nat) (ret : Option FieldType) (n : Nat) : Prop := Cond.code y cc maxL ret ∈ gtb ∧ Cond.instanceMethod y ∈ gtb ∧ Cond.selects y.cls y y ∈ gtb ∧ Cond.initialized y.cls ∈ gtb ∧ (y.cls ≠ "java/lang/invoke/MethodHandle" ∧ y.cls ≠ "java/lang/invoke/VarHandle" ∧ (parseMethodDescriptor y.desc).map (fun d => d.parameters.length) = some n)
def MS (y : MethodName) (cc : ByteArray) (maxL : Nat) (ret : Option FieldType) (n : Nat) : Prop := Cond.code y cc maxL ret ∈ gtb ∧ Cond.static y ∈ gtb ∧ Cond.initialized y.cls ∈ gtb ∧ (y.cls ≠ "java/lang/invoke/MethodHandle" ∧ y.cls ≠ "java/lang/invoke/VarHandle" ∧ (parseMethodDescriptor y.desc).map (fun d => d.parameters.length) = some n)
set_option maxRecDepth 40000 in
theorem mv_X0_begin : MV yX0_begin cX0_begin 2 (Option.none : Option Jvm.ClassFile.FieldType) 1 := ⟨gmem 411 rfl rfl, gmem 409 rfl rfl, gmem 410 rfl rfl, gmem 4 rfl rfl, ⟨by decide, by decide, by decide +kernel⟩⟩
set_option maxRecDepth 40000 in
theorem mv_X0_copyFrom : MV yX0_copyFrom cX0_copyFrom 2 (Option.none : Option Jvm.ClassFile.FieldType) 1 := ⟨gmem 517 rfl rfl, gmem 515 rfl rfl, gmem 516 rfl rfl, gmem 4 rfl rfl, ⟨by decide, by decide, by decide +kernel⟩⟩
set_option maxRecDepth 40000 in
theorem mv_X0_change : MV yX0_change cX0_change 4 (Option.some .int) 2 := ⟨gmem 477 rfl rfl, gmem 475 rfl rfl, gmem 476 rfl rfl, gmem 4 rfl rfl, ⟨by decide, by decide, by decide +kernel⟩⟩
set_option maxRecDepth 40000 in
theorem mv_X0_passHour : MV yX0_passHour cX0_passHour 5 (Option.none : Option Jvm.ClassFile.FieldType) 2 := ⟨gmem 489 rfl rfl, gmem 487 rfl rfl, gmem 488 rfl rfl, gmem 4 rfl rfl, ⟨by decide, by decide, by decide +kernel⟩⟩
set_option maxRecDepth 40000 in
theorem mv_X0_areKnotted : MV yX0_areKnotted cX0_areKnotted 3 (Option.some .boolean) 2 := ⟨gmem 506 rfl rfl, gmem 504 rfl rfl, gmem 505 rfl rfl, gmem 4 rfl rfl, ⟨by decide, by decide, by decide +kernel⟩⟩
set_option maxRecDepth 40000 in
theorem mv_X2_start : MV yX2_start cX2_start 5 (Option.none : Option Jvm.ClassFile.FieldType) 2 := ⟨gmem 595 rfl rfl, gmem 593 rfl rfl, gmem 594 rfl rfl, gmem 8 rfl rfl, ⟨by decide, by decide, by decide +kernel⟩⟩
set_option maxRecDepth 40000 in
theorem mv_X2_branch : MV yX2_branch cX2_branch 5 (Option.none : Option Jvm.ClassFile.FieldType) 3 := ⟨gmem 605 rfl rfl, gmem 603 rfl rfl, gmem 604 rfl rfl, gmem 8 rfl rfl, ⟨by decide, by decide, by decide +kernel⟩⟩
set_option maxRecDepth 40000 in
theorem mv_X2_thereAfter : MV yX2_thereAfter cX2_thereAfter 5 (Option.some .long) 1 := ⟨gmem 610 rfl rfl, gmem 608 rfl rfl, gmem 609 rfl rfl, gmem 8 rfl rfl, ⟨by decide, by decide, by decide +kernel⟩⟩
set_option maxRecDepth 40000 in
theorem mv_X2_bestBlind : MV yX2_bestBlind cX2_bestBlind 4 (Option.some .long) 3 := ⟨gmem 660 rfl rfl, gmem 658 rfl rfl, gmem 659 rfl rfl, gmem 8 rfl rfl, ⟨by decide, by decide, by decide +kernel⟩⟩
set_option maxRecDepth 40000 in
theorem mv_X2_bestRow : MV yX2_bestRow cX2_bestRow 10 (Option.some .long) 4 := ⟨gmem 665 rfl rfl, gmem 664 rfl rfl, gsel 24 rfl rfl, gmem 8 rfl rfl, ⟨by decide, by decide, by decide +kernel⟩⟩
set_option maxRecDepth 40000 in
theorem mv_X2_bestSeeing : MV yX2_bestSeeing cX2_bestSeeing 6 (Option.some .long) 3 := ⟨gmem 624 rfl rfl, gmem 622 rfl rfl, gmem 623 rfl rfl, gmem 8 rfl rfl, ⟨by decide, by decide, by decide +kernel⟩⟩
set_option maxRecDepth 40000 in
theorem mv_X2_findPlaces : MV yX2_findPlaces cX2_findPlaces 5 (Option.none : Option Jvm.ClassFile.FieldType) 2 := ⟨gmem 628 rfl rfl, gmem 627 rfl rfl, gsel 20 rfl rfl, gmem 8 rfl rfl, ⟨by decide, by decide, by decide +kernel⟩⟩
set_option maxRecDepth 40000 in
theorem mv_X2_findNext : MV yX2_findNext cX2_findNext 6 (Option.none : Option Jvm.ClassFile.FieldType) 3 := ⟨gmem 633 rfl rfl, gmem 632 rfl rfl, gsel 21 rfl rfl, gmem 8 rfl rfl, ⟨by decide, by decide, by decide +kernel⟩⟩
set_option maxRecDepth 40000 in
theorem mv_X2_valuePlace : MV yX2_valuePlace cX2_valuePlace 7 (Option.none : Option Jvm.ClassFile.FieldType) 4 := ⟨gmem 640 rfl rfl, gmem 639 rfl rfl, gsel 22 rfl rfl, gmem 8 rfl rfl, ⟨by decide, by decide, by decide +kernel⟩⟩
set_option maxRecDepth 40000 in
theorem ms_X2_greatest : MS yX2_greatest cX2_greatest 7 (Option.some .long) 3 := ⟨gmem 644 rfl rfl, gmem 643 rfl rfl, gmem 8 rfl rfl, ⟨by decide, by decide, by decide +kernel⟩⟩
set_option maxRecDepth 40000 in
theorem mv_X2_swap : MV yX2_swap cX2_swap 2 (Option.none : Option Jvm.ClassFile.FieldType) 0 := ⟨gmem 652 rfl rfl, gmem 651 rfl rfl, gsel 23 rfl rfl, gmem 8 rfl rfl, ⟨by decide, by decide, by decide +kernel⟩⟩
set_option maxRecDepth 40000 in
theorem mv_X3_forget : MV yX3_forget cX3_forget 1 (Option.none : Option Jvm.ClassFile.FieldType) 0 := ⟨gmem 416 rfl rfl, gmem 414 rfl rfl, gmem 415 rfl rfl, gmem 5 rfl rfl, ⟨by decide, by decide, by decide +kernel⟩⟩
set_option maxRecDepth 40000 in
theorem mv_X3_soonestOf : MV yX3_soonestOf cX3_soonestOf 4 (Option.some .int) 2 := ⟨gmem 532 rfl rfl, gmem 530 rfl rfl, gmem 531 rfl rfl, gmem 5 rfl rfl, ⟨by decide, by decide, by decide +kernel⟩⟩
set_option maxRecDepth 40000 in
theorem mv_X3_clearOf : MV yX3_clearOf cX3_clearOf 5 (Option.some .int) 3 := ⟨gmem 578 rfl rfl, gmem 576 rfl rfl, gmem 577 rfl rfl, gmem 5 rfl rfl, ⟨by decide, by decide, by decide +kernel⟩⟩
set_option maxRecDepth 40000 in
theorem mv_X3_answerOf : MV yX3_answerOf cX3_answerOf 4 (Option.some .int) 2 := ⟨gmem 566 rfl rfl, gmem 564 rfl rfl, gmem 565 rfl rfl, gmem 5 rfl rfl, ⟨by decide, by decide, by decide +kernel⟩⟩
set_option maxRecDepth 40000 in
theorem mv_X3_layerKept : MV yX3_layerKept cX3_layerKept 4 (Option.some .int) 2 := ⟨gmem 601 rfl rfl, gmem 599 rfl rfl, gmem 600 rfl rfl, gmem 5 rfl rfl, ⟨by decide, by decide, by decide +kernel⟩⟩
set_option maxRecDepth 40000 in
theorem mv_X3_hourIn : MV yX3_hourIn cX3_hourIn 7 (Option.some .int) 4 := ⟨gmem 679 rfl rfl, gmem 677 rfl rfl, gmem 678 rfl rfl, gmem 5 rfl rfl, ⟨by decide, by decide, by decide +kernel⟩⟩
set_option maxRecDepth 40000 in
theorem mv_X3_layerIn : MV yX3_layerIn cX3_layerIn 6 (Option.some .int) 2 := ⟨gmem 570 rfl rfl, gmem 569 rfl rfl, gsel 17 rfl rfl, gmem 5 rfl rfl, ⟨by decide, by decide, by decide +kernel⟩⟩
set_option maxRecDepth 40000 in
theorem mv_X3_draw : MV yX3_draw cX3_draw 5 (Option.none : Option Jvm.ClassFile.FieldType) 2 := ⟨gmem 582 rfl rfl, gmem 581 rfl rfl, gsel 18 rfl rfl, gmem 5 rfl rfl, ⟨by decide, by decide, by decide +kernel⟩⟩
set_option maxRecDepth 40000 in
theorem mv_X3_search : MV yX3_search cX3_search 7 (Option.none : Option Jvm.ClassFile.FieldType) 4 := ⟨gmem 536 rfl rfl, gmem 535 rfl rfl, gsel 12 rfl rfl, gmem 5 rfl rfl, ⟨by decide, by decide, by decide +kernel⟩⟩
set_option maxRecDepth 40000 in
theorem mv_X3_spread : MV yX3_spread cX3_spread 12 (Option.none : Option Jvm.ClassFile.FieldType) 4 := ⟨gmem 545 rfl rfl, gmem 544 rfl rfl, gsel 14 rfl rfl, gmem 5 rfl rfl, ⟨by decide, by decide, by decide +kernel⟩⟩
set_option maxRecDepth 40000 in
theorem mv_X3_offer : MV yX3_offer cX3_offer 6 (Option.none : Option Jvm.ClassFile.FieldType) 3 := ⟨gmem 558 rfl rfl, gmem 557 rfl rfl, gsel 15 rfl rfl, gmem 5 rfl rfl, ⟨by decide, by decide, by decide +kernel⟩⟩
set_option maxRecDepth 40000 in
theorem mv_X3_swap : MV yX3_swap cX3_swap 3 (Option.none : Option Jvm.ClassFile.FieldType) 0 := ⟨gmem 562 rfl rfl, gmem 561 rfl rfl, gsel 16 rfl rfl, gmem 5 rfl rfl, ⟨by decide, by decide, by decide +kernel⟩⟩
set_option maxRecDepth 40000 in
theorem mv_X3_settle : MV yX3_settle cX3_settle 6 (Option.some .boolean) 2 := ⟨gmem 541 rfl rfl, gmem 540 rfl rfl, gsel 13 rfl rfl, gmem 5 rfl rfl, ⟨by decide, by decide, by decide +kernel⟩⟩
set_option maxRecDepth 40000 in
theorem mv_X4_hasReach : MV yX4_hasReach cX4_hasReach 2 (Option.some .boolean) 1 := ⟨gmem 424 rfl rfl, gmem 422 rfl rfl, gmem 423 rfl rfl, gmem 2 rfl rfl, ⟨by decide, by decide, by decide +kernel⟩⟩
set_option maxRecDepth 40000 in
theorem mv_X4_hasBarge : MV yX4_hasBarge cX4_hasBarge 2 (Option.some .boolean) 1 := ⟨gmem 442 rfl rfl, gmem 440 rfl rfl, gmem 441 rfl rfl, gmem 2 rfl rfl, ⟨by decide, by decide, by decide +kernel⟩⟩
set_option maxRecDepth 40000 in
theorem mv_X4_cordOf : MV yX4_cordOf cX4_cordOf 2 (Option.some .int) 1 := ⟨gmem 446 rfl rfl, gmem 444 rfl rfl, gmem 445 rfl rfl, gmem 2 rfl rfl, ⟨by decide, by decide, by decide +kernel⟩⟩
set_option maxRecDepth 40000 in
theorem mv_X4_begin : MV yX4_begin cX4_begin 1 (Option.some .int) 0 := ⟨gmem 407 rfl rfl, gmem 405 rfl rfl, gmem 406 rfl rfl, gmem 2 rfl rfl, ⟨by decide, by decide, by decide +kernel⟩⟩
set_option maxRecDepth 40000 in
theorem mv_X4_toldBits : MV yX4_toldBits cX4_toldBits 3 (Option.some .int) 0 := ⟨gmem 699 rfl rfl, gmem 697 rfl rfl, gmem 698 rfl rfl, gmem 2 rfl rfl, ⟨by decide, by decide, by decide +kernel⟩⟩
set_option maxRecDepth 40000 in
theorem mv_X4_wholeLength : MV yX4_wholeLength cX4_wholeLength 3 (Option.some .int) 0 := ⟨gmem 703 rfl rfl, gmem 701 rfl rfl, gmem 702 rfl rfl, gmem 2 rfl rfl, ⟨by decide, by decide, by decide +kernel⟩⟩
set_option maxRecDepth 40000 in
theorem mv_X4_tell : MV yX4_tell cX4_tell 3 (Option.none : Option Jvm.ClassFile.FieldType) 2 := ⟨gmem 386 rfl rfl, gmem 384 rfl rfl, gmem 385 rfl rfl, gmem 2 rfl rfl, ⟨by decide, by decide, by decide +kernel⟩⟩
set_option maxRecDepth 40000 in
theorem mv_X4_addReach : MV yX4_addReach cX4_addReach 4 (Option.none : Option Jvm.ClassFile.FieldType) 3 := ⟨gmem 398 rfl rfl, gmem 397 rfl rfl, gsel 11 rfl rfl, gmem 2 rfl rfl, ⟨by decide, by decide, by decide +kernel⟩⟩
set_option maxRecDepth 40000 in
theorem mv_X4_tellWind : MV yX4_tellWind cX4_tellWind 3 (Option.none : Option Jvm.ClassFile.FieldType) 1 := ⟨gmem 390 rfl rfl, gmem 389 rfl rfl, gsel 9 rfl rfl, gmem 2 rfl rfl, ⟨by decide, by decide, by decide +kernel⟩⟩
set_option maxRecDepth 40000 in
theorem mv_X4_tellBarge : MV yX4_tellBarge cX4_tellBarge 3 (Option.none : Option Jvm.ClassFile.FieldType) 1 := ⟨gmem 394 rfl rfl, gmem 393 rfl rfl, gsel 10 rfl rfl, gmem 2 rfl rfl, ⟨by decide, by decide, by decide +kernel⟩⟩
set_option maxRecDepth 40000 in
theorem ms_X4_pulled : MS yX4_pulled cX4_pulled 5 (Option.some .int) 3 := ⟨gmem 453 rfl rfl, gmem 452 rfl rfl, gmem 2 rfl rfl, ⟨by decide, by decide, by decide +kernel⟩⟩
set_option maxRecDepth 40000 in
theorem mv_X4_stepOf : MV yX4_stepOf cX4_stepOf 6 (Option.some .int) 4 := ⟨gmem 465 rfl rfl, gmem 463 rfl rfl, gmem 464 rfl rfl, gmem 2 rfl rfl, ⟨by decide, by decide, by decide +kernel⟩⟩
set_option maxRecDepth 40000 in
theorem mv_X4_moved : MV yX4_moved cX4_moved 7 (Option.some .int) 4 := ⟨gmem 493 rfl rfl, gmem 491 rfl rfl, gmem 492 rfl rfl, gmem 2 rfl rfl, ⟨by decide, by decide, by decide +kernel⟩⟩
set_option maxRecDepth 40000 in
theorem mv_X5_append : MV yX5_append cX5_append 5 (Option.some .boolean) 2 := ⟨gmem 272 rfl rfl, gmem 270 rfl rfl, gmem 271 rfl rfl, gmem 3 rfl rfl, ⟨by decide, by decide, by decide +kernel⟩⟩
set_option maxRecDepth 40000 in
theorem mv_X5_read : MV yX5_read cX5_read 4 (Option.some .int) 2 := ⟨gmem 285 rfl rfl, gmem 283 rfl rfl, gmem 284 rfl rfl, gmem 3 rfl rfl, ⟨by decide, by decide, by decide +kernel⟩⟩
set_option maxRecDepth 40000 in
theorem mv_X5_readLine : MV yX5_readLine cX5_readLine 1 (Option.some .boolean) 0 := ⟨gmem 289 rfl rfl, gmem 288 rfl rfl, gsel 0 rfl rfl, gmem 3 rfl rfl, ⟨by decide, by decide, by decide +kernel⟩⟩
set_option maxRecDepth 40000 in
theorem mv_X5_wordOfLine : MV yX5_wordOfLine cX5_wordOfLine 1 (Option.some .int) 0 := ⟨gmem 301 rfl rfl, gmem 300 rfl rfl, gsel 3 rfl rfl, gmem 3 rfl rfl, ⟨by decide, by decide, by decide +kernel⟩⟩
set_option maxRecDepth 40000 in
theorem mv_X5_kiteOfToken : MV yX5_kiteOfToken cX5_kiteOfToken 1 (Option.some .int) 0 := ⟨gmem 377 rfl rfl, gmem 376 rfl rfl, gsel 8 rfl rfl, gmem 3 rfl rfl, ⟨by decide, by decide, by decide +kernel⟩⟩
set_option maxRecDepth 40000 in
theorem mv_X5_readKite : MV yX5_readKite cX5_readKite 2 (Option.some .boolean) 0 := ⟨gmem 373 rfl rfl, gmem 372 rfl rfl, gsel 7 rfl rfl, gmem 3 rfl rfl, ⟨by decide, by decide, by decide +kernel⟩⟩
set_option maxRecDepth 40000 in
theorem mv_X5_readNumber : MV yX5_readNumber cX5_readNumber 5 (Option.some .boolean) 2 := ⟨gmem 365 rfl rfl, gmem 364 rfl rfl, gsel 5 rfl rfl, gmem 3 rfl rfl, ⟨by decide, by decide, by decide +kernel⟩⟩
set_option maxRecDepth 40000 in
theorem mv_X5_addNumber : MV yX5_addNumber cX5_addNumber 2 (Option.some .boolean) 1 := ⟨gmem 369 rfl rfl, gmem 368 rfl rfl, gsel 6 rfl rfl, gmem 3 rfl rfl, ⟨by decide, by decide, by decide +kernel⟩⟩
set_option maxRecDepth 40000 in
theorem mv_X5_readToken : MV yX5_readToken cX5_readToken 1 (Option.none : Option Jvm.ClassFile.FieldType) 0 := ⟨gmem 293 rfl rfl, gmem 292 rfl rfl, gsel 1 rfl rfl, gmem 3 rfl rfl, ⟨by decide, by decide, by decide +kernel⟩⟩
set_option maxRecDepth 40000 in
theorem mv_X5_kindAt : MV yX5_kindAt cX5_kindAt 2 (Option.some .int) 1 := ⟨gmem 297 rfl rfl, gmem 296 rfl rfl, gsel 2 rfl rfl, gmem 3 rfl rfl, ⟨by decide, by decide, by decide +kernel⟩⟩
set_option maxRecDepth 40000 in
theorem mv_X5_tokenIs : MV yX5_tokenIs cX5_tokenIs 3 (Option.some .boolean) 1 := ⟨gmem 306 rfl rfl, gmem 305 rfl rfl, gsel 4 rfl rfl, gmem 3 rfl rfl, ⟨by decide, by decide, by decide +kernel⟩⟩
set_option maxRecDepth 40000 in
theorem mv_X6_write : MV yX6_write cX6_write 4 (Option.some .int) 2 := ⟨gmem 268 rfl rfl, gmem 266 rfl rfl, gmem 267 rfl rfl, gmem 1 rfl rfl, ⟨by decide, by decide, by decide +kernel⟩⟩
set_option maxRecDepth 40000 in
theorem mv_X6_erase : MV yX6_erase cX6_erase 2 (Option.some .int) 0 := ⟨gmem 277 rfl rfl, gmem 275 rfl rfl, gmem 276 rfl rfl, gmem 1 rfl rfl, ⟨by decide, by decide, by decide +kernel⟩⟩
set_option maxRecDepth 40000 in
theorem mv_X6_fault : MV yX6_fault cX6_fault 1 (Option.some .int) 0 := ⟨gmem 281 rfl rfl, gmem 279 rfl rfl, gmem 280 rfl rfl, gmem 1 rfl rfl, ⟨by decide, by decide, by decide +kernel⟩⟩
set_option maxRecDepth 40000 in
theorem mv_X6_river : MV yX6_river cX6_river 2 (Option.some .int) 0 := ⟨gmem 403 rfl rfl, gmem 401 rfl rfl, gmem 402 rfl rfl, gmem 1 rfl rfl, ⟨by decide, by decide, by decide +kernel⟩⟩
set_option maxRecDepth 40000 in
theorem mv_X6_reach : MV yX6_reach cX6_reach 3 (Option.some .int) 2 := ⟨gmem 420 rfl rfl, gmem 418 rfl rfl, gmem 419 rfl rfl, gmem 1 rfl rfl, ⟨by decide, by decide, by decide +kernel⟩⟩
set_option maxRecDepth 40000 in
theorem mv_X6_wind : MV yX6_wind cX6_wind 4 (Option.some .int) 3 := ⟨gmem 428 rfl rfl, gmem 426 rfl rfl, gmem 427 rfl rfl, gmem 1 rfl rfl, ⟨by decide, by decide, by decide +kernel⟩⟩
set_option maxRecDepth 40000 in
theorem mv_X6_barge : MV yX6_barge cX6_barge 3 (Option.some .int) 2 := ⟨gmem 438 rfl rfl, gmem 436 rfl rfl, gmem 437 rfl rfl, gmem 1 rfl rfl, ⟨by decide, by decide, by decide +kernel⟩⟩
set_option maxRecDepth 40000 in
theorem mv_X6_as : MV yX6_as cX6_as 5 (Option.some .int) 2 := ⟨gmem 450 rfl rfl, gmem 448 rfl rfl, gmem 449 rfl rfl, gmem 1 rfl rfl, ⟨by decide, by decide, by decide +kernel⟩⟩
set_option maxRecDepth 40000 in
theorem mv_X6_yards : MV yX6_yards cX6_yards 5 (Option.some .int) 4 := ⟨gmem 461 rfl rfl, gmem 459 rfl rfl, gmem 460 rfl rfl, gmem 1 rfl rfl, ⟨by decide, by decide, by decide +kernel⟩⟩
set_option maxRecDepth 40000 in
theorem mv_X6_cord : MV yX6_cord cX6_cord 3 (Option.some .int) 2 := ⟨gmem 470 rfl rfl, gmem 468 rfl rfl, gmem 469 rfl rfl, gmem 1 rfl rfl, ⟨by decide, by decide, by decide +kernel⟩⟩
set_option maxRecDepth 40000 in
theorem mv_X6_go : MV yX6_go cX6_go 4 (Option.some .int) 1 := ⟨gmem 482 rfl rfl, gmem 480 rfl rfl, gmem 481 rfl rfl, gmem 1 rfl rfl, ⟨by decide, by decide, by decide +kernel⟩⟩
set_option maxRecDepth 40000 in
theorem mv_X6_at : MV yX6_at cX6_at 4 (Option.some .int) 2 := ⟨gmem 498 rfl rfl, gmem 496 rfl rfl, gmem 497 rfl rfl, gmem 1 rfl rfl, ⟨by decide, by decide, by decide +kernel⟩⟩
set_option maxRecDepth 40000 in
theorem mv_X6_knots : MV yX6_knots cX6_knots 4 (Option.some .int) 1 := ⟨gmem 502 rfl rfl, gmem 500 rfl rfl, gmem 501 rfl rfl, gmem 1 rfl rfl, ⟨by decide, by decide, by decide +kernel⟩⟩
set_option maxRecDepth 40000 in
theorem mv_X6_keep : MV yX6_keep cX6_keep 2 (Option.some .int) 1 := ⟨gmem 513 rfl rfl, gmem 511 rfl rfl, gmem 512 rfl rfl, gmem 1 rfl rfl, ⟨by decide, by decide, by decide +kernel⟩⟩
set_option maxRecDepth 40000 in
theorem mv_X6_back : MV yX6_back cX6_back 2 (Option.some .int) 1 := ⟨gmem 524 rfl rfl, gmem 522 rfl rfl, gmem 523 rfl rfl, gmem 1 rfl rfl, ⟨by decide, by decide, by decide +kernel⟩⟩
set_option maxRecDepth 40000 in
theorem mv_X6_soonest : MV yX6_soonest cX6_soonest 4 (Option.some .int) 3 := ⟨gmem 528 rfl rfl, gmem 526 rfl rfl, gmem 527 rfl rfl, gmem 1 rfl rfl, ⟨by decide, by decide, by decide +kernel⟩⟩
set_option maxRecDepth 40000 in
theorem mv_X6_clear : MV yX6_clear cX6_clear 5 (Option.some .int) 3 := ⟨gmem 574 rfl rfl, gmem 572 rfl rfl, gmem 573 rfl rfl, gmem 1 rfl rfl, ⟨by decide, by decide, by decide +kernel⟩⟩
set_option maxRecDepth 40000 in
theorem mv_X6_odds : MV yX6_odds cX6_odds 8 (Option.some .long) 4 := ⟨gmem 586 rfl rfl, gmem 584 rfl rfl, gmem 585 rfl rfl, gmem 1 rfl rfl, ⟨by decide, by decide, by decide +kernel⟩⟩
set_option maxRecDepth 40000 in
theorem mv_X6_sight : MV yX6_sight cX6_sight 6 (Option.some .long) 4 := ⟨gmem 620 rfl rfl, gmem 618 rfl rfl, gmem 619 rfl rfl, gmem 1 rfl rfl, ⟨by decide, by decide, by decide +kernel⟩⟩
set_option maxRecDepth 40000 in
theorem mv_X6_blind : MV yX6_blind cX6_blind 6 (Option.some .long) 4 := ⟨gmem 656 rfl rfl, gmem 654 rfl rfl, gmem 655 rfl rfl, gmem 1 rfl rfl, ⟨by decide, by decide, by decide +kernel⟩⟩
set_option maxRecDepth 40000 in
theorem mv_X6_worth : MV yX6_worth cX6_worth 6 (Option.some .long) 4 := ⟨gmem 671 rfl rfl, gmem 669 rfl rfl, gmem 670 rfl rfl, gmem 1 rfl rfl, ⟨by decide, by decide, by decide +kernel⟩⟩
set_option maxRecDepth 40000 in
theorem mv_X6_found : MV yX6_found cX6_found 5 (Option.some .int) 2 := ⟨gmem 675 rfl rfl, gmem 673 rfl rfl, gmem 674 rfl rfl, gmem 1 rfl rfl, ⟨by decide, by decide, by decide +kernel⟩⟩
set_option maxRecDepth 40000 in
theorem mv_X6_first : MV yX6_first cX6_first 4 (Option.some .int) 3 := ⟨gmem 683 rfl rfl, gmem 681 rfl rfl, gmem 682 rfl rfl, gmem 1 rfl rfl, ⟨by decide, by decide, by decide +kernel⟩⟩
set_option maxRecDepth 40000 in
theorem mv_X6_books : MV yX6_books cX6_books 4 (Option.some .int) 2 := ⟨gmem 687 rfl rfl, gmem 685 rfl rfl, gmem 686 rfl rfl, gmem 1 rfl rfl, ⟨by decide, by decide, by decide +kernel⟩⟩
set_option maxRecDepth 40000 in
theorem mv_X6_count : MV yX6_count cX6_count 2 (Option.some .int) 1 := ⟨gmem 695 rfl rfl, gmem 693 rfl rfl, gmem 694 rfl rfl, gmem 1 rfl rfl, ⟨by decide, by decide, by decide +kernel⟩⟩
set_option maxRecDepth 40000 in
theorem ms_X6_isLayer : MS yX6_isLayer cX6_isLayer 1 (Option.some .boolean) 1 := ⟨gmem 431 rfl rfl, gmem 430 rfl rfl, gmem 1 rfl rfl, ⟨by decide, by decide, by decide +kernel⟩⟩
set_option maxRecDepth 40000 in
theorem ms_X6_isHour : MS yX6_isHour cX6_isHour 1 (Option.some .boolean) 1 := ⟨gmem 434 rfl rfl, gmem 433 rfl rfl, gmem 1 rfl rfl, ⟨by decide, by decide, by decide +kernel⟩⟩
set_option maxRecDepth 40000 in
theorem ms_X6_isKnot : MS yX6_isKnot cX6_isKnot 4 (Option.some .boolean) 4 := ⟨gmem 509 rfl rfl, gmem 508 rfl rfl, gmem 1 rfl rfl, ⟨by decide, by decide, by decide +kernel⟩⟩
set_option maxRecDepth 40000 in
theorem mv_X6_oddsRefused : MV yX6_oddsRefused cX6_oddsRefused 7 (Option.some .int) 5 := ⟨gmem 590 rfl rfl, gmem 589 rfl rfl, gsel 19 rfl rfl, gmem 1 rfl rfl, ⟨by decide, by decide, by decide +kernel⟩⟩
set_option maxRecDepth 40000 in
theorem ms_X6_lowestTerms : MS yX6_lowestTerms cX6_lowestTerms 9 (Option.some .long) 3 := ⟨gmem 613 rfl rfl, gmem 612 rfl rfl, gmem 1 rfl rfl, ⟨by decide, by decide, by decide +kernel⟩⟩
set_option maxRecDepth 40000 in
theorem mv_X6_passages : MV yX6_passages cX6_passages 6 (Option.some .int) 1 := ⟨gmem 691 rfl rfl, gmem 690 rfl rfl, gsel 25 rfl rfl, gmem 1 rfl rfl, ⟨by decide, by decide, by decide +kernel⟩⟩
set_option maxRecDepth 40000 in
theorem ms_X7_in : MS yX7_in cX7_in 3 (Option.some .boolean) 3 := ⟨gmem 809 rfl rfl, gmem 808 rfl rfl, gmem 9 rfl rfl, ⟨by decide, by decide, by decide +kernel⟩⟩
set_option maxRecDepth 40000 in
theorem ms_X7_has : MS yX7_has cX7_has 2 (Option.some .boolean) 2 := ⟨gmem 906 rfl rfl, gmem 905 rfl rfl, gmem 9 rfl rfl, ⟨by decide, by decide, by decide +kernel⟩⟩
set_option maxRecDepth 40000 in
theorem ms_X7_off : MS yX7_off cX7_off 2 (Option.some .int) 2 := ⟨gmem 928 rfl rfl, gmem 927 rfl rfl, gmem 9 rfl rfl, ⟨by decide, by decide, by decide +kernel⟩⟩
set_option maxRecDepth 40000 in
theorem mv_X7_isBarge : MV yX7_isBarge cX7_isBarge 2 (Option.some .boolean) 1 := ⟨gmem 903 rfl rfl, gmem 902 rfl rfl, gsel 38 rfl rfl, gmem 9 rfl rfl, ⟨by decide, by decide, by decide +kernel⟩⟩
set_option maxRecDepth 40000 in
theorem mv_X7_write : MV yX7_write cX7_write 5 (Option.some .int) 2 := ⟨gmem 806 rfl rfl, gmem 804 rfl rfl, gmem 805 rfl rfl, gmem 9 rfl rfl, ⟨by decide, by decide, by decide +kernel⟩⟩
set_option maxRecDepth 40000 in
theorem mv_X7_erase : MV yX7_erase cX7_erase 2 (Option.some .int) 0 := ⟨gmem 814 rfl rfl, gmem 812 rfl rfl, gmem 813 rfl rfl, gmem 9 rfl rfl, ⟨by decide, by decide, by decide +kernel⟩⟩
set_option maxRecDepth 40000 in
theorem mv_X7_nextToken : MV yX7_nextToken cX7_nextToken 1 (Option.none : Option Jvm.ClassFile.FieldType) 0 := ⟨gmem 830 rfl rfl, gmem 829 rfl rfl, gsel 30 rfl rfl, gmem 9 rfl rfl, ⟨by decide, by decide, by decide +kernel⟩⟩
set_option maxRecDepth 40000 in
theorem mv_X7_fails : MV yX7_fails cX7_fails 1 (Option.some .boolean) 0 := ⟨gmem 852 rfl rfl, gmem 851 rfl rfl, gsel 32 rfl rfl, gmem 9 rfl rfl, ⟨by decide, by decide, by decide +kernel⟩⟩
set_option maxRecDepth 40000 in
theorem mv_X7_isNumber : MV yX7_isNumber cX7_isNumber 4 (Option.some .boolean) 3 := ⟨gmem 856 rfl rfl, gmem 855 rfl rfl, gsel 33 rfl rfl, gmem 9 rfl rfl, ⟨by decide, by decide, by decide +kernel⟩⟩
set_option maxRecDepth 40000 in
theorem mv_X7_isKite : MV yX7_isKite cX7_isKite 3 (Option.some .boolean) 1 := ⟨gmem 864 rfl rfl, gmem 863 rfl rfl, gsel 35 rfl rfl, gmem 9 rfl rfl, ⟨by decide, by decide, by decide +kernel⟩⟩
set_option maxRecDepth 40000 in
theorem mv_X7_isReachLine : MV yX7_isReachLine cX7_isReachLine 2 (Option.some .boolean) 1 := ⟨gmem 848 rfl rfl, gmem 847 rfl rfl, gsel 31 rfl rfl, gmem 9 rfl rfl, ⟨by decide, by decide, by decide +kernel⟩⟩
set_option maxRecDepth 40000 in
theorem mv_X7_isWind : MV yX7_isWind cX7_isWind 2 (Option.some .boolean) 1 := ⟨gmem 860 rfl rfl, gmem 859 rfl rfl, gsel 34 rfl rfl, gmem 9 rfl rfl, ⟨by decide, by decide, by decide +kernel⟩⟩
set_option maxRecDepth 40000 in
theorem mv_X7_isLine : MV yX7_isLine cX7_isLine 4 (Option.some .boolean) 1 := ⟨gmem 826 rfl rfl, gmem 825 rfl rfl, gsel 29 rfl rfl, gmem 9 rfl rfl, ⟨by decide, by decide, by decide +kernel⟩⟩
set_option maxRecDepth 40000 in
theorem mv_X7_isRead : MV yX7_isRead cX7_isRead 2 (Option.some .boolean) 0 := ⟨gmem 822 rfl rfl, gmem 821 rfl rfl, gsel 28 rfl rfl, gmem 9 rfl rfl, ⟨by decide, by decide, by decide +kernel⟩⟩
set_option maxRecDepth 40000 in
theorem mv_X7_fault : MV yX7_fault cX7_fault 1 (Option.some .int) 0 := ⟨gmem 818 rfl rfl, gmem 816 rfl rfl, gmem 817 rfl rfl, gmem 9 rfl rfl, ⟨by decide, by decide, by decide +kernel⟩⟩
set_option maxRecDepth 40000 in
theorem mv_X7_doLine : MV yX7_doLine cX7_doLine 4 (Option.none : Option Jvm.ClassFile.FieldType) 1 := ⟨gmem 877 rfl rfl, gmem 876 rfl rfl, gsel 36 rfl rfl, gmem 9 rfl rfl, ⟨by decide, by decide, by decide +kernel⟩⟩
set_option maxRecDepth 40000 in
theorem mv_X7_start : MV yX7_start cX7_start 1 (Option.some .int) 0 := ⟨gmem 717 rfl rfl, gmem 716 rfl rfl, gsel 27 rfl rfl, gmem 9 rfl rfl, ⟨by decide, by decide, by decide +kernel⟩⟩
set_option maxRecDepth 40000 in
theorem mv_X7_begin : MV yX7_begin cX7_begin 2 (Option.none : Option Jvm.ClassFile.FieldType) 0 := ⟨gmem 713 rfl rfl, gmem 712 rfl rfl, gsel 26 rfl rfl, gmem 9 rfl rfl, ⟨by decide, by decide, by decide +kernel⟩⟩
set_option maxRecDepth 40000 in
theorem mv_X7_river : MV yX7_river cX7_river 2 (Option.some .int) 0 := ⟨gmem 873 rfl rfl, gmem 871 rfl rfl, gmem 872 rfl rfl, gmem 9 rfl rfl, ⟨by decide, by decide, by decide +kernel⟩⟩
set_option maxRecDepth 40000 in
theorem mv_X7_isReach : MV yX7_isReach cX7_isReach 2 (Option.some .boolean) 1 := ⟨gmem 885 rfl rfl, gmem 884 rfl rfl, gsel 37 rfl rfl, gmem 9 rfl rfl, ⟨by decide, by decide, by decide +kernel⟩⟩
set_option maxRecDepth 40000 in
theorem ms_X7_isLayer : MS yX7_isLayer cX7_isLayer 1 (Option.some .boolean) 1 := ⟨gmem 892 rfl rfl, gmem 891 rfl rfl, gmem 9 rfl rfl, ⟨by decide, by decide, by decide +kernel⟩⟩
set_option maxRecDepth 40000 in
theorem ms_X7_isHour : MS yX7_isHour cX7_isHour 1 (Option.some .boolean) 1 := ⟨gmem 895 rfl rfl, gmem 894 rfl rfl, gmem 9 rfl rfl, ⟨by decide, by decide, by decide +kernel⟩⟩
set_option maxRecDepth 40000 in
theorem mv_X7_reach : MV yX7_reach cX7_reach 3 (Option.some .int) 2 := ⟨gmem 881 rfl rfl, gmem 879 rfl rfl, gmem 880 rfl rfl, gmem 9 rfl rfl, ⟨by decide, by decide, by decide +kernel⟩⟩
set_option maxRecDepth 40000 in
theorem mv_X7_wind : MV yX7_wind cX7_wind 4 (Option.some .int) 3 := ⟨gmem 889 rfl rfl, gmem 887 rfl rfl, gmem 888 rfl rfl, gmem 9 rfl rfl, ⟨by decide, by decide, by decide +kernel⟩⟩
set_option maxRecDepth 40000 in
theorem mv_X7_cordOf : MV yX7_cordOf cX7_cordOf 2 (Option.some .int) 1 := ⟨gmem 910 rfl rfl, gmem 909 rfl rfl, gsel 39 rfl rfl, gmem 9 rfl rfl, ⟨by decide, by decide, by decide +kernel⟩⟩
set_option maxRecDepth 40000 in
theorem mv_X7_barge : MV yX7_barge cX7_barge 3 (Option.some .int) 2 := ⟨gmem 899 rfl rfl, gmem 897 rfl rfl, gmem 898 rfl rfl, gmem 9 rfl rfl, ⟨by decide, by decide, by decide +kernel⟩⟩
set_option maxRecDepth 40000 in
theorem ms_X7_pull : MS yX7_pull cX7_pull 4 (Option.some .int) 3 := ⟨gmem 917 rfl rfl, gmem 916 rfl rfl, gmem 9 rfl rfl, ⟨by decide, by decide, by decide +kernel⟩⟩
set_option maxRecDepth 40000 in
theorem mv_X7_as : MV yX7_as cX7_as 5 (Option.some .int) 2 := ⟨gmem 914 rfl rfl, gmem 912 rfl rfl, gmem 913 rfl rfl, gmem 9 rfl rfl, ⟨by decide, by decide, by decide +kernel⟩⟩
set_option maxRecDepth 40000 in
theorem mv_X7_yardsOf : MV yX7_yardsOf cX7_yardsOf 6 (Option.some .int) 4 := ⟨gmem 925 rfl rfl, gmem 924 rfl rfl, gsel 40 rfl rfl, gmem 9 rfl rfl, ⟨by decide, by decide, by decide +kernel⟩⟩
set_option maxRecDepth 40000 in
theorem mv_X7_yards : MV yX7_yards cX7_yards 5 (Option.some .int) 4 := ⟨gmem 921 rfl rfl, gmem 919 rfl rfl, gmem 920 rfl rfl, gmem 9 rfl rfl, ⟨by decide, by decide, by decide +kernel⟩⟩
set_option maxRecDepth 40000 in
theorem mv_X7_goes : MV yX7_goes cX7_goes 7 (Option.some .int) 4 := ⟨gmem 940 rfl rfl, gmem 939 rfl rfl, gsel 41 rfl rfl, gmem 9 rfl rfl, ⟨by decide, by decide, by decide +kernel⟩⟩
set_option maxRecDepth 40000 in
theorem mv_X7_cord : MV yX7_cord cX7_cord 4 (Option.some .int) 2 := ⟨gmem 932 rfl rfl, gmem 930 rfl rfl, gmem 931 rfl rfl, gmem 9 rfl rfl, ⟨by decide, by decide, by decide +kernel⟩⟩
set_option maxRecDepth 40000 in
theorem mv_X7_go : MV yX7_go cX7_go 6 (Option.some .int) 1 := ⟨gmem 936 rfl rfl, gmem 934 rfl rfl, gmem 935 rfl rfl, gmem 9 rfl rfl, ⟨by decide, by decide, by decide +kernel⟩⟩
set_option maxRecDepth 40000 in
theorem mv_X7_at : MV yX7_at cX7_at 3 (Option.some .int) 2 := ⟨gmem 944 rfl rfl, gmem 942 rfl rfl, gmem 943 rfl rfl, gmem 9 rfl rfl, ⟨by decide, by decide, by decide +kernel⟩⟩
set_option maxRecDepth 40000 in
theorem ms_X7_isKnot : MS yX7_isKnot cX7_isKnot 4 (Option.some .boolean) 4 := ⟨gmem 951 rfl rfl, gmem 950 rfl rfl, gmem 9 rfl rfl, ⟨by decide, by decide, by decide +kernel⟩⟩
set_option maxRecDepth 40000 in
theorem mv_X7_knots : MV yX7_knots cX7_knots 4 (Option.some .int) 1 := ⟨gmem 948 rfl rfl, gmem 946 rfl rfl, gmem 947 rfl rfl, gmem 9 rfl rfl, ⟨by decide, by decide, by decide +kernel⟩⟩
set_option maxRecDepth 40000 in
theorem mv_X7_keep : MV yX7_keep cX7_keep 3 (Option.some .int) 1 := ⟨gmem 955 rfl rfl, gmem 953 rfl rfl, gmem 954 rfl rfl, gmem 9 rfl rfl, ⟨by decide, by decide, by decide +kernel⟩⟩
set_option maxRecDepth 40000 in
theorem mv_X7_back : MV yX7_back cX7_back 3 (Option.some .int) 1 := ⟨gmem 959 rfl rfl, gmem 957 rfl rfl, gmem 958 rfl rfl, gmem 9 rfl rfl, ⟨by decide, by decide, by decide +kernel⟩⟩
set_option maxRecDepth 40000 in
theorem mv_X7_isPlace : MV yX7_isPlace cX7_isPlace 2 (Option.some .boolean) 1 := ⟨gmem 984 rfl rfl, gmem 983 rfl rfl, gsel 46 rfl rfl, gmem 9 rfl rfl, ⟨by decide, by decide, by decide +kernel⟩⟩
set_option maxRecDepth 40000 in
theorem mv_X7_through : MV yX7_through cX7_through 8 (Option.some .int) 5 := ⟨gmem 988 rfl rfl, gmem 987 rfl rfl, gsel 47 rfl rfl, gmem 9 rfl rfl, ⟨by decide, by decide, by decide +kernel⟩⟩
set_option maxRecDepth 40000 in
theorem mv_X7_layLeft : MV yX7_layLeft cX7_layLeft 9 (Option.none : Option Jvm.ClassFile.FieldType) 2 := ⟨gmem 979 rfl rfl, gmem 978 rfl rfl, gsel 45 rfl rfl, gmem 9 rfl rfl, ⟨by decide, by decide, by decide +kernel⟩⟩
set_option maxRecDepth 40000 in
theorem mv_X7_noOther : MV yX7_noOther cX7_noOther 2 (Option.none : Option Jvm.ClassFile.FieldType) 0 := ⟨gmem 971 rfl rfl, gmem 970 rfl rfl, gsel 43 rfl rfl, gmem 9 rfl rfl, ⟨by decide, by decide, by decide +kernel⟩⟩
set_option maxRecDepth 40000 in
theorem mv_X7_findPlan : MV yX7_findPlan cX7_findPlan 9 (Option.some .boolean) 2 := ⟨gmem 975 rfl rfl, gmem 974 rfl rfl, gsel 44 rfl rfl, gmem 9 rfl rfl, ⟨by decide, by decide, by decide +kernel⟩⟩
set_option maxRecDepth 40000 in
theorem mv_X7_isSoonest : MV yX7_isSoonest cX7_isSoonest 3 (Option.some .boolean) 2 := ⟨gmem 967 rfl rfl, gmem 966 rfl rfl, gsel 42 rfl rfl, gmem 9 rfl rfl, ⟨by decide, by decide, by decide +kernel⟩⟩
set_option maxRecDepth 40000 in
theorem mv_X7_tell : MV yX7_tell cX7_tell 3 (Option.some .int) 2 := ⟨gmem 992 rfl rfl, gmem 991 rfl rfl, gsel 48 rfl rfl, gmem 9 rfl rfl, ⟨by decide, by decide, by decide +kernel⟩⟩
set_option maxRecDepth 40000 in
theorem mv_X7_soonest : MV yX7_soonest cX7_soonest 4 (Option.some .int) 3 := ⟨gmem 963 rfl rfl, gmem 961 rfl rfl, gmem 962 rfl rfl, gmem 9 rfl rfl, ⟨by decide, by decide, by decide +kernel⟩⟩
set_option maxRecDepth 40000 in
theorem mv_X7_clear : MV yX7_clear cX7_clear 5 (Option.some .int) 3 := ⟨gmem 996 rfl rfl, gmem 994 rfl rfl, gmem 995 rfl rfl, gmem 9 rfl rfl, ⟨by decide, by decide, by decide +kernel⟩⟩
set_option maxRecDepth 40000 in
theorem ms_X7_power : MS yX7_power cX7_power 5 (Option.some .long) 2 := ⟨gmem 1010 rfl rfl, gmem 1009 rfl rfl, gmem 9 rfl rfl, ⟨by decide, by decide, by decide +kernel⟩⟩
set_option maxRecDepth 40000 in
theorem ms_X7_part : MS yX7_part cX7_part 11 (Option.some .long) 3 := ⟨gmem 1013 rfl rfl, gmem 1012 rfl rfl, gmem 9 rfl rfl, ⟨by decide, by decide, by decide +kernel⟩⟩
set_option maxRecDepth 40000 in
theorem ms_X7_areOdds : MS yX7_areOdds cX7_areOdds 4 (Option.some .boolean) 4 := ⟨gmem 1003 rfl rfl, gmem 1002 rfl rfl, gmem 9 rfl rfl, ⟨by decide, by decide, by decide +kernel⟩⟩
set_option maxRecDepth 40000 in
theorem mv_X7_byRow : MV yX7_byRow cX7_byRow 14 (Option.some .long) 4 := ⟨gmem 1007 rfl rfl, gmem 1006 rfl rfl, gsel 49 rfl rfl, gmem 9 rfl rfl, ⟨by decide, by decide, by decide +kernel⟩⟩
set_option maxRecDepth 40000 in
theorem mv_X7_odds : MV yX7_odds cX7_odds 5 (Option.some .long) 4 := ⟨gmem 1000 rfl rfl, gmem 998 rfl rfl, gmem 999 rfl rfl, gmem 9 rfl rfl, ⟨by decide, by decide, by decide +kernel⟩⟩
set_option maxRecDepth 40000 in
theorem mv_X7_sightOf : MV yX7_sightOf cX7_sightOf 16 (Option.some .long) 3 := ⟨gmem 1021 rfl rfl, gmem 1020 rfl rfl, gsel 50 rfl rfl, gmem 9 rfl rfl, ⟨by decide, by decide, by decide +kernel⟩⟩
set_option maxRecDepth 40000 in
theorem mv_X7_sight : MV yX7_sight cX7_sight 5 (Option.some .long) 4 := ⟨gmem 1017 rfl rfl, gmem 1015 rfl rfl, gmem 1016 rfl rfl, gmem 9 rfl rfl, ⟨by decide, by decide, by decide +kernel⟩⟩
set_option maxRecDepth 40000 in
theorem mv_X7_blindOf : MV yX7_blindOf cX7_blindOf 12 (Option.some .long) 3 := ⟨gmem 1029 rfl rfl, gmem 1028 rfl rfl, gsel 51 rfl rfl, gmem 9 rfl rfl, ⟨by decide, by decide, by decide +kernel⟩⟩
set_option maxRecDepth 40000 in
theorem mv_X7_blind : MV yX7_blind cX7_blind 5 (Option.some .long) 4 := ⟨gmem 1025 rfl rfl, gmem 1023 rfl rfl, gmem 1024 rfl rfl, gmem 9 rfl rfl, ⟨by decide, by decide, by decide +kernel⟩⟩
set_option maxRecDepth 40000 in
theorem mv_X7_worth : MV yX7_worth cX7_worth 5 (Option.some .long) 4 := ⟨gmem 1033 rfl rfl, gmem 1031 rfl rfl, gmem 1032 rfl rfl, gmem 9 rfl rfl, ⟨by decide, by decide, by decide +kernel⟩⟩
set_option maxRecDepth 40000 in
theorem mv_X7_firstOf : MV yX7_firstOf cX7_firstOf 5 (Option.some .int) 3 := ⟨gmem 1041 rfl rfl, gmem 1040 rfl rfl, gsel 52 rfl rfl, gmem 9 rfl rfl, ⟨by decide, by decide, by decide +kernel⟩⟩
set_option maxRecDepth 40000 in
theorem mv_X7_found : MV yX7_found cX7_found 5 (Option.some .int) 2 := ⟨gmem 1037 rfl rfl, gmem 1035 rfl rfl, gmem 1036 rfl rfl, gmem 9 rfl rfl, ⟨by decide, by decide, by decide +kernel⟩⟩
set_option maxRecDepth 40000 in
theorem mv_X7_first : MV yX7_first cX7_first 4 (Option.some .int) 3 := ⟨gmem 1045 rfl rfl, gmem 1043 rfl rfl, gmem 1044 rfl rfl, gmem 9 rfl rfl, ⟨by decide, by decide, by decide +kernel⟩⟩
set_option maxRecDepth 40000 in
theorem mv_X7_books : MV yX7_books cX7_books 5 (Option.some .int) 2 := ⟨gmem 1049 rfl rfl, gmem 1047 rfl rfl, gmem 1048 rfl rfl, gmem 9 rfl rfl, ⟨by decide, by decide, by decide +kernel⟩⟩
set_option maxRecDepth 40000 in
theorem mv_X7_count : MV yX7_count cX7_count 4 (Option.some .int) 1 := ⟨gmem 1053 rfl rfl, gmem 1051 rfl rfl, gmem 1052 rfl rfl, gmem 9 rfl rfl, ⟨by decide, by decide, by decide +kernel⟩⟩
set_option maxRecDepth 40000 in
theorem ms_J9_abs_0f7a4 : MS yJ9_abs_0f7a4 cJ9_abs_0f7a4 1 (Option.some .int) 1 := ⟨gmem 473 rfl rfl, gmem 472 rfl rfl, gmem 14 rfl rfl, ⟨by decide, by decide, by decide +kernel⟩⟩
set_option maxRecDepth 40000 in
theorem ms_J9_max_7cf53 : MS yJ9_max_7cf53 cJ9_max_7cf53 2 (Option.some .int) 2 := ⟨gmem 550 rfl rfl, gmem 549 rfl rfl, gmem 14 rfl rfl, ⟨by decide, by decide, by decide +kernel⟩⟩
set_option maxRecDepth 40000 in
theorem ms_J9_max_f86c9 : MS yJ9_max_f86c9 cJ9_max_f86c9 4 (Option.some .long) 2 := ⟨gmem 648 rfl rfl, gmem 647 rfl rfl, gmem 14 rfl rfl, ⟨by decide, by decide, by decide +kernel⟩⟩
set_option maxRecDepth 40000 in
theorem ms_J9_min_7cf53 : MS yJ9_min_7cf53 cJ9_min_7cf53 2 (Option.some .int) 2 := ⟨gmem 485 rfl rfl, gmem 484 rfl rfl, gmem 14 rfl rfl, ⟨by decide, by decide, by decide +kernel⟩⟩
set_option maxRecDepth 40000 in
theorem mv_J0_length_8abf5 : MV yJ0_length_8abf5 cJ0_length_8abf5 1 (Option.some .int) 0 := ⟨gmem 310 rfl rfl, gmem 308 rfl rfl, gmem 309 rfl rfl, gmem 10 rfl rfl, ⟨by decide, by decide, by decide +kernel⟩⟩
set_option maxRecDepth 40000 in
theorem mv_J0_charAt_5068e : MV yJ0_charAt_5068e cJ0_charAt_5068e 2 (Option.some .char) 1 := ⟨gmem 320 rfl rfl, gmem 318 rfl rfl, gmem 319 rfl rfl, gmem 10 rfl rfl, ⟨by decide, by decide, by decide +kernel⟩⟩
set_option maxRecDepth 40000 in
theorem mv_J0_coder_7d493 : MV yJ0_coder_7d493 cJ0_coder_7d493 1 (Option.some .byte) 0 := ⟨gmem 314 rfl rfl, gmem 312 rfl rfl, gmem 313 rfl rfl, gmem 10 rfl rfl, ⟨by decide, by decide, by decide +kernel⟩⟩
set_option maxRecDepth 40000 in
theorem mv_J0_isLatin1_aae02 : MV yJ0_isLatin1_aae02 cJ0_isLatin1_aae02 1 (Option.some .boolean) 0 := ⟨gmem 324 rfl rfl, gmem 322 rfl rfl, gmem 323 rfl rfl, gmem 10 rfl rfl, ⟨by decide, by decide, by decide +kernel⟩⟩
set_option maxRecDepth 40000 in
theorem ms_J0_checkIndex_df160 : MS yJ0_checkIndex_df160 cJ0_checkIndex_df160 2 (Option.none : Option Jvm.ClassFile.FieldType) 2 := ⟨gmem 330 rfl rfl, gmem 329 rfl rfl, gmem 10 rfl rfl, ⟨by decide, by decide, by decide +kernel⟩⟩
set_option maxRecDepth 40000 in
theorem ms_J1_charAt_3b067 : MS yJ1_charAt_3b067 cJ1_charAt_3b067 2 (Option.some .char) 2 := ⟨gmem 327 rfl rfl, gmem 326 rfl rfl, gmem 11 rfl rfl, ⟨by decide, by decide, by decide +kernel⟩⟩
set_option maxRecDepth 40000 in
theorem ms_J2_getChar_3b067 : MS yJ2_getChar_3b067 cJ2_getChar_3b067 2 (Option.some .char) 2 := ⟨gmem 348 rfl rfl, gmem 347 rfl rfl, gmem 13 rfl rfl, ⟨by decide, by decide, by decide +kernel⟩⟩
set_option maxRecDepth 40000 in
theorem ms_J2_length_9d52b : MS yJ2_length_9d52b cJ2_length_9d52b 1 (Option.some .int) 1 := ⟨gmem 344 rfl rfl, gmem 343 rfl rfl, gmem 13 rfl rfl, ⟨by decide, by decide, by decide +kernel⟩⟩
set_option maxRecDepth 40000 in
theorem ms_J2_charAt_3b067 : MS yJ2_charAt_3b067 cJ2_charAt_3b067 2 (Option.some .char) 2 := ⟨gmem 338 rfl rfl, gmem 337 rfl rfl, gmem 13 rfl rfl, ⟨by decide, by decide, by decide +kernel⟩⟩
set_option maxRecDepth 40000 in
theorem ms_J2_checkIndex_2214a : MS yJ2_checkIndex_2214a cJ2_checkIndex_2214a 2 (Option.none : Option Jvm.ClassFile.FieldType) 2 := ⟨gmem 341 rfl rfl, gmem 340 rfl rfl, gmem 13 rfl rfl, ⟨by decide, by decide, by decide +kernel⟩⟩
set_option maxRecDepth 40000 in
theorem ms_J7_fill_d0a16 : MS yJ7_fill_d0a16 cJ7_fill_d0a16 5 (Option.none : Option Jvm.ClassFile.FieldType) 2 := ⟨gmem 636 rfl rfl, gmem 635 rfl rfl, gmem 7 rfl rfl, ⟨by decide, by decide, by decide +kernel⟩⟩
set_option maxRecDepth 40000 in
theorem ms_J7_fill_53178 : MS yJ7_fill_53178 cJ7_fill_53178 4 (Option.none : Option Jvm.ClassFile.FieldType) 2 := ⟨gmem 168 rfl rfl, gmem 167 rfl rfl, gmem 7 rfl rfl, ⟨by decide, by decide, by decide +kernel⟩⟩
set_option maxRecDepth 40000 in
theorem ms_J3_checkIndex_8e157 : MS yJ3_checkIndex_8e157 cJ3_checkIndex_8e157 3 (Option.some .int) 3 := ⟨gmem 335 rfl rfl, gmem 334 rfl rfl, gmem 12 rfl rfl, ⟨by decide, by decide, by decide +kernel⟩⟩
end
section
section RULES2
variable {g : Gp} {x : Cx} {cc : ByteArray} {own : String} {nL fr lo pc : Nat} {lv lv' : List (Nat × Value)} {rest : List Value} {ad : Nat → Nat} {σ : Sg}
theorem get_61_0 (K : Ok g x cc own nL fr lo) {index : Nat} (hl : Cond.fieldLink own index "KiteBarges" "river" "LKiteBarges$River;" ∈ gtb) (d : decode cc pc = .ok (.getfield index, 3)) (k : GJ g x nL (pc + 3) lv (.ref (ad 62) :: rest) ad σ) : GJ g x nL pc lv (.ref (ad 61) :: rest) ad σ :=
  fun H locs ls hW hS h => va_get (D := g.D) (ci := 6) (C := RX6) (T := TX6) (N := 7) K.1 K.2.1 K.2.2.2.2.1 inX6 K.2.2.2.1 K.2.2.2.2.2.1.1 hW.1 61 (wl_get g ad σ (by decide)) rfl 0 (by decide) (K.2.2.2.2.1 _ hl) (fun _ h => h) rfl d (k H locs ls hW hS h)
theorem get_61_1 (K : Ok g x cc own nL fr lo) {index : Nat} (hl : Cond.fieldLink own index "KiteBarges" "text" "LKiteBarges$Text;" ∈ gtb) (d : decode cc pc = .ok (.getfield index, 3)) (k : GJ g x nL (pc + 3) lv (.ref (ad 63) :: rest) ad σ) : GJ g x nL pc lv (.ref (ad 61) :: rest) ad σ :=
  fun H locs ls hW hS h => va_get (D := g.D) (ci := 6) (C := RX6) (T := TX6) (N := 7) K.1 K.2.1 K.2.2.2.2.1 inX6 K.2.2.2.1 K.2.2.2.2.2.1.1 hW.1 61 (wl_get g ad σ (by decide)) rfl 1 (by decide) (K.2.2.2.2.1 _ hl) (fun _ h => h) rfl d (k H locs ls hW hS h)
theorem get_61_2 (K : Ok g x cc own nL fr lo) {index : Nat} (hl : Cond.fieldLink own index "KiteBarges" "fleet" "LKiteBarges$Fleet;" ∈ gtb) (d : decode cc pc = .ok (.getfield index, 3)) (k : GJ g x nL (pc + 3) lv (.ref (ad 64) :: rest) ad σ) : GJ g x nL pc lv (.ref (ad 61) :: rest) ad σ :=
  fun H locs ls hW hS h => va_get (D := g.D) (ci := 6) (C := RX6) (T := TX6) (N := 7) K.1 K.2.1 K.2.2.2.2.1 inX6 K.2.2.2.1 K.2.2.2.2.2.1.1 hW.1 61 (wl_get g ad σ (by decide)) rfl 2 (by decide) (K.2.2.2.2.1 _ hl) (fun _ h => h) rfl d (k H locs ls hW hS h)
theorem get_61_3 (K : Ok g x cc own nL fr lo) {index : Nat} (hl : Cond.fieldLink own index "KiteBarges" "kept" "[LKiteBarges$Fleet;" ∈ gtb) (d : decode cc pc = .ok (.getfield index, 3)) (k : GJ g x nL (pc + 3) lv (.ref (ad 60) :: rest) ad σ) : GJ g x nL pc lv (.ref (ad 61) :: rest) ad σ :=
  fun H locs ls hW hS h => va_get (D := g.D) (ci := 6) (C := RX6) (T := TX6) (N := 7) K.1 K.2.1 K.2.2.2.2.1 inX6 K.2.2.2.1 K.2.2.2.2.2.1.1 hW.1 61 (wl_get g ad σ (by decide)) rfl 3 (by decide) (K.2.2.2.2.1 _ hl) (fun _ h => h) rfl d (k H locs ls hW hS h)
theorem get_61_4 (K : Ok g x cc own nL fr lo) {index : Nat} (hl : Cond.fieldLink own index "KiteBarges" "isKept" "[Z" ∈ gtb) (d : decode cc pc = .ok (.getfield index, 3)) (k : GJ g x nL (pc + 3) lv (.ref (ad 27) :: rest) ad σ) : GJ g x nL pc lv (.ref (ad 61) :: rest) ad σ :=
  fun H locs ls hW hS h => va_get (D := g.D) (ci := 6) (C := RX6) (T := TX6) (N := 7) K.1 K.2.1 K.2.2.2.2.1 inX6 K.2.2.2.1 K.2.2.2.2.2.1.1 hW.1 61 (wl_get g ad σ (by decide)) rfl 4 (by decide) (K.2.2.2.2.1 _ hl) (fun _ h => h) rfl d (k H locs ls hW hS h)
theorem get_61_5 (K : Ok g x cc own nL fr lo) {index : Nat} (hl : Cond.fieldLink own index "KiteBarges" "planner" "LKiteBarges$Planner;" ∈ gtb) (d : decode cc pc = .ok (.getfield index, 3)) (k : GJ g x nL (pc + 3) lv (.ref (ad 69) :: rest) ad σ) : GJ g x nL pc lv (.ref (ad 61) :: rest) ad σ :=
  fun H locs ls hW hS h => va_get (D := g.D) (ci := 6) (C := RX6) (T := TX6) (N := 7) K.1 K.2.1 K.2.2.2.2.1 inX6 K.2.2.2.1 K.2.2.2.2.2.1.1 hW.1 61 (wl_get g ad σ (by decide)) rfl 5 (by decide) (K.2.2.2.2.1 _ hl) (fun _ h => h) rfl d (k H locs ls hW hS h)
theorem get_61_6 (K : Ok g x cc own nL fr lo) {index : Nat} (hl : Cond.fieldLink own index "KiteBarges" "lulls" "LKiteBarges$Lulls;" ∈ gtb) (d : decode cc pc = .ok (.getfield index, 3)) (k : GJ g x nL (pc + 3) lv (.ref (ad 70) :: rest) ad σ) : GJ g x nL pc lv (.ref (ad 61) :: rest) ad σ :=
  fun H locs ls hW hS h => va_get (D := g.D) (ci := 6) (C := RX6) (T := TX6) (N := 7) K.1 K.2.1 K.2.2.2.2.1 inX6 K.2.2.2.1 K.2.2.2.2.2.1.1 hW.1 61 (wl_get g ad σ (by decide)) rfl 6 (by decide) (K.2.2.2.2.1 _ hl) (fun _ h => h) rfl d (k H locs ls hW hS h)
theorem get_62_0 (K : Ok g x cc own nL fr lo) {index : Nat} (hl : Cond.fieldLink own index "KiteBarges$River" "reaches" "I" ∈ gtb) (d : decode cc pc = .ok (.getfield index, 3)) (k : GJ g x nL (pc + 3) lv (.int (σ.I 0) :: rest) ad σ) : GJ g x nL pc lv (.ref (ad 62) :: rest) ad σ :=
  fun H locs ls hW hS h => va_get (D := g.D) (ci := 4) (C := RX4) (T := TX4) (N := 12) K.1 K.2.1 K.2.2.2.2.1 inX4 K.2.2.2.1 K.2.2.2.2.2.1.1 hW.1 62 (wl_get g ad σ (by decide)) rfl 0 (by decide) (K.2.2.2.2.1 _ hl) (fun _ h => h) rfl d (k H locs ls hW hS h)
theorem put_62_0 (K : Ok g x cc own nL fr lo) {index : Nat} {v : Int32} (hl : Cond.fieldLink own index "KiteBarges$River" "reaches" "I" ∈ gtb) (d : decode cc pc = .ok (.putfield index, 3)) (k : GJ g x nL (pc + 3) lv rest ad (σ.sI 0 v)) : GJ g x nL pc lv (.int v :: .ref (ad 62) :: rest) ad σ :=
  fun H locs ls hW hS h => va_put (D := g.D) (ci := 4) (C := RX4) (T := TX4) (N := 12) (ty := .int) K.1 K.2.1 K.2.2.2.2.1 inX4 tyX4 tyX4_ok nmX4 K.2.2.2.1 K.2.2.2.2.2.1.1 hW.1 hW.2 hS 62 (wl_get g ad σ (by decide)) rfl 0 (by decide) (K.2.2.2.2.1 _ hl) (fun _ h => h) rfl (by decide +kernel) rfl rfl (Nat.le_of_ble_eq_true rfl) d (fun H1 locs1 hP hD hS1 => k H1 locs1 ls ⟨(set_62_0 g ad σ v) ▸ hP, (set_62_0 g ad σ v) ▸ hD⟩ hS1 h)
theorem get_62_1 (K : Ok g x cc own nL fr lo) {index : Nat} (hl : Cond.fieldLink own index "KiteBarges$River" "still" "I" ∈ gtb) (d : decode cc pc = .ok (.getfield index, 3)) (k : GJ g x nL (pc + 3) lv (.int (σ.I 1) :: rest) ad σ) : GJ g x nL pc lv (.ref (ad 62) :: rest) ad σ :=
  fun H locs ls hW hS h => va_get (D := g.D) (ci := 4) (C := RX4) (T := TX4) (N := 12) K.1 K.2.1 K.2.2.2.2.1 inX4 K.2.2.2.1 K.2.2.2.2.2.1.1 hW.1 62 (wl_get g ad σ (by decide)) rfl 1 (by decide) (K.2.2.2.2.1 _ hl) (fun _ h => h) rfl d (k H locs ls hW hS h)
theorem put_62_1 (K : Ok g x cc own nL fr lo) {index : Nat} {v : Int32} (hl : Cond.fieldLink own index "KiteBarges$River" "still" "I" ∈ gtb) (d : decode cc pc = .ok (.putfield index, 3)) (k : GJ g x nL (pc + 3) lv rest ad (σ.sI 1 v)) : GJ g x nL pc lv (.int v :: .ref (ad 62) :: rest) ad σ :=
  fun H locs ls hW hS h => va_put (D := g.D) (ci := 4) (C := RX4) (T := TX4) (N := 12) (ty := .int) K.1 K.2.1 K.2.2.2.2.1 inX4 tyX4 tyX4_ok nmX4 K.2.2.2.1 K.2.2.2.2.2.1.1 hW.1 hW.2 hS 62 (wl_get g ad σ (by decide)) rfl 1 (by decide) (K.2.2.2.2.1 _ hl) (fun _ h => h) rfl (by decide +kernel) rfl rfl (Nat.le_of_ble_eq_true rfl) d (fun H1 locs1 hP hD hS1 => k H1 locs1 ls ⟨(set_62_1 g ad σ v) ▸ hP, (set_62_1 g ad σ v) ▸ hD⟩ hS1 h)
theorem get_62_2 (K : Ok g x cc own nL fr lo) {index : Nat} (hl : Cond.fieldLink own index "KiteBarges$River" "way" "[I" ∈ gtb) (d : decode cc pc = .ok (.getfield index, 3)) (k : GJ g x nL (pc + 3) lv (.ref (ad 0) :: rest) ad σ) : GJ g x nL pc lv (.ref (ad 62) :: rest) ad σ :=
  fun H locs ls hW hS h => va_get (D := g.D) (ci := 4) (C := RX4) (T := TX4) (N := 12) K.1 K.2.1 K.2.2.2.2.1 inX4 K.2.2.2.1 K.2.2.2.2.2.1.1 hW.1 62 (wl_get g ad σ (by decide)) rfl 2 (by decide) (K.2.2.2.2.1 _ hl) (fun _ h => h) rfl d (k H locs ls hW hS h)
theorem get_62_3 (K : Ok g x cc own nL fr lo) {index : Nat} (hl : Cond.fieldLink own index "KiteBarges$River" "yardsLong" "[I" ∈ gtb) (d : decode cc pc = .ok (.getfield index, 3)) (k : GJ g x nL (pc + 3) lv (.ref (ad 1) :: rest) ad σ) : GJ g x nL pc lv (.ref (ad 62) :: rest) ad σ :=
  fun H locs ls hW hS h => va_get (D := g.D) (ci := 4) (C := RX4) (T := TX4) (N := 12) K.1 K.2.1 K.2.2.2.2.1 inX4 K.2.2.2.1 K.2.2.2.2.2.1.1 hW.1 62 (wl_get g ad σ (by decide)) rfl 3 (by decide) (K.2.2.2.2.1 _ hl) (fun _ h => h) rfl d (k H locs ls hW hS h)
theorem get_62_4 (K : Ok g x cc own nL fr lo) {index : Nat} (hl : Cond.fieldLink own index "KiteBarges$River" "kind" "[I" ∈ gtb) (d : decode cc pc = .ok (.getfield index, 3)) (k : GJ g x nL (pc + 3) lv (.ref (ad 2) :: rest) ad σ) : GJ g x nL pc lv (.ref (ad 62) :: rest) ad σ :=
  fun H locs ls hW hS h => va_get (D := g.D) (ci := 4) (C := RX4) (T := TX4) (N := 12) K.1 K.2.1 K.2.2.2.2.1 inX4 K.2.2.2.1 K.2.2.2.2.2.1.1 hW.1 62 (wl_get g ad σ (by decide)) rfl 4 (by decide) (K.2.2.2.2.1 _ hl) (fun _ h => h) rfl d (k H locs ls hW hS h)
theorem get_62_5 (K : Ok g x cc own nL fr lo) {index : Nat} (hl : Cond.fieldLink own index "KiteBarges$River" "windWay" "[I" ∈ gtb) (d : decode cc pc = .ok (.getfield index, 3)) (k : GJ g x nL (pc + 3) lv (.ref (ad 3) :: rest) ad σ) : GJ g x nL pc lv (.ref (ad 62) :: rest) ad σ :=
  fun H locs ls hW hS h => va_get (D := g.D) (ci := 4) (C := RX4) (T := TX4) (N := 12) K.1 K.2.1 K.2.2.2.2.1 inX4 K.2.2.2.1 K.2.2.2.2.2.1.1 hW.1 62 (wl_get g ad σ (by decide)) rfl 5 (by decide) (K.2.2.2.2.1 _ hl) (fun _ h => h) rfl d (k H locs ls hW hS h)
theorem get_62_6 (K : Ok g x cc own nL fr lo) {index : Nat} (hl : Cond.fieldLink own index "KiteBarges$River" "strength" "[I" ∈ gtb) (d : decode cc pc = .ok (.getfield index, 3)) (k : GJ g x nL (pc + 3) lv (.ref (ad 4) :: rest) ad σ) : GJ g x nL pc lv (.ref (ad 62) :: rest) ad σ :=
  fun H locs ls hW hS h => va_get (D := g.D) (ci := 4) (C := RX4) (T := TX4) (N := 12) K.1 K.2.1 K.2.2.2.2.1 inX4 K.2.2.2.1 K.2.2.2.2.2.1.1 hW.1 62 (wl_get g ad σ (by decide)) rfl 6 (by decide) (K.2.2.2.2.1 _ hl) (fun _ h => h) rfl d (k H locs ls hW hS h)
theorem get_62_7 (K : Ok g x cc own nL fr lo) {index : Nat} (hl : Cond.fieldLink own index "KiteBarges$River" "told" "[Z" ∈ gtb) (d : decode cc pc = .ok (.getfield index, 3)) (k : GJ g x nL (pc + 3) lv (.ref (ad 5) :: rest) ad σ) : GJ g x nL pc lv (.ref (ad 62) :: rest) ad σ :=
  fun H locs ls hW hS h => va_get (D := g.D) (ci := 4) (C := RX4) (T := TX4) (N := 12) K.1 K.2.1 K.2.2.2.2.1 inX4 K.2.2.2.1 K.2.2.2.2.2.1.1 hW.1 62 (wl_get g ad σ (by decide)) rfl 7 (by decide) (K.2.2.2.2.1 _ hl) (fun _ h => h) rfl d (k H locs ls hW hS h)
theorem get_62_8 (K : Ok g x cc own nL fr lo) {index : Nat} (hl : Cond.fieldLink own index "KiteBarges$River" "weight" "[I" ∈ gtb) (d : decode cc pc = .ok (.getfield index, 3)) (k : GJ g x nL (pc + 3) lv (.ref (ad 6) :: rest) ad σ) : GJ g x nL pc lv (.ref (ad 62) :: rest) ad σ :=
  fun H locs ls hW hS h => va_get (D := g.D) (ci := 4) (C := RX4) (T := TX4) (N := 12) K.1 K.2.1 K.2.2.2.2.1 inX4 K.2.2.2.1 K.2.2.2.2.2.1.1 hW.1 62 (wl_get g ad σ (by decide)) rfl 8 (by decide) (K.2.2.2.2.1 _ hl) (fun _ h => h) rfl d (k H locs ls hW hS h)
theorem get_62_9 (K : Ok g x cc own nL fr lo) {index : Nat} (hl : Cond.fieldLink own index "KiteBarges$River" "cordLong" "[I" ∈ gtb) (d : decode cc pc = .ok (.getfield index, 3)) (k : GJ g x nL (pc + 3) lv (.ref (ad 7) :: rest) ad σ) : GJ g x nL pc lv (.ref (ad 62) :: rest) ad σ :=
  fun H locs ls hW hS h => va_get (D := g.D) (ci := 4) (C := RX4) (T := TX4) (N := 12) K.1 K.2.1 K.2.2.2.2.1 inX4 K.2.2.2.1 K.2.2.2.2.2.1.1 hW.1 62 (wl_get g ad σ (by decide)) rfl 9 (by decide) (K.2.2.2.2.1 _ hl) (fun _ h => h) rfl d (k H locs ls hW hS h)
theorem get_62_10 (K : Ok g x cc own nL fr lo) {index : Nat} (hl : Cond.fieldLink own index "KiteBarges$River" "kite" "[I" ∈ gtb) (d : decode cc pc = .ok (.getfield index, 3)) (k : GJ g x nL (pc + 3) lv (.ref (ad 8) :: rest) ad σ) : GJ g x nL pc lv (.ref (ad 62) :: rest) ad σ :=
  fun H locs ls hW hS h => va_get (D := g.D) (ci := 4) (C := RX4) (T := TX4) (N := 12) K.1 K.2.1 K.2.2.2.2.1 inX4 K.2.2.2.1 K.2.2.2.2.2.1.1 hW.1 62 (wl_get g ad σ (by decide)) rfl 10 (by decide) (K.2.2.2.2.1 _ hl) (fun _ h => h) rfl d (k H locs ls hW hS h)
theorem get_62_11 (K : Ok g x cc own nL fr lo) {index : Nat} (hl : Cond.fieldLink own index "KiteBarges$River" "freight" "[I" ∈ gtb) (d : decode cc pc = .ok (.getfield index, 3)) (k : GJ g x nL (pc + 3) lv (.ref (ad 9) :: rest) ad σ) : GJ g x nL pc lv (.ref (ad 62) :: rest) ad σ :=
  fun H locs ls hW hS h => va_get (D := g.D) (ci := 4) (C := RX4) (T := TX4) (N := 12) K.1 K.2.1 K.2.2.2.2.1 inX4 K.2.2.2.1 K.2.2.2.2.2.1.1 hW.1 62 (wl_get g ad σ (by decide)) rfl 11 (by decide) (K.2.2.2.2.1 _ hl) (fun _ h => h) rfl d (k H locs ls hW hS h)
theorem get_63_0 (K : Ok g x cc own nL fr lo) {index : Nat} (hl : Cond.fieldLink own index "KiteBarges$Text" "length" "I" ∈ gtb) (d : decode cc pc = .ok (.getfield index, 3)) (k : GJ g x nL (pc + 3) lv (.int (σ.I 2) :: rest) ad σ) : GJ g x nL pc lv (.ref (ad 63) :: rest) ad σ :=
  fun H locs ls hW hS h => va_get (D := g.D) (ci := 5) (C := RX5) (T := TX5) (N := 10) K.1 K.2.1 K.2.2.2.2.1 inX5 K.2.2.2.1 K.2.2.2.2.2.1.1 hW.1 63 (wl_get g ad σ (by decide)) rfl 0 (by decide) (K.2.2.2.2.1 _ hl) (fun _ h => h) rfl d (k H locs ls hW hS h)
theorem put_63_0 (K : Ok g x cc own nL fr lo) {index : Nat} {v : Int32} (hl : Cond.fieldLink own index "KiteBarges$Text" "length" "I" ∈ gtb) (d : decode cc pc = .ok (.putfield index, 3)) (k : GJ g x nL (pc + 3) lv rest ad (σ.sI 2 v)) : GJ g x nL pc lv (.int v :: .ref (ad 63) :: rest) ad σ :=
  fun H locs ls hW hS h => va_put (D := g.D) (ci := 5) (C := RX5) (T := TX5) (N := 10) (ty := .int) K.1 K.2.1 K.2.2.2.2.1 inX5 tyX5 tyX5_ok nmX5 K.2.2.2.1 K.2.2.2.2.2.1.1 hW.1 hW.2 hS 63 (wl_get g ad σ (by decide)) rfl 0 (by decide) (K.2.2.2.2.1 _ hl) (fun _ h => h) rfl (by decide +kernel) rfl rfl (Nat.le_of_ble_eq_true rfl) d (fun H1 locs1 hP hD hS1 => k H1 locs1 ls ⟨(set_63_0 g ad σ v) ▸ hP, (set_63_0 g ad σ v) ▸ hD⟩ hS1 h)
theorem get_63_1 (K : Ok g x cc own nL fr lo) {index : Nat} (hl : Cond.fieldLink own index "KiteBarges$Text" "lines" "I" ∈ gtb) (d : decode cc pc = .ok (.getfield index, 3)) (k : GJ g x nL (pc + 3) lv (.int (σ.I 3) :: rest) ad σ) : GJ g x nL pc lv (.ref (ad 63) :: rest) ad σ :=
  fun H locs ls hW hS h => va_get (D := g.D) (ci := 5) (C := RX5) (T := TX5) (N := 10) K.1 K.2.1 K.2.2.2.2.1 inX5 K.2.2.2.1 K.2.2.2.2.2.1.1 hW.1 63 (wl_get g ad σ (by decide)) rfl 1 (by decide) (K.2.2.2.2.1 _ hl) (fun _ h => h) rfl d (k H locs ls hW hS h)
theorem put_63_1 (K : Ok g x cc own nL fr lo) {index : Nat} {v : Int32} (hl : Cond.fieldLink own index "KiteBarges$Text" "lines" "I" ∈ gtb) (d : decode cc pc = .ok (.putfield index, 3)) (k : GJ g x nL (pc + 3) lv rest ad (σ.sI 3 v)) : GJ g x nL pc lv (.int v :: .ref (ad 63) :: rest) ad σ :=
  fun H locs ls hW hS h => va_put (D := g.D) (ci := 5) (C := RX5) (T := TX5) (N := 10) (ty := .int) K.1 K.2.1 K.2.2.2.2.1 inX5 tyX5 tyX5_ok nmX5 K.2.2.2.1 K.2.2.2.2.2.1.1 hW.1 hW.2 hS 63 (wl_get g ad σ (by decide)) rfl 1 (by decide) (K.2.2.2.2.1 _ hl) (fun _ h => h) rfl (by decide +kernel) rfl rfl (Nat.le_of_ble_eq_true rfl) d (fun H1 locs1 hP hD hS1 => k H1 locs1 ls ⟨(set_63_1 g ad σ v) ▸ hP, (set_63_1 g ad σ v) ▸ hD⟩ hS1 h)
theorem get_63_2 (K : Ok g x cc own nL fr lo) {index : Nat} (hl : Cond.fieldLink own index "KiteBarges$Text" "bytes" "[I" ∈ gtb) (d : decode cc pc = .ok (.getfield index, 3)) (k : GJ g x nL (pc + 3) lv (.ref (ad 10) :: rest) ad σ) : GJ g x nL pc lv (.ref (ad 63) :: rest) ad σ :=
  fun H locs ls hW hS h => va_get (D := g.D) (ci := 5) (C := RX5) (T := TX5) (N := 10) K.1 K.2.1 K.2.2.2.2.1 inX5 K.2.2.2.1 K.2.2.2.2.2.1.1 hW.1 63 (wl_get g ad σ (by decide)) rfl 2 (by decide) (K.2.2.2.2.1 _ hl) (fun _ h => h) rfl d (k H locs ls hW hS h)
theorem get_63_3 (K : Ok g x cc own nL fr lo) {index : Nat} (hl : Cond.fieldLink own index "KiteBarges$Text" "tokenKind" "I" ∈ gtb) (d : decode cc pc = .ok (.getfield index, 3)) (k : GJ g x nL (pc + 3) lv (.int (σ.I 4) :: rest) ad σ) : GJ g x nL pc lv (.ref (ad 63) :: rest) ad σ :=
  fun H locs ls hW hS h => va_get (D := g.D) (ci := 5) (C := RX5) (T := TX5) (N := 10) K.1 K.2.1 K.2.2.2.2.1 inX5 K.2.2.2.1 K.2.2.2.2.2.1.1 hW.1 63 (wl_get g ad σ (by decide)) rfl 3 (by decide) (K.2.2.2.2.1 _ hl) (fun _ h => h) rfl d (k H locs ls hW hS h)
theorem put_63_3 (K : Ok g x cc own nL fr lo) {index : Nat} {v : Int32} (hl : Cond.fieldLink own index "KiteBarges$Text" "tokenKind" "I" ∈ gtb) (d : decode cc pc = .ok (.putfield index, 3)) (k : GJ g x nL (pc + 3) lv rest ad (σ.sI 4 v)) : GJ g x nL pc lv (.int v :: .ref (ad 63) :: rest) ad σ :=
  fun H locs ls hW hS h => va_put (D := g.D) (ci := 5) (C := RX5) (T := TX5) (N := 10) (ty := .int) K.1 K.2.1 K.2.2.2.2.1 inX5 tyX5 tyX5_ok nmX5 K.2.2.2.1 K.2.2.2.2.2.1.1 hW.1 hW.2 hS 63 (wl_get g ad σ (by decide)) rfl 3 (by decide) (K.2.2.2.2.1 _ hl) (fun _ h => h) rfl (by decide +kernel) rfl rfl (Nat.le_of_ble_eq_true rfl) d (fun H1 locs1 hP hD hS1 => k H1 locs1 ls ⟨(set_63_3 g ad σ v) ▸ hP, (set_63_3 g ad σ v) ▸ hD⟩ hS1 h)
theorem get_63_4 (K : Ok g x cc own nL fr lo) {index : Nat} (hl : Cond.fieldLink own index "KiteBarges$Text" "place" "I" ∈ gtb) (d : decode cc pc = .ok (.getfield index, 3)) (k : GJ g x nL (pc + 3) lv (.int (σ.I 5) :: rest) ad σ) : GJ g x nL pc lv (.ref (ad 63) :: rest) ad σ :=
  fun H locs ls hW hS h => va_get (D := g.D) (ci := 5) (C := RX5) (T := TX5) (N := 10) K.1 K.2.1 K.2.2.2.2.1 inX5 K.2.2.2.1 K.2.2.2.2.2.1.1 hW.1 63 (wl_get g ad σ (by decide)) rfl 4 (by decide) (K.2.2.2.2.1 _ hl) (fun _ h => h) rfl d (k H locs ls hW hS h)
theorem put_63_4 (K : Ok g x cc own nL fr lo) {index : Nat} {v : Int32} (hl : Cond.fieldLink own index "KiteBarges$Text" "place" "I" ∈ gtb) (d : decode cc pc = .ok (.putfield index, 3)) (k : GJ g x nL (pc + 3) lv rest ad (σ.sI 5 v)) : GJ g x nL pc lv (.int v :: .ref (ad 63) :: rest) ad σ :=
  fun H locs ls hW hS h => va_put (D := g.D) (ci := 5) (C := RX5) (T := TX5) (N := 10) (ty := .int) K.1 K.2.1 K.2.2.2.2.1 inX5 tyX5 tyX5_ok nmX5 K.2.2.2.1 K.2.2.2.2.2.1.1 hW.1 hW.2 hS 63 (wl_get g ad σ (by decide)) rfl 4 (by decide) (K.2.2.2.2.1 _ hl) (fun _ h => h) rfl (by decide +kernel) rfl rfl (Nat.le_of_ble_eq_true rfl) d (fun H1 locs1 hP hD hS1 => k H1 locs1 ls ⟨(set_63_4 g ad σ v) ▸ hP, (set_63_4 g ad σ v) ▸ hD⟩ hS1 h)
theorem get_63_5 (K : Ok g x cc own nL fr lo) {index : Nat} (hl : Cond.fieldLink own index "KiteBarges$Text" "end" "I" ∈ gtb) (d : decode cc pc = .ok (.getfield index, 3)) (k : GJ g x nL (pc + 3) lv (.int (σ.I 6) :: rest) ad σ) : GJ g x nL pc lv (.ref (ad 63) :: rest) ad σ :=
  fun H locs ls hW hS h => va_get (D := g.D) (ci := 5) (C := RX5) (T := TX5) (N := 10) K.1 K.2.1 K.2.2.2.2.1 inX5 K.2.2.2.1 K.2.2.2.2.2.1.1 hW.1 63 (wl_get g ad σ (by decide)) rfl 5 (by decide) (K.2.2.2.2.1 _ hl) (fun _ h => h) rfl d (k H locs ls hW hS h)
theorem put_63_5 (K : Ok g x cc own nL fr lo) {index : Nat} {v : Int32} (hl : Cond.fieldLink own index "KiteBarges$Text" "end" "I" ∈ gtb) (d : decode cc pc = .ok (.putfield index, 3)) (k : GJ g x nL (pc + 3) lv rest ad (σ.sI 6 v)) : GJ g x nL pc lv (.int v :: .ref (ad 63) :: rest) ad σ :=
  fun H locs ls hW hS h => va_put (D := g.D) (ci := 5) (C := RX5) (T := TX5) (N := 10) (ty := .int) K.1 K.2.1 K.2.2.2.2.1 inX5 tyX5 tyX5_ok nmX5 K.2.2.2.1 K.2.2.2.2.2.1.1 hW.1 hW.2 hS 63 (wl_get g ad σ (by decide)) rfl 5 (by decide) (K.2.2.2.2.1 _ hl) (fun _ h => h) rfl (by decide +kernel) rfl rfl (Nat.le_of_ble_eq_true rfl) d (fun H1 locs1 hP hD hS1 => k H1 locs1 ls ⟨(set_63_5 g ad σ v) ▸ hP, (set_63_5 g ad σ v) ▸ hD⟩ hS1 h)
theorem get_63_6 (K : Ok g x cc own nL fr lo) {index : Nat} (hl : Cond.fieldLink own index "KiteBarges$Text" "word" "I" ∈ gtb) (d : decode cc pc = .ok (.getfield index, 3)) (k : GJ g x nL (pc + 3) lv (.int (σ.I 7) :: rest) ad σ) : GJ g x nL pc lv (.ref (ad 63) :: rest) ad σ :=
  fun H locs ls hW hS h => va_get (D := g.D) (ci := 5) (C := RX5) (T := TX5) (N := 10) K.1 K.2.1 K.2.2.2.2.1 inX5 K.2.2.2.1 K.2.2.2.2.2.1.1 hW.1 63 (wl_get g ad σ (by decide)) rfl 6 (by decide) (K.2.2.2.2.1 _ hl) (fun _ h => h) rfl d (k H locs ls hW hS h)
theorem put_63_6 (K : Ok g x cc own nL fr lo) {index : Nat} {v : Int32} (hl : Cond.fieldLink own index "KiteBarges$Text" "word" "I" ∈ gtb) (d : decode cc pc = .ok (.putfield index, 3)) (k : GJ g x nL (pc + 3) lv rest ad (σ.sI 7 v)) : GJ g x nL pc lv (.int v :: .ref (ad 63) :: rest) ad σ :=
  fun H locs ls hW hS h => va_put (D := g.D) (ci := 5) (C := RX5) (T := TX5) (N := 10) (ty := .int) K.1 K.2.1 K.2.2.2.2.1 inX5 tyX5 tyX5_ok nmX5 K.2.2.2.1 K.2.2.2.2.2.1.1 hW.1 hW.2 hS 63 (wl_get g ad σ (by decide)) rfl 6 (by decide) (K.2.2.2.2.1 _ hl) (fun _ h => h) rfl (by decide +kernel) rfl rfl (Nat.le_of_ble_eq_true rfl) d (fun H1 locs1 hP hD hS1 => k H1 locs1 ls ⟨(set_63_6 g ad σ v) ▸ hP, (set_63_6 g ad σ v) ▸ hD⟩ hS1 h)
theorem get_63_7 (K : Ok g x cc own nL fr lo) {index : Nat} (hl : Cond.fieldLink own index "KiteBarges$Text" "filled" "I" ∈ gtb) (d : decode cc pc = .ok (.getfield index, 3)) (k : GJ g x nL (pc + 3) lv (.int (σ.I 8) :: rest) ad σ) : GJ g x nL pc lv (.ref (ad 63) :: rest) ad σ :=
  fun H locs ls hW hS h => va_get (D := g.D) (ci := 5) (C := RX5) (T := TX5) (N := 10) K.1 K.2.1 K.2.2.2.2.1 inX5 K.2.2.2.1 K.2.2.2.2.2.1.1 hW.1 63 (wl_get g ad σ (by decide)) rfl 7 (by decide) (K.2.2.2.2.1 _ hl) (fun _ h => h) rfl d (k H locs ls hW hS h)
theorem put_63_7 (K : Ok g x cc own nL fr lo) {index : Nat} {v : Int32} (hl : Cond.fieldLink own index "KiteBarges$Text" "filled" "I" ∈ gtb) (d : decode cc pc = .ok (.putfield index, 3)) (k : GJ g x nL (pc + 3) lv rest ad (σ.sI 8 v)) : GJ g x nL pc lv (.int v :: .ref (ad 63) :: rest) ad σ :=
  fun H locs ls hW hS h => va_put (D := g.D) (ci := 5) (C := RX5) (T := TX5) (N := 10) (ty := .int) K.1 K.2.1 K.2.2.2.2.1 inX5 tyX5 tyX5_ok nmX5 K.2.2.2.1 K.2.2.2.2.2.1.1 hW.1 hW.2 hS 63 (wl_get g ad σ (by decide)) rfl 7 (by decide) (K.2.2.2.2.1 _ hl) (fun _ h => h) rfl (by decide +kernel) rfl rfl (Nat.le_of_ble_eq_true rfl) d (fun H1 locs1 hP hD hS1 => k H1 locs1 ls ⟨(set_63_7 g ad σ v) ▸ hP, (set_63_7 g ad σ v) ▸ hD⟩ hS1 h)
theorem get_63_8 (K : Ok g x cc own nL fr lo) {index : Nat} (hl : Cond.fieldLink own index "KiteBarges$Text" "numbers" "[I" ∈ gtb) (d : decode cc pc = .ok (.getfield index, 3)) (k : GJ g x nL (pc + 3) lv (.ref (ad 11) :: rest) ad σ) : GJ g x nL pc lv (.ref (ad 63) :: rest) ad σ :=
  fun H locs ls hW hS h => va_get (D := g.D) (ci := 5) (C := RX5) (T := TX5) (N := 10) K.1 K.2.1 K.2.2.2.2.1 inX5 K.2.2.2.1 K.2.2.2.2.2.1.1 hW.1 63 (wl_get g ad σ (by decide)) rfl 8 (by decide) (K.2.2.2.2.1 _ hl) (fun _ h => h) rfl d (k H locs ls hW hS h)
theorem get_63_9 (K : Ok g x cc own nL fr lo) {index : Nat} (hl : Cond.fieldLink own index "KiteBarges$Text" "reaches" "I" ∈ gtb) (d : decode cc pc = .ok (.getfield index, 3)) (k : GJ g x nL (pc + 3) lv (.int (σ.I 9) :: rest) ad σ) : GJ g x nL pc lv (.ref (ad 63) :: rest) ad σ :=
  fun H locs ls hW hS h => va_get (D := g.D) (ci := 5) (C := RX5) (T := TX5) (N := 10) K.1 K.2.1 K.2.2.2.2.1 inX5 K.2.2.2.1 K.2.2.2.2.2.1.1 hW.1 63 (wl_get g ad σ (by decide)) rfl 9 (by decide) (K.2.2.2.2.1 _ hl) (fun _ h => h) rfl d (k H locs ls hW hS h)
theorem put_63_9 (K : Ok g x cc own nL fr lo) {index : Nat} {v : Int32} (hl : Cond.fieldLink own index "KiteBarges$Text" "reaches" "I" ∈ gtb) (d : decode cc pc = .ok (.putfield index, 3)) (k : GJ g x nL (pc + 3) lv rest ad (σ.sI 9 v)) : GJ g x nL pc lv (.int v :: .ref (ad 63) :: rest) ad σ :=
  fun H locs ls hW hS h => va_put (D := g.D) (ci := 5) (C := RX5) (T := TX5) (N := 10) (ty := .int) K.1 K.2.1 K.2.2.2.2.1 inX5 tyX5 tyX5_ok nmX5 K.2.2.2.1 K.2.2.2.2.2.1.1 hW.1 hW.2 hS 63 (wl_get g ad σ (by decide)) rfl 9 (by decide) (K.2.2.2.2.1 _ hl) (fun _ h => h) rfl (by decide +kernel) rfl rfl (Nat.le_of_ble_eq_true rfl) d (fun H1 locs1 hP hD hS1 => k H1 locs1 ls ⟨(set_63_9 g ad σ v) ▸ hP, (set_63_9 g ad σ v) ▸ hD⟩ hS1 h)
theorem get_64_0 (K : Ok g x cc own nL fr lo) {index : Nat} (hl : Cond.fieldLink own index "KiteBarges$Fleet" "hours" "I" ∈ gtb) (d : decode cc pc = .ok (.getfield index, 3)) (k : GJ g x nL (pc + 3) lv (.int (σ.I 10) :: rest) ad σ) : GJ g x nL pc lv (.ref (ad 64) :: rest) ad σ :=
  fun H locs ls hW hS h => va_get (D := g.D) (ci := 0) (C := RX0) (T := TX0) (N := 6) K.1 K.2.1 K.2.2.2.2.1 inX0 K.2.2.2.1 K.2.2.2.2.2.1.1 hW.1 64 (wl_get g ad σ (by decide)) rfl 0 (by decide) (K.2.2.2.2.1 _ hl) (fun _ h => h) rfl d (k H locs ls hW hS h)
theorem put_64_0 (K : Ok g x cc own nL fr lo) {index : Nat} {v : Int32} (hl : Cond.fieldLink own index "KiteBarges$Fleet" "hours" "I" ∈ gtb) (d : decode cc pc = .ok (.putfield index, 3)) (k : GJ g x nL (pc + 3) lv rest ad (σ.sI 10 v)) : GJ g x nL pc lv (.int v :: .ref (ad 64) :: rest) ad σ :=
  fun H locs ls hW hS h => va_put (D := g.D) (ci := 0) (C := RX0) (T := TX0) (N := 6) (ty := .int) K.1 K.2.1 K.2.2.2.2.1 inX0 tyX0 tyX0_ok nmX0 K.2.2.2.1 K.2.2.2.2.2.1.1 hW.1 hW.2 hS 64 (wl_get g ad σ (by decide)) rfl 0 (by decide) (K.2.2.2.2.1 _ hl) (fun _ h => h) rfl (by decide +kernel) rfl rfl (Nat.le_of_ble_eq_true rfl) d (fun H1 locs1 hP hD hS1 => k H1 locs1 ls ⟨(set_64_0 g ad σ v) ▸ hP, (set_64_0 g ad σ v) ▸ hD⟩ hS1 h)
theorem get_64_1 (K : Ok g x cc own nL fr lo) {index : Nat} (hl : Cond.fieldLink own index "KiteBarges$Fleet" "place" "[I" ∈ gtb) (d : decode cc pc = .ok (.getfield index, 3)) (k : GJ g x nL (pc + 3) lv (.ref (ad 12) :: rest) ad σ) : GJ g x nL pc lv (.ref (ad 64) :: rest) ad σ :=
  fun H locs ls hW hS h => va_get (D := g.D) (ci := 0) (C := RX0) (T := TX0) (N := 6) K.1 K.2.1 K.2.2.2.2.1 inX0 K.2.2.2.1 K.2.2.2.2.2.1.1 hW.1 64 (wl_get g ad σ (by decide)) rfl 1 (by decide) (K.2.2.2.2.1 _ hl) (fun _ h => h) rfl d (k H locs ls hW hS h)
theorem get_64_2 (K : Ok g x cc own nL fr lo) {index : Nat} (hl : Cond.fieldLink own index "KiteBarges$Fleet" "layer" "[I" ∈ gtb) (d : decode cc pc = .ok (.getfield index, 3)) (k : GJ g x nL (pc + 3) lv (.ref (ad 13) :: rest) ad σ) : GJ g x nL pc lv (.ref (ad 64) :: rest) ad σ :=
  fun H locs ls hW hS h => va_get (D := g.D) (ci := 0) (C := RX0) (T := TX0) (N := 6) K.1 K.2.1 K.2.2.2.2.1 inX0 K.2.2.2.1 K.2.2.2.2.2.1.1 hW.1 64 (wl_get g ad σ (by decide)) rfl 2 (by decide) (K.2.2.2.2.1 _ hl) (fun _ h => h) rfl d (k H locs ls hW hS h)
theorem get_64_3 (K : Ok g x cc own nL fr lo) {index : Nat} (hl : Cond.fieldLink own index "KiteBarges$Fleet" "lastLayer" "[I" ∈ gtb) (d : decode cc pc = .ok (.getfield index, 3)) (k : GJ g x nL (pc + 3) lv (.ref (ad 14) :: rest) ad σ) : GJ g x nL pc lv (.ref (ad 64) :: rest) ad σ :=
  fun H locs ls hW hS h => va_get (D := g.D) (ci := 0) (C := RX0) (T := TX0) (N := 6) K.1 K.2.1 K.2.2.2.2.1 inX0 K.2.2.2.1 K.2.2.2.2.2.1.1 hW.1 64 (wl_get g ad σ (by decide)) rfl 3 (by decide) (K.2.2.2.2.1 _ hl) (fun _ h => h) rfl d (k H locs ls hW hS h)
theorem get_64_4 (K : Ok g x cc own nL fr lo) {index : Nat} (hl : Cond.fieldLink own index "KiteBarges$Fleet" "run" "[I" ∈ gtb) (d : decode cc pc = .ok (.getfield index, 3)) (k : GJ g x nL (pc + 3) lv (.ref (ad 15) :: rest) ad σ) : GJ g x nL pc lv (.ref (ad 64) :: rest) ad σ :=
  fun H locs ls hW hS h => va_get (D := g.D) (ci := 0) (C := RX0) (T := TX0) (N := 6) K.1 K.2.1 K.2.2.2.2.1 inX0 K.2.2.2.1 K.2.2.2.2.2.1.1 hW.1 64 (wl_get g ad σ (by decide)) rfl 4 (by decide) (K.2.2.2.2.1 _ hl) (fun _ h => h) rfl d (k H locs ls hW hS h)
theorem get_64_5 (K : Ok g x cc own nL fr lo) {index : Nat} (hl : Cond.fieldLink own index "KiteBarges$Fleet" "stayed" "[I" ∈ gtb) (d : decode cc pc = .ok (.getfield index, 3)) (k : GJ g x nL (pc + 3) lv (.ref (ad 16) :: rest) ad σ) : GJ g x nL pc lv (.ref (ad 64) :: rest) ad σ :=
  fun H locs ls hW hS h => va_get (D := g.D) (ci := 0) (C := RX0) (T := TX0) (N := 6) K.1 K.2.1 K.2.2.2.2.1 inX0 K.2.2.2.1 K.2.2.2.2.2.1.1 hW.1 64 (wl_get g ad σ (by decide)) rfl 5 (by decide) (K.2.2.2.2.1 _ hl) (fun _ h => h) rfl d (k H locs ls hW hS h)
theorem get_65_0 (K : Ok g x cc own nL fr lo) {index : Nat} (hl : Cond.fieldLink own index "KiteBarges$Fleet" "hours" "I" ∈ gtb) (d : decode cc pc = .ok (.getfield index, 3)) (k : GJ g x nL (pc + 3) lv (.int (σ.I 11) :: rest) ad σ) : GJ g x nL pc lv (.ref (ad 65) :: rest) ad σ :=
  fun H locs ls hW hS h => va_get (D := g.D) (ci := 0) (C := RX0) (T := TX0) (N := 6) K.1 K.2.1 K.2.2.2.2.1 inX0 K.2.2.2.1 K.2.2.2.2.2.1.1 hW.1 65 (wl_get g ad σ (by decide)) rfl 0 (by decide) (K.2.2.2.2.1 _ hl) (fun _ h => h) rfl d (k H locs ls hW hS h)
theorem put_65_0 (K : Ok g x cc own nL fr lo) {index : Nat} {v : Int32} (hl : Cond.fieldLink own index "KiteBarges$Fleet" "hours" "I" ∈ gtb) (d : decode cc pc = .ok (.putfield index, 3)) (k : GJ g x nL (pc + 3) lv rest ad (σ.sI 11 v)) : GJ g x nL pc lv (.int v :: .ref (ad 65) :: rest) ad σ :=
  fun H locs ls hW hS h => va_put (D := g.D) (ci := 0) (C := RX0) (T := TX0) (N := 6) (ty := .int) K.1 K.2.1 K.2.2.2.2.1 inX0 tyX0 tyX0_ok nmX0 K.2.2.2.1 K.2.2.2.2.2.1.1 hW.1 hW.2 hS 65 (wl_get g ad σ (by decide)) rfl 0 (by decide) (K.2.2.2.2.1 _ hl) (fun _ h => h) rfl (by decide +kernel) rfl rfl (Nat.le_of_ble_eq_true rfl) d (fun H1 locs1 hP hD hS1 => k H1 locs1 ls ⟨(set_65_0 g ad σ v) ▸ hP, (set_65_0 g ad σ v) ▸ hD⟩ hS1 h)
theorem get_65_1 (K : Ok g x cc own nL fr lo) {index : Nat} (hl : Cond.fieldLink own index "KiteBarges$Fleet" "place" "[I" ∈ gtb) (d : decode cc pc = .ok (.getfield index, 3)) (k : GJ g x nL (pc + 3) lv (.ref (ad 17) :: rest) ad σ) : GJ g x nL pc lv (.ref (ad 65) :: rest) ad σ :=
  fun H locs ls hW hS h => va_get (D := g.D) (ci := 0) (C := RX0) (T := TX0) (N := 6) K.1 K.2.1 K.2.2.2.2.1 inX0 K.2.2.2.1 K.2.2.2.2.2.1.1 hW.1 65 (wl_get g ad σ (by decide)) rfl 1 (by decide) (K.2.2.2.2.1 _ hl) (fun _ h => h) rfl d (k H locs ls hW hS h)
theorem get_65_2 (K : Ok g x cc own nL fr lo) {index : Nat} (hl : Cond.fieldLink own index "KiteBarges$Fleet" "layer" "[I" ∈ gtb) (d : decode cc pc = .ok (.getfield index, 3)) (k : GJ g x nL (pc + 3) lv (.ref (ad 18) :: rest) ad σ) : GJ g x nL pc lv (.ref (ad 65) :: rest) ad σ :=
  fun H locs ls hW hS h => va_get (D := g.D) (ci := 0) (C := RX0) (T := TX0) (N := 6) K.1 K.2.1 K.2.2.2.2.1 inX0 K.2.2.2.1 K.2.2.2.2.2.1.1 hW.1 65 (wl_get g ad σ (by decide)) rfl 2 (by decide) (K.2.2.2.2.1 _ hl) (fun _ h => h) rfl d (k H locs ls hW hS h)
theorem get_65_3 (K : Ok g x cc own nL fr lo) {index : Nat} (hl : Cond.fieldLink own index "KiteBarges$Fleet" "lastLayer" "[I" ∈ gtb) (d : decode cc pc = .ok (.getfield index, 3)) (k : GJ g x nL (pc + 3) lv (.ref (ad 19) :: rest) ad σ) : GJ g x nL pc lv (.ref (ad 65) :: rest) ad σ :=
  fun H locs ls hW hS h => va_get (D := g.D) (ci := 0) (C := RX0) (T := TX0) (N := 6) K.1 K.2.1 K.2.2.2.2.1 inX0 K.2.2.2.1 K.2.2.2.2.2.1.1 hW.1 65 (wl_get g ad σ (by decide)) rfl 3 (by decide) (K.2.2.2.2.1 _ hl) (fun _ h => h) rfl d (k H locs ls hW hS h)
theorem get_65_4 (K : Ok g x cc own nL fr lo) {index : Nat} (hl : Cond.fieldLink own index "KiteBarges$Fleet" "run" "[I" ∈ gtb) (d : decode cc pc = .ok (.getfield index, 3)) (k : GJ g x nL (pc + 3) lv (.ref (ad 20) :: rest) ad σ) : GJ g x nL pc lv (.ref (ad 65) :: rest) ad σ :=
  fun H locs ls hW hS h => va_get (D := g.D) (ci := 0) (C := RX0) (T := TX0) (N := 6) K.1 K.2.1 K.2.2.2.2.1 inX0 K.2.2.2.1 K.2.2.2.2.2.1.1 hW.1 65 (wl_get g ad σ (by decide)) rfl 4 (by decide) (K.2.2.2.2.1 _ hl) (fun _ h => h) rfl d (k H locs ls hW hS h)
theorem get_65_5 (K : Ok g x cc own nL fr lo) {index : Nat} (hl : Cond.fieldLink own index "KiteBarges$Fleet" "stayed" "[I" ∈ gtb) (d : decode cc pc = .ok (.getfield index, 3)) (k : GJ g x nL (pc + 3) lv (.ref (ad 21) :: rest) ad σ) : GJ g x nL pc lv (.ref (ad 65) :: rest) ad σ :=
  fun H locs ls hW hS h => va_get (D := g.D) (ci := 0) (C := RX0) (T := TX0) (N := 6) K.1 K.2.1 K.2.2.2.2.1 inX0 K.2.2.2.1 K.2.2.2.2.2.1.1 hW.1 65 (wl_get g ad σ (by decide)) rfl 5 (by decide) (K.2.2.2.2.1 _ hl) (fun _ h => h) rfl d (k H locs ls hW hS h)
theorem get_66_0 (K : Ok g x cc own nL fr lo) {index : Nat} (hl : Cond.fieldLink own index "KiteBarges$Fleet" "hours" "I" ∈ gtb) (d : decode cc pc = .ok (.getfield index, 3)) (k : GJ g x nL (pc + 3) lv (.int (σ.I 12) :: rest) ad σ) : GJ g x nL pc lv (.ref (ad 66) :: rest) ad σ :=
  fun H locs ls hW hS h => va_get (D := g.D) (ci := 0) (C := RX0) (T := TX0) (N := 6) K.1 K.2.1 K.2.2.2.2.1 inX0 K.2.2.2.1 K.2.2.2.2.2.1.1 hW.1 66 (wl_get g ad σ (by decide)) rfl 0 (by decide) (K.2.2.2.2.1 _ hl) (fun _ h => h) rfl d (k H locs ls hW hS h)
theorem put_66_0 (K : Ok g x cc own nL fr lo) {index : Nat} {v : Int32} (hl : Cond.fieldLink own index "KiteBarges$Fleet" "hours" "I" ∈ gtb) (d : decode cc pc = .ok (.putfield index, 3)) (k : GJ g x nL (pc + 3) lv rest ad (σ.sI 12 v)) : GJ g x nL pc lv (.int v :: .ref (ad 66) :: rest) ad σ :=
  fun H locs ls hW hS h => va_put (D := g.D) (ci := 0) (C := RX0) (T := TX0) (N := 6) (ty := .int) K.1 K.2.1 K.2.2.2.2.1 inX0 tyX0 tyX0_ok nmX0 K.2.2.2.1 K.2.2.2.2.2.1.1 hW.1 hW.2 hS 66 (wl_get g ad σ (by decide)) rfl 0 (by decide) (K.2.2.2.2.1 _ hl) (fun _ h => h) rfl (by decide +kernel) rfl rfl (Nat.le_of_ble_eq_true rfl) d (fun H1 locs1 hP hD hS1 => k H1 locs1 ls ⟨(set_66_0 g ad σ v) ▸ hP, (set_66_0 g ad σ v) ▸ hD⟩ hS1 h)
theorem get_66_1 (K : Ok g x cc own nL fr lo) {index : Nat} (hl : Cond.fieldLink own index "KiteBarges$Fleet" "place" "[I" ∈ gtb) (d : decode cc pc = .ok (.getfield index, 3)) (k : GJ g x nL (pc + 3) lv (.ref (ad 22) :: rest) ad σ) : GJ g x nL pc lv (.ref (ad 66) :: rest) ad σ :=
  fun H locs ls hW hS h => va_get (D := g.D) (ci := 0) (C := RX0) (T := TX0) (N := 6) K.1 K.2.1 K.2.2.2.2.1 inX0 K.2.2.2.1 K.2.2.2.2.2.1.1 hW.1 66 (wl_get g ad σ (by decide)) rfl 1 (by decide) (K.2.2.2.2.1 _ hl) (fun _ h => h) rfl d (k H locs ls hW hS h)
theorem get_66_2 (K : Ok g x cc own nL fr lo) {index : Nat} (hl : Cond.fieldLink own index "KiteBarges$Fleet" "layer" "[I" ∈ gtb) (d : decode cc pc = .ok (.getfield index, 3)) (k : GJ g x nL (pc + 3) lv (.ref (ad 23) :: rest) ad σ) : GJ g x nL pc lv (.ref (ad 66) :: rest) ad σ :=
  fun H locs ls hW hS h => va_get (D := g.D) (ci := 0) (C := RX0) (T := TX0) (N := 6) K.1 K.2.1 K.2.2.2.2.1 inX0 K.2.2.2.1 K.2.2.2.2.2.1.1 hW.1 66 (wl_get g ad σ (by decide)) rfl 2 (by decide) (K.2.2.2.2.1 _ hl) (fun _ h => h) rfl d (k H locs ls hW hS h)
theorem get_66_3 (K : Ok g x cc own nL fr lo) {index : Nat} (hl : Cond.fieldLink own index "KiteBarges$Fleet" "lastLayer" "[I" ∈ gtb) (d : decode cc pc = .ok (.getfield index, 3)) (k : GJ g x nL (pc + 3) lv (.ref (ad 24) :: rest) ad σ) : GJ g x nL pc lv (.ref (ad 66) :: rest) ad σ :=
  fun H locs ls hW hS h => va_get (D := g.D) (ci := 0) (C := RX0) (T := TX0) (N := 6) K.1 K.2.1 K.2.2.2.2.1 inX0 K.2.2.2.1 K.2.2.2.2.2.1.1 hW.1 66 (wl_get g ad σ (by decide)) rfl 3 (by decide) (K.2.2.2.2.1 _ hl) (fun _ h => h) rfl d (k H locs ls hW hS h)
theorem get_66_4 (K : Ok g x cc own nL fr lo) {index : Nat} (hl : Cond.fieldLink own index "KiteBarges$Fleet" "run" "[I" ∈ gtb) (d : decode cc pc = .ok (.getfield index, 3)) (k : GJ g x nL (pc + 3) lv (.ref (ad 25) :: rest) ad σ) : GJ g x nL pc lv (.ref (ad 66) :: rest) ad σ :=
  fun H locs ls hW hS h => va_get (D := g.D) (ci := 0) (C := RX0) (T := TX0) (N := 6) K.1 K.2.1 K.2.2.2.2.1 inX0 K.2.2.2.1 K.2.2.2.2.2.1.1 hW.1 66 (wl_get g ad σ (by decide)) rfl 4 (by decide) (K.2.2.2.2.1 _ hl) (fun _ h => h) rfl d (k H locs ls hW hS h)
theorem get_66_5 (K : Ok g x cc own nL fr lo) {index : Nat} (hl : Cond.fieldLink own index "KiteBarges$Fleet" "stayed" "[I" ∈ gtb) (d : decode cc pc = .ok (.getfield index, 3)) (k : GJ g x nL (pc + 3) lv (.ref (ad 26) :: rest) ad σ) : GJ g x nL pc lv (.ref (ad 66) :: rest) ad σ :=
  fun H locs ls hW hS h => va_get (D := g.D) (ci := 0) (C := RX0) (T := TX0) (N := 6) K.1 K.2.1 K.2.2.2.2.1 inX0 K.2.2.2.1 K.2.2.2.2.2.1.1 hW.1 66 (wl_get g ad σ (by decide)) rfl 5 (by decide) (K.2.2.2.2.1 _ hl) (fun _ h => h) rfl d (k H locs ls hW hS h)
theorem get_67_0 (K : Ok g x cc own nL fr lo) {index : Nat} (hl : Cond.fieldLink own index "KiteBarges$Line" "place" "[I" ∈ gtb) (d : decode cc pc = .ok (.getfield index, 3)) (k : GJ g x nL (pc + 3) lv (.ref (ad 31) :: rest) ad σ) : GJ g x nL pc lv (.ref (ad 67) :: rest) ad σ :=
  fun H locs ls hW hS h => va_get (D := g.D) (ci := 1) (C := RX1) (T := TX1) (N := 2) K.1 K.2.1 K.2.2.2.2.1 inX1 K.2.2.2.1 K.2.2.2.2.2.1.1 hW.1 67 (wl_get g ad σ (by decide)) rfl 0 (by decide) (K.2.2.2.2.1 _ hl) (fun _ h => h) rfl d (k H locs ls hW hS h)
theorem get_67_1 (K : Ok g x cc own nL fr lo) {index : Nat} (hl : Cond.fieldLink own index "KiteBarges$Line" "layer" "[I" ∈ gtb) (d : decode cc pc = .ok (.getfield index, 3)) (k : GJ g x nL (pc + 3) lv (.ref (ad 32) :: rest) ad σ) : GJ g x nL pc lv (.ref (ad 67) :: rest) ad σ :=
  fun H locs ls hW hS h => va_get (D := g.D) (ci := 1) (C := RX1) (T := TX1) (N := 2) K.1 K.2.1 K.2.2.2.2.1 inX1 K.2.2.2.1 K.2.2.2.2.2.1.1 hW.1 67 (wl_get g ad σ (by decide)) rfl 1 (by decide) (K.2.2.2.2.1 _ hl) (fun _ h => h) rfl d (k H locs ls hW hS h)
theorem get_68_0 (K : Ok g x cc own nL fr lo) {index : Nat} (hl : Cond.fieldLink own index "KiteBarges$Line" "place" "[I" ∈ gtb) (d : decode cc pc = .ok (.getfield index, 3)) (k : GJ g x nL (pc + 3) lv (.ref (ad 33) :: rest) ad σ) : GJ g x nL pc lv (.ref (ad 68) :: rest) ad σ :=
  fun H locs ls hW hS h => va_get (D := g.D) (ci := 1) (C := RX1) (T := TX1) (N := 2) K.1 K.2.1 K.2.2.2.2.1 inX1 K.2.2.2.1 K.2.2.2.2.2.1.1 hW.1 68 (wl_get g ad σ (by decide)) rfl 0 (by decide) (K.2.2.2.2.1 _ hl) (fun _ h => h) rfl d (k H locs ls hW hS h)
theorem get_68_1 (K : Ok g x cc own nL fr lo) {index : Nat} (hl : Cond.fieldLink own index "KiteBarges$Line" "layer" "[I" ∈ gtb) (d : decode cc pc = .ok (.getfield index, 3)) (k : GJ g x nL (pc + 3) lv (.ref (ad 34) :: rest) ad σ) : GJ g x nL pc lv (.ref (ad 68) :: rest) ad σ :=
  fun H locs ls hW hS h => va_get (D := g.D) (ci := 1) (C := RX1) (T := TX1) (N := 2) K.1 K.2.1 K.2.2.2.2.1 inX1 K.2.2.2.1 K.2.2.2.2.2.1.1 hW.1 68 (wl_get g ad σ (by decide)) rfl 1 (by decide) (K.2.2.2.2.1 _ hl) (fun _ h => h) rfl d (k H locs ls hW hS h)
theorem get_69_0 (K : Ok g x cc own nL fr lo) {index : Nat} (hl : Cond.fieldLink own index "KiteBarges$Planner" "hoursOf" "[I" ∈ gtb) (d : decode cc pc = .ok (.getfield index, 3)) (k : GJ g x nL (pc + 3) lv (.ref (ad 28) :: rest) ad σ) : GJ g x nL pc lv (.ref (ad 69) :: rest) ad σ :=
  fun H locs ls hW hS h => va_get (D := g.D) (ci := 3) (C := RX3) (T := TX3) (N := 10) K.1 K.2.1 K.2.2.2.2.1 inX3 K.2.2.2.1 K.2.2.2.2.2.1.1 hW.1 69 (wl_get g ad σ (by decide)) rfl 0 (by decide) (K.2.2.2.2.1 _ hl) (fun _ h => h) rfl d (k H locs ls hW hS h)
theorem get_69_1 (K : Ok g x cc own nL fr lo) {index : Nat} (hl : Cond.fieldLink own index "KiteBarges$Planner" "river" "LKiteBarges$River;" ∈ gtb) (d : decode cc pc = .ok (.getfield index, 3)) (k : GJ g x nL (pc + 3) lv (.ref (ad 62) :: rest) ad σ) : GJ g x nL pc lv (.ref (ad 69) :: rest) ad σ :=
  fun H locs ls hW hS h => va_get (D := g.D) (ci := 3) (C := RX3) (T := TX3) (N := 10) K.1 K.2.1 K.2.2.2.2.1 inX3 K.2.2.2.1 K.2.2.2.2.2.1.1 hW.1 69 (wl_get g ad σ (by decide)) rfl 1 (by decide) (K.2.2.2.2.1 _ hl) (fun _ h => h) rfl d (k H locs ls hW hS h)
theorem get_69_2 (K : Ok g x cc own nL fr lo) {index : Nat} (hl : Cond.fieldLink own index "KiteBarges$Planner" "runOf" "[I" ∈ gtb) (d : decode cc pc = .ok (.getfield index, 3)) (k : GJ g x nL (pc + 3) lv (.ref (ad 29) :: rest) ad σ) : GJ g x nL pc lv (.ref (ad 69) :: rest) ad σ :=
  fun H locs ls hW hS h => va_get (D := g.D) (ci := 3) (C := RX3) (T := TX3) (N := 10) K.1 K.2.1 K.2.2.2.2.1 inX3 K.2.2.2.1 K.2.2.2.2.2.1.1 hW.1 69 (wl_get g ad σ (by decide)) rfl 2 (by decide) (K.2.2.2.2.1 _ hl) (fun _ h => h) rfl d (k H locs ls hW hS h)
theorem get_69_3 (K : Ok g x cc own nL fr lo) {index : Nat} (hl : Cond.fieldLink own index "KiteBarges$Planner" "rowOf" "[J" ∈ gtb) (d : decode cc pc = .ok (.getfield index, 3)) (k : GJ g x nL (pc + 3) lv (.ref (ad 30) :: rest) ad σ) : GJ g x nL pc lv (.ref (ad 69) :: rest) ad σ :=
  fun H locs ls hW hS h => va_get (D := g.D) (ci := 3) (C := RX3) (T := TX3) (N := 10) K.1 K.2.1 K.2.2.2.2.1 inX3 K.2.2.2.1 K.2.2.2.2.2.1.1 hW.1 69 (wl_get g ad σ (by decide)) rfl 3 (by decide) (K.2.2.2.2.1 _ hl) (fun _ h => h) rfl d (k H locs ls hW hS h)
theorem get_69_4 (K : Ok g x cc own nL fr lo) {index : Nat} (hl : Cond.fieldLink own index "KiteBarges$Planner" "nobody" "LKiteBarges$Line;" ∈ gtb) (d : decode cc pc = .ok (.getfield index, 3)) (k : GJ g x nL (pc + 3) lv (.ref (ad 67) :: rest) ad σ) : GJ g x nL pc lv (.ref (ad 69) :: rest) ad σ :=
  fun H locs ls hW hS h => va_get (D := g.D) (ci := 3) (C := RX3) (T := TX3) (N := 10) K.1 K.2.1 K.2.2.2.2.1 inX3 K.2.2.2.1 K.2.2.2.2.2.1.1 hW.1 69 (wl_get g ad σ (by decide)) rfl 4 (by decide) (K.2.2.2.2.1 _ hl) (fun _ h => h) rfl d (k H locs ls hW hS h)
theorem get_69_5 (K : Ok g x cc own nL fr lo) {index : Nat} (hl : Cond.fieldLink own index "KiteBarges$Planner" "drawn" "LKiteBarges$Line;" ∈ gtb) (d : decode cc pc = .ok (.getfield index, 3)) (k : GJ g x nL (pc + 3) lv (.ref (ad 68) :: rest) ad σ) : GJ g x nL pc lv (.ref (ad 69) :: rest) ad σ :=
  fun H locs ls hW hS h => va_get (D := g.D) (ci := 3) (C := RX3) (T := TX3) (N := 10) K.1 K.2.1 K.2.2.2.2.1 inX3 K.2.2.2.1 K.2.2.2.2.2.1.1 hW.1 69 (wl_get g ad σ (by decide)) rfl 5 (by decide) (K.2.2.2.2.1 _ hl) (fun _ h => h) rfl d (k H locs ls hW hS h)
theorem get_69_6 (K : Ok g x cc own nL fr lo) {index : Nat} (hl : Cond.fieldLink own index "KiteBarges$Planner" "runs" "[I" ∈ gtb) (d : decode cc pc = .ok (.getfield index, 3)) (k : GJ g x nL (pc + 3) lv (.ref (ad 35) :: rest) ad σ) : GJ g x nL pc lv (.ref (ad 69) :: rest) ad σ :=
  fun H locs ls hW hS h => va_get (D := g.D) (ci := 3) (C := RX3) (T := TX3) (N := 10) K.1 K.2.1 K.2.2.2.2.1 inX3 K.2.2.2.1 K.2.2.2.2.2.1.1 hW.1 69 (wl_get g ad σ (by decide)) rfl 6 (by decide) (K.2.2.2.2.1 _ hl) (fun _ h => h) rfl d (k H locs ls hW hS h)
theorem get_69_7 (K : Ok g x cc own nL fr lo) {index : Nat} (hl : Cond.fieldLink own index "KiteBarges$Planner" "rows" "[J" ∈ gtb) (d : decode cc pc = .ok (.getfield index, 3)) (k : GJ g x nL (pc + 3) lv (.ref (ad 36) :: rest) ad σ) : GJ g x nL pc lv (.ref (ad 69) :: rest) ad σ :=
  fun H locs ls hW hS h => va_get (D := g.D) (ci := 3) (C := RX3) (T := TX3) (N := 10) K.1 K.2.1 K.2.2.2.2.1 inX3 K.2.2.2.1 K.2.2.2.2.2.1.1 hW.1 69 (wl_get g ad σ (by decide)) rfl 7 (by decide) (K.2.2.2.2.1 _ hl) (fun _ h => h) rfl d (k H locs ls hW hS h)
theorem get_69_8 (K : Ok g x cc own nL fr lo) {index : Nat} (hl : Cond.fieldLink own index "KiteBarges$Planner" "nextRuns" "[I" ∈ gtb) (d : decode cc pc = .ok (.getfield index, 3)) (k : GJ g x nL (pc + 3) lv (.ref (ad 37) :: rest) ad σ) : GJ g x nL pc lv (.ref (ad 69) :: rest) ad σ :=
  fun H locs ls hW hS h => va_get (D := g.D) (ci := 3) (C := RX3) (T := TX3) (N := 10) K.1 K.2.1 K.2.2.2.2.1 inX3 K.2.2.2.1 K.2.2.2.2.2.1.1 hW.1 69 (wl_get g ad σ (by decide)) rfl 8 (by decide) (K.2.2.2.2.1 _ hl) (fun _ h => h) rfl d (k H locs ls hW hS h)
theorem get_69_9 (K : Ok g x cc own nL fr lo) {index : Nat} (hl : Cond.fieldLink own index "KiteBarges$Planner" "nextRows" "[J" ∈ gtb) (d : decode cc pc = .ok (.getfield index, 3)) (k : GJ g x nL (pc + 3) lv (.ref (ad 38) :: rest) ad σ) : GJ g x nL pc lv (.ref (ad 69) :: rest) ad σ :=
  fun H locs ls hW hS h => va_get (D := g.D) (ci := 3) (C := RX3) (T := TX3) (N := 10) K.1 K.2.1 K.2.2.2.2.1 inX3 K.2.2.2.1 K.2.2.2.2.2.1.1 hW.1 69 (wl_get g ad σ (by decide)) rfl 9 (by decide) (K.2.2.2.2.1 _ hl) (fun _ h => h) rfl d (k H locs ls hW hS h)
theorem get_70_0 (K : Ok g x cc own nL fr lo) {index : Nat} (hl : Cond.fieldLink own index "KiteBarges$Lulls" "river" "LKiteBarges$River;" ∈ gtb) (d : decode cc pc = .ok (.getfield index, 3)) (k : GJ g x nL (pc + 3) lv (.ref (ad 62) :: rest) ad σ) : GJ g x nL pc lv (.ref (ad 70) :: rest) ad σ :=
  fun H locs ls hW hS h => va_get (D := g.D) (ci := 2) (C := RX2) (T := TX2) (N := 8) K.1 K.2.1 K.2.2.2.2.1 inX2 K.2.2.2.1 K.2.2.2.2.2.1.1 hW.1 70 (wl_get g ad σ (by decide)) rfl 0 (by decide) (K.2.2.2.2.1 _ hl) (fun _ h => h) rfl d (k H locs ls hW hS h)
theorem get_70_1 (K : Ok g x cc own nL fr lo) {index : Nat} (hl : Cond.fieldLink own index "KiteBarges$Lulls" "placeAt" "[I" ∈ gtb) (d : decode cc pc = .ok (.getfield index, 3)) (k : GJ g x nL (pc + 3) lv (.ref (ad 39) :: rest) ad σ) : GJ g x nL pc lv (.ref (ad 70) :: rest) ad σ :=
  fun H locs ls hW hS h => va_get (D := g.D) (ci := 2) (C := RX2) (T := TX2) (N := 8) K.1 K.2.1 K.2.2.2.2.1 inX2 K.2.2.2.1 K.2.2.2.2.2.1.1 hW.1 70 (wl_get g ad σ (by decide)) rfl 1 (by decide) (K.2.2.2.2.1 _ hl) (fun _ h => h) rfl d (k H locs ls hW hS h)
theorem get_70_2 (K : Ok g x cc own nL fr lo) {index : Nat} (hl : Cond.fieldLink own index "KiteBarges$Lulls" "chanceOf" "[J" ∈ gtb) (d : decode cc pc = .ok (.getfield index, 3)) (k : GJ g x nL (pc + 3) lv (.ref (ad 40) :: rest) ad σ) : GJ g x nL pc lv (.ref (ad 70) :: rest) ad σ :=
  fun H locs ls hW hS h => va_get (D := g.D) (ci := 2) (C := RX2) (T := TX2) (N := 8) K.1 K.2.1 K.2.2.2.2.1 inX2 K.2.2.2.1 K.2.2.2.2.2.1.1 hW.1 70 (wl_get g ad σ (by decide)) rfl 2 (by decide) (K.2.2.2.2.1 _ hl) (fun _ h => h) rfl d (k H locs ls hW hS h)
theorem get_70_3 (K : Ok g x cc own nL fr lo) {index : Nat} (hl : Cond.fieldLink own index "KiteBarges$Lulls" "values" "[J" ∈ gtb) (d : decode cc pc = .ok (.getfield index, 3)) (k : GJ g x nL (pc + 3) lv (.ref (ad 41) :: rest) ad σ) : GJ g x nL pc lv (.ref (ad 70) :: rest) ad σ :=
  fun H locs ls hW hS h => va_get (D := g.D) (ci := 2) (C := RX2) (T := TX2) (N := 8) K.1 K.2.1 K.2.2.2.2.1 inX2 K.2.2.2.1 K.2.2.2.2.2.1.1 hW.1 70 (wl_get g ad σ (by decide)) rfl 3 (by decide) (K.2.2.2.2.1 _ hl) (fun _ h => h) rfl d (k H locs ls hW hS h)
theorem get_70_4 (K : Ok g x cc own nL fr lo) {index : Nat} (hl : Cond.fieldLink own index "KiteBarges$Lulls" "laterValues" "[J" ∈ gtb) (d : decode cc pc = .ok (.getfield index, 3)) (k : GJ g x nL (pc + 3) lv (.ref (ad 42) :: rest) ad σ) : GJ g x nL pc lv (.ref (ad 70) :: rest) ad σ :=
  fun H locs ls hW hS h => va_get (D := g.D) (ci := 2) (C := RX2) (T := TX2) (N := 8) K.1 K.2.1 K.2.2.2.2.1 inX2 K.2.2.2.1 K.2.2.2.2.2.1.1 hW.1 70 (wl_get g ad σ (by decide)) rfl 4 (by decide) (K.2.2.2.2.1 _ hl) (fun _ h => h) rfl d (k H locs ls hW hS h)
theorem get_70_5 (K : Ok g x cc own nL fr lo) {index : Nat} (hl : Cond.fieldLink own index "KiteBarges$Lulls" "hoursTo" "[I" ∈ gtb) (d : decode cc pc = .ok (.getfield index, 3)) (k : GJ g x nL (pc + 3) lv (.ref (ad 43) :: rest) ad σ) : GJ g x nL pc lv (.ref (ad 70) :: rest) ad σ :=
  fun H locs ls hW hS h => va_get (D := g.D) (ci := 2) (C := RX2) (T := TX2) (N := 8) K.1 K.2.1 K.2.2.2.2.1 inX2 K.2.2.2.1 K.2.2.2.2.2.1.1 hW.1 70 (wl_get g ad σ (by decide)) rfl 5 (by decide) (K.2.2.2.2.1 _ hl) (fun _ h => h) rfl d (k H locs ls hW hS h)
theorem get_70_6 (K : Ok g x cc own nL fr lo) {index : Nat} (hl : Cond.fieldLink own index "KiteBarges$Lulls" "ifLull" "[J" ∈ gtb) (d : decode cc pc = .ok (.getfield index, 3)) (k : GJ g x nL (pc + 3) lv (.ref (ad 44) :: rest) ad σ) : GJ g x nL pc lv (.ref (ad 70) :: rest) ad σ :=
  fun H locs ls hW hS h => va_get (D := g.D) (ci := 2) (C := RX2) (T := TX2) (N := 8) K.1 K.2.1 K.2.2.2.2.1 inX2 K.2.2.2.1 K.2.2.2.2.2.1.1 hW.1 70 (wl_get g ad σ (by decide)) rfl 6 (by decide) (K.2.2.2.2.1 _ hl) (fun _ h => h) rfl d (k H locs ls hW hS h)
theorem get_70_7 (K : Ok g x cc own nL fr lo) {index : Nat} (hl : Cond.fieldLink own index "KiteBarges$Lulls" "ifWind" "[J" ∈ gtb) (d : decode cc pc = .ok (.getfield index, 3)) (k : GJ g x nL (pc + 3) lv (.ref (ad 45) :: rest) ad σ) : GJ g x nL pc lv (.ref (ad 70) :: rest) ad σ :=
  fun H locs ls hW hS h => va_get (D := g.D) (ci := 2) (C := RX2) (T := TX2) (N := 8) K.1 K.2.1 K.2.2.2.2.1 inX2 K.2.2.2.1 K.2.2.2.2.2.1.1 hW.1 70 (wl_get g ad σ (by decide)) rfl 7 (by decide) (K.2.2.2.2.1 _ hl) (fun _ h => h) rfl d (k H locs ls hW hS h)
theorem get_71_0 (K : Ok g x cc own nL fr lo) {index : Nat} (hl : Cond.fieldLink own index "KiteBargesModel" "reaches" "I" ∈ gtb) (d : decode cc pc = .ok (.getfield index, 3)) (k : GJ g x nL (pc + 3) lv (.int (σ.I 13) :: rest) ad σ) : GJ g x nL pc lv (.ref (ad 71) :: rest) ad σ :=
  fun H locs ls hW hS h => va_get (D := g.D) (ci := 7) (C := RX7) (T := TX7) (N := 28) K.1 K.2.1 K.2.2.2.2.1 inX7 K.2.2.2.1 K.2.2.2.2.2.1.1 hW.1 71 (wl_get g ad σ (by decide)) rfl 0 (by decide) (K.2.2.2.2.1 _ hl) (fun _ h => h) rfl d (k H locs ls hW hS h)
theorem put_71_0 (K : Ok g x cc own nL fr lo) {index : Nat} {v : Int32} (hl : Cond.fieldLink own index "KiteBargesModel" "reaches" "I" ∈ gtb) (d : decode cc pc = .ok (.putfield index, 3)) (k : GJ g x nL (pc + 3) lv rest ad (σ.sI 13 v)) : GJ g x nL pc lv (.int v :: .ref (ad 71) :: rest) ad σ :=
  fun H locs ls hW hS h => va_put (D := g.D) (ci := 7) (C := RX7) (T := TX7) (N := 28) (ty := .int) K.1 K.2.1 K.2.2.2.2.1 inX7 tyX7 tyX7_ok nmX7 K.2.2.2.1 K.2.2.2.2.2.1.1 hW.1 hW.2 hS 71 (wl_get g ad σ (by decide)) rfl 0 (by decide) (K.2.2.2.2.1 _ hl) (fun _ h => h) rfl (by decide +kernel) rfl rfl (Nat.le_of_ble_eq_true rfl) d (fun H1 locs1 hP hD hS1 => k H1 locs1 ls ⟨(set_71_0 g ad σ v) ▸ hP, (set_71_0 g ad σ v) ▸ hD⟩ hS1 h)
theorem get_71_1 (K : Ok g x cc own nL fr lo) {index : Nat} (hl : Cond.fieldLink own index "KiteBargesModel" "reach" "[I" ∈ gtb) (d : decode cc pc = .ok (.getfield index, 3)) (k : GJ g x nL (pc + 3) lv (.ref (ad 46) :: rest) ad σ) : GJ g x nL pc lv (.ref (ad 71) :: rest) ad σ :=
  fun H locs ls hW hS h => va_get (D := g.D) (ci := 7) (C := RX7) (T := TX7) (N := 28) K.1 K.2.1 K.2.2.2.2.1 inX7 K.2.2.2.1 K.2.2.2.2.2.1.1 hW.1 71 (wl_get g ad σ (by decide)) rfl 1 (by decide) (K.2.2.2.2.1 _ hl) (fun _ h => h) rfl d (k H locs ls hW hS h)
theorem get_71_2 (K : Ok g x cc own nL fr lo) {index : Nat} (hl : Cond.fieldLink own index "KiteBargesModel" "wind" "[I" ∈ gtb) (d : decode cc pc = .ok (.getfield index, 3)) (k : GJ g x nL (pc + 3) lv (.ref (ad 47) :: rest) ad σ) : GJ g x nL pc lv (.ref (ad 71) :: rest) ad σ :=
  fun H locs ls hW hS h => va_get (D := g.D) (ci := 7) (C := RX7) (T := TX7) (N := 28) K.1 K.2.1 K.2.2.2.2.1 inX7 K.2.2.2.1 K.2.2.2.2.2.1.1 hW.1 71 (wl_get g ad σ (by decide)) rfl 2 (by decide) (K.2.2.2.2.1 _ hl) (fun _ h => h) rfl d (k H locs ls hW hS h)
theorem get_71_3 (K : Ok g x cc own nL fr lo) {index : Nat} (hl : Cond.fieldLink own index "KiteBargesModel" "still" "I" ∈ gtb) (d : decode cc pc = .ok (.getfield index, 3)) (k : GJ g x nL (pc + 3) lv (.int (σ.I 14) :: rest) ad σ) : GJ g x nL pc lv (.ref (ad 71) :: rest) ad σ :=
  fun H locs ls hW hS h => va_get (D := g.D) (ci := 7) (C := RX7) (T := TX7) (N := 28) K.1 K.2.1 K.2.2.2.2.1 inX7 K.2.2.2.1 K.2.2.2.2.2.1.1 hW.1 71 (wl_get g ad σ (by decide)) rfl 3 (by decide) (K.2.2.2.2.1 _ hl) (fun _ h => h) rfl d (k H locs ls hW hS h)
theorem put_71_3 (K : Ok g x cc own nL fr lo) {index : Nat} {v : Int32} (hl : Cond.fieldLink own index "KiteBargesModel" "still" "I" ∈ gtb) (d : decode cc pc = .ok (.putfield index, 3)) (k : GJ g x nL (pc + 3) lv rest ad (σ.sI 14 v)) : GJ g x nL pc lv (.int v :: .ref (ad 71) :: rest) ad σ :=
  fun H locs ls hW hS h => va_put (D := g.D) (ci := 7) (C := RX7) (T := TX7) (N := 28) (ty := .int) K.1 K.2.1 K.2.2.2.2.1 inX7 tyX7 tyX7_ok nmX7 K.2.2.2.1 K.2.2.2.2.2.1.1 hW.1 hW.2 hS 71 (wl_get g ad σ (by decide)) rfl 3 (by decide) (K.2.2.2.2.1 _ hl) (fun _ h => h) rfl (by decide +kernel) rfl rfl (Nat.le_of_ble_eq_true rfl) d (fun H1 locs1 hP hD hS1 => k H1 locs1 ls ⟨(set_71_3 g ad σ v) ▸ hP, (set_71_3 g ad σ v) ▸ hD⟩ hS1 h)
theorem get_71_4 (K : Ok g x cc own nL fr lo) {index : Nat} (hl : Cond.fieldLink own index "KiteBargesModel" "told" "I" ∈ gtb) (d : decode cc pc = .ok (.getfield index, 3)) (k : GJ g x nL (pc + 3) lv (.int (σ.I 15) :: rest) ad σ) : GJ g x nL pc lv (.ref (ad 71) :: rest) ad σ :=
  fun H locs ls hW hS h => va_get (D := g.D) (ci := 7) (C := RX7) (T := TX7) (N := 28) K.1 K.2.1 K.2.2.2.2.1 inX7 K.2.2.2.1 K.2.2.2.2.2.1.1 hW.1 71 (wl_get g ad σ (by decide)) rfl 4 (by decide) (K.2.2.2.2.1 _ hl) (fun _ h => h) rfl d (k H locs ls hW hS h)
theorem put_71_4 (K : Ok g x cc own nL fr lo) {index : Nat} {v : Int32} (hl : Cond.fieldLink own index "KiteBargesModel" "told" "I" ∈ gtb) (d : decode cc pc = .ok (.putfield index, 3)) (k : GJ g x nL (pc + 3) lv rest ad (σ.sI 15 v)) : GJ g x nL pc lv (.int v :: .ref (ad 71) :: rest) ad σ :=
  fun H locs ls hW hS h => va_put (D := g.D) (ci := 7) (C := RX7) (T := TX7) (N := 28) (ty := .int) K.1 K.2.1 K.2.2.2.2.1 inX7 tyX7 tyX7_ok nmX7 K.2.2.2.1 K.2.2.2.2.2.1.1 hW.1 hW.2 hS 71 (wl_get g ad σ (by decide)) rfl 4 (by decide) (K.2.2.2.2.1 _ hl) (fun _ h => h) rfl (by decide +kernel) rfl rfl (Nat.le_of_ble_eq_true rfl) d (fun H1 locs1 hP hD hS1 => k H1 locs1 ls ⟨(set_71_4 g ad σ v) ▸ hP, (set_71_4 g ad σ v) ▸ hD⟩ hS1 h)
theorem get_71_5 (K : Ok g x cc own nL fr lo) {index : Nat} (hl : Cond.fieldLink own index "KiteBargesModel" "barge" "[I" ∈ gtb) (d : decode cc pc = .ok (.getfield index, 3)) (k : GJ g x nL (pc + 3) lv (.ref (ad 48) :: rest) ad σ) : GJ g x nL pc lv (.ref (ad 71) :: rest) ad σ :=
  fun H locs ls hW hS h => va_get (D := g.D) (ci := 7) (C := RX7) (T := TX7) (N := 28) K.1 K.2.1 K.2.2.2.2.1 inX7 K.2.2.2.1 K.2.2.2.2.2.1.1 hW.1 71 (wl_get g ad σ (by decide)) rfl 5 (by decide) (K.2.2.2.2.1 _ hl) (fun _ h => h) rfl d (k H locs ls hW hS h)
theorem get_71_6 (K : Ok g x cc own nL fr lo) {index : Nat} (hl : Cond.fieldLink own index "KiteBargesModel" "bytes" "I" ∈ gtb) (d : decode cc pc = .ok (.getfield index, 3)) (k : GJ g x nL (pc + 3) lv (.int (σ.I 16) :: rest) ad σ) : GJ g x nL pc lv (.ref (ad 71) :: rest) ad σ :=
  fun H locs ls hW hS h => va_get (D := g.D) (ci := 7) (C := RX7) (T := TX7) (N := 28) K.1 K.2.1 K.2.2.2.2.1 inX7 K.2.2.2.1 K.2.2.2.2.2.1.1 hW.1 71 (wl_get g ad σ (by decide)) rfl 6 (by decide) (K.2.2.2.2.1 _ hl) (fun _ h => h) rfl d (k H locs ls hW hS h)
theorem put_71_6 (K : Ok g x cc own nL fr lo) {index : Nat} {v : Int32} (hl : Cond.fieldLink own index "KiteBargesModel" "bytes" "I" ∈ gtb) (d : decode cc pc = .ok (.putfield index, 3)) (k : GJ g x nL (pc + 3) lv rest ad (σ.sI 16 v)) : GJ g x nL pc lv (.int v :: .ref (ad 71) :: rest) ad σ :=
  fun H locs ls hW hS h => va_put (D := g.D) (ci := 7) (C := RX7) (T := TX7) (N := 28) (ty := .int) K.1 K.2.1 K.2.2.2.2.1 inX7 tyX7 tyX7_ok nmX7 K.2.2.2.1 K.2.2.2.2.2.1.1 hW.1 hW.2 hS 71 (wl_get g ad σ (by decide)) rfl 6 (by decide) (K.2.2.2.2.1 _ hl) (fun _ h => h) rfl (by decide +kernel) rfl rfl (Nat.le_of_ble_eq_true rfl) d (fun H1 locs1 hP hD hS1 => k H1 locs1 ls ⟨(set_71_6 g ad σ v) ▸ hP, (set_71_6 g ad σ v) ▸ hD⟩ hS1 h)
theorem get_71_7 (K : Ok g x cc own nL fr lo) {index : Nat} (hl : Cond.fieldLink own index "KiteBargesModel" "text" "[I" ∈ gtb) (d : decode cc pc = .ok (.getfield index, 3)) (k : GJ g x nL (pc + 3) lv (.ref (ad 49) :: rest) ad σ) : GJ g x nL pc lv (.ref (ad 71) :: rest) ad σ :=
  fun H locs ls hW hS h => va_get (D := g.D) (ci := 7) (C := RX7) (T := TX7) (N := 28) K.1 K.2.1 K.2.2.2.2.1 inX7 K.2.2.2.1 K.2.2.2.2.2.1.1 hW.1 71 (wl_get g ad σ (by decide)) rfl 7 (by decide) (K.2.2.2.2.1 _ hl) (fun _ h => h) rfl d (k H locs ls hW hS h)
theorem get_71_8 (K : Ok g x cc own nL fr lo) {index : Nat} (hl : Cond.fieldLink own index "KiteBargesModel" "position" "I" ∈ gtb) (d : decode cc pc = .ok (.getfield index, 3)) (k : GJ g x nL (pc + 3) lv (.int (σ.I 17) :: rest) ad σ) : GJ g x nL pc lv (.ref (ad 71) :: rest) ad σ :=
  fun H locs ls hW hS h => va_get (D := g.D) (ci := 7) (C := RX7) (T := TX7) (N := 28) K.1 K.2.1 K.2.2.2.2.1 inX7 K.2.2.2.1 K.2.2.2.2.2.1.1 hW.1 71 (wl_get g ad σ (by decide)) rfl 8 (by decide) (K.2.2.2.2.1 _ hl) (fun _ h => h) rfl d (k H locs ls hW hS h)
theorem put_71_8 (K : Ok g x cc own nL fr lo) {index : Nat} {v : Int32} (hl : Cond.fieldLink own index "KiteBargesModel" "position" "I" ∈ gtb) (d : decode cc pc = .ok (.putfield index, 3)) (k : GJ g x nL (pc + 3) lv rest ad (σ.sI 17 v)) : GJ g x nL pc lv (.int v :: .ref (ad 71) :: rest) ad σ :=
  fun H locs ls hW hS h => va_put (D := g.D) (ci := 7) (C := RX7) (T := TX7) (N := 28) (ty := .int) K.1 K.2.1 K.2.2.2.2.1 inX7 tyX7 tyX7_ok nmX7 K.2.2.2.1 K.2.2.2.2.2.1.1 hW.1 hW.2 hS 71 (wl_get g ad σ (by decide)) rfl 8 (by decide) (K.2.2.2.2.1 _ hl) (fun _ h => h) rfl (by decide +kernel) rfl rfl (Nat.le_of_ble_eq_true rfl) d (fun H1 locs1 hP hD hS1 => k H1 locs1 ls ⟨(set_71_8 g ad σ v) ▸ hP, (set_71_8 g ad σ v) ▸ hD⟩ hS1 h)
theorem get_71_9 (K : Ok g x cc own nL fr lo) {index : Nat} (hl : Cond.fieldLink own index "KiteBargesModel" "tokenAt" "I" ∈ gtb) (d : decode cc pc = .ok (.getfield index, 3)) (k : GJ g x nL (pc + 3) lv (.int (σ.I 18) :: rest) ad σ) : GJ g x nL pc lv (.ref (ad 71) :: rest) ad σ :=
  fun H locs ls hW hS h => va_get (D := g.D) (ci := 7) (C := RX7) (T := TX7) (N := 28) K.1 K.2.1 K.2.2.2.2.1 inX7 K.2.2.2.1 K.2.2.2.2.2.1.1 hW.1 71 (wl_get g ad σ (by decide)) rfl 9 (by decide) (K.2.2.2.2.1 _ hl) (fun _ h => h) rfl d (k H locs ls hW hS h)
theorem put_71_9 (K : Ok g x cc own nL fr lo) {index : Nat} {v : Int32} (hl : Cond.fieldLink own index "KiteBargesModel" "tokenAt" "I" ∈ gtb) (d : decode cc pc = .ok (.putfield index, 3)) (k : GJ g x nL (pc + 3) lv rest ad (σ.sI 18 v)) : GJ g x nL pc lv (.int v :: .ref (ad 71) :: rest) ad σ :=
  fun H locs ls hW hS h => va_put (D := g.D) (ci := 7) (C := RX7) (T := TX7) (N := 28) (ty := .int) K.1 K.2.1 K.2.2.2.2.1 inX7 tyX7 tyX7_ok nmX7 K.2.2.2.1 K.2.2.2.2.2.1.1 hW.1 hW.2 hS 71 (wl_get g ad σ (by decide)) rfl 9 (by decide) (K.2.2.2.2.1 _ hl) (fun _ h => h) rfl (by decide +kernel) rfl rfl (Nat.le_of_ble_eq_true rfl) d (fun H1 locs1 hP hD hS1 => k H1 locs1 ls ⟨(set_71_9 g ad σ v) ▸ hP, (set_71_9 g ad σ v) ▸ hD⟩ hS1 h)
theorem get_71_10 (K : Ok g x cc own nL fr lo) {index : Nat} (hl : Cond.fieldLink own index "KiteBargesModel" "token" "J" ∈ gtb) (d : decode cc pc = .ok (.getfield index, 3)) (k : GJ g x nL (pc + 3) lv (.long σ.L :: rest) ad σ) : GJ g x nL pc lv (.ref (ad 71) :: rest) ad σ :=
  fun H locs ls hW hS h => va_get (D := g.D) (ci := 7) (C := RX7) (T := TX7) (N := 28) K.1 K.2.1 K.2.2.2.2.1 inX7 K.2.2.2.1 K.2.2.2.2.2.1.1 hW.1 71 (wl_get g ad σ (by decide)) rfl 10 (by decide) (K.2.2.2.2.1 _ hl) (fun _ h => h) rfl d (k H locs ls hW hS h)
theorem put_71_10 (K : Ok g x cc own nL fr lo) {index : Nat} {v : Int64} (hl : Cond.fieldLink own index "KiteBargesModel" "token" "J" ∈ gtb) (d : decode cc pc = .ok (.putfield index, 3)) (k : GJ g x nL (pc + 3) lv rest ad (σ.sL v)) : GJ g x nL pc lv (.long v :: .ref (ad 71) :: rest) ad σ :=
  fun H locs ls hW hS h => va_put (D := g.D) (ci := 7) (C := RX7) (T := TX7) (N := 28) (ty := .long) K.1 K.2.1 K.2.2.2.2.1 inX7 tyX7 tyX7_ok nmX7 K.2.2.2.1 K.2.2.2.2.2.1.1 hW.1 hW.2 hS 71 (wl_get g ad σ (by decide)) rfl 10 (by decide) (K.2.2.2.2.1 _ hl) (fun _ h => h) rfl (by decide +kernel) rfl rfl (Nat.le_of_ble_eq_true rfl) d (fun H1 locs1 hP hD hS1 => k H1 locs1 ls ⟨(set_71_10 g ad σ v) ▸ hP, (set_71_10 g ad σ v) ▸ hD⟩ hS1 h)
theorem get_71_11 (K : Ok g x cc own nL fr lo) {index : Nat} (hl : Cond.fieldLink own index "KiteBargesModel" "digits" "I" ∈ gtb) (d : decode cc pc = .ok (.getfield index, 3)) (k : GJ g x nL (pc + 3) lv (.int (σ.I 19) :: rest) ad σ) : GJ g x nL pc lv (.ref (ad 71) :: rest) ad σ :=
  fun H locs ls hW hS h => va_get (D := g.D) (ci := 7) (C := RX7) (T := TX7) (N := 28) K.1 K.2.1 K.2.2.2.2.1 inX7 K.2.2.2.1 K.2.2.2.2.2.1.1 hW.1 71 (wl_get g ad σ (by decide)) rfl 11 (by decide) (K.2.2.2.2.1 _ hl) (fun _ h => h) rfl d (k H locs ls hW hS h)
theorem put_71_11 (K : Ok g x cc own nL fr lo) {index : Nat} {v : Int32} (hl : Cond.fieldLink own index "KiteBargesModel" "digits" "I" ∈ gtb) (d : decode cc pc = .ok (.putfield index, 3)) (k : GJ g x nL (pc + 3) lv rest ad (σ.sI 19 v)) : GJ g x nL pc lv (.int v :: .ref (ad 71) :: rest) ad σ :=
  fun H locs ls hW hS h => va_put (D := g.D) (ci := 7) (C := RX7) (T := TX7) (N := 28) (ty := .int) K.1 K.2.1 K.2.2.2.2.1 inX7 tyX7 tyX7_ok nmX7 K.2.2.2.1 K.2.2.2.2.2.1.1 hW.1 hW.2 hS 71 (wl_get g ad σ (by decide)) rfl 11 (by decide) (K.2.2.2.2.1 _ hl) (fun _ h => h) rfl (by decide +kernel) rfl rfl (Nat.le_of_ble_eq_true rfl) d (fun H1 locs1 hP hD hS1 => k H1 locs1 ls ⟨(set_71_11 g ad σ v) ▸ hP, (set_71_11 g ad σ v) ▸ hD⟩ hS1 h)
theorem get_71_12 (K : Ok g x cc own nL fr lo) {index : Nat} (hl : Cond.fieldLink own index "KiteBargesModel" "number" "I" ∈ gtb) (d : decode cc pc = .ok (.getfield index, 3)) (k : GJ g x nL (pc + 3) lv (.int (σ.I 20) :: rest) ad σ) : GJ g x nL pc lv (.ref (ad 71) :: rest) ad σ :=
  fun H locs ls hW hS h => va_get (D := g.D) (ci := 7) (C := RX7) (T := TX7) (N := 28) K.1 K.2.1 K.2.2.2.2.1 inX7 K.2.2.2.1 K.2.2.2.2.2.1.1 hW.1 71 (wl_get g ad σ (by decide)) rfl 12 (by decide) (K.2.2.2.2.1 _ hl) (fun _ h => h) rfl d (k H locs ls hW hS h)
theorem put_71_12 (K : Ok g x cc own nL fr lo) {index : Nat} {v : Int32} (hl : Cond.fieldLink own index "KiteBargesModel" "number" "I" ∈ gtb) (d : decode cc pc = .ok (.putfield index, 3)) (k : GJ g x nL (pc + 3) lv rest ad (σ.sI 20 v)) : GJ g x nL pc lv (.int v :: .ref (ad 71) :: rest) ad σ :=
  fun H locs ls hW hS h => va_put (D := g.D) (ci := 7) (C := RX7) (T := TX7) (N := 28) (ty := .int) K.1 K.2.1 K.2.2.2.2.1 inX7 tyX7 tyX7_ok nmX7 K.2.2.2.1 K.2.2.2.2.2.1.1 hW.1 hW.2 hS 71 (wl_get g ad σ (by decide)) rfl 12 (by decide) (K.2.2.2.2.1 _ hl) (fun _ h => h) rfl (by decide +kernel) rfl rfl (Nat.le_of_ble_eq_true rfl) d (fun H1 locs1 hP hD hS1 => k H1 locs1 ls ⟨(set_71_12 g ad σ v) ▸ hP, (set_71_12 g ad σ v) ▸ hD⟩ hS1 h)
theorem get_71_13 (K : Ok g x cc own nL fr lo) {index : Nat} (hl : Cond.fieldLink own index "KiteBargesModel" "faultAt" "I" ∈ gtb) (d : decode cc pc = .ok (.getfield index, 3)) (k : GJ g x nL (pc + 3) lv (.int (σ.I 21) :: rest) ad σ) : GJ g x nL pc lv (.ref (ad 71) :: rest) ad σ :=
  fun H locs ls hW hS h => va_get (D := g.D) (ci := 7) (C := RX7) (T := TX7) (N := 28) K.1 K.2.1 K.2.2.2.2.1 inX7 K.2.2.2.1 K.2.2.2.2.2.1.1 hW.1 71 (wl_get g ad σ (by decide)) rfl 13 (by decide) (K.2.2.2.2.1 _ hl) (fun _ h => h) rfl d (k H locs ls hW hS h)
theorem put_71_13 (K : Ok g x cc own nL fr lo) {index : Nat} {v : Int32} (hl : Cond.fieldLink own index "KiteBargesModel" "faultAt" "I" ∈ gtb) (d : decode cc pc = .ok (.putfield index, 3)) (k : GJ g x nL (pc + 3) lv rest ad (σ.sI 21 v)) : GJ g x nL pc lv (.int v :: .ref (ad 71) :: rest) ad σ :=
  fun H locs ls hW hS h => va_put (D := g.D) (ci := 7) (C := RX7) (T := TX7) (N := 28) (ty := .int) K.1 K.2.1 K.2.2.2.2.1 inX7 tyX7 tyX7_ok nmX7 K.2.2.2.1 K.2.2.2.2.2.1.1 hW.1 hW.2 hS 71 (wl_get g ad σ (by decide)) rfl 13 (by decide) (K.2.2.2.2.1 _ hl) (fun _ h => h) rfl (by decide +kernel) rfl rfl (Nat.le_of_ble_eq_true rfl) d (fun H1 locs1 hP hD hS1 => k H1 locs1 ls ⟨(set_71_13 g ad σ v) ▸ hP, (set_71_13 g ad σ v) ▸ hD⟩ hS1 h)
theorem get_71_14 (K : Ok g x cc own nL fr lo) {index : Nat} (hl : Cond.fieldLink own index "KiteBargesModel" "readMany" "I" ∈ gtb) (d : decode cc pc = .ok (.getfield index, 3)) (k : GJ g x nL (pc + 3) lv (.int (σ.I 22) :: rest) ad σ) : GJ g x nL pc lv (.ref (ad 71) :: rest) ad σ :=
  fun H locs ls hW hS h => va_get (D := g.D) (ci := 7) (C := RX7) (T := TX7) (N := 28) K.1 K.2.1 K.2.2.2.2.1 inX7 K.2.2.2.1 K.2.2.2.2.2.1.1 hW.1 71 (wl_get g ad σ (by decide)) rfl 14 (by decide) (K.2.2.2.2.1 _ hl) (fun _ h => h) rfl d (k H locs ls hW hS h)
theorem put_71_14 (K : Ok g x cc own nL fr lo) {index : Nat} {v : Int32} (hl : Cond.fieldLink own index "KiteBargesModel" "readMany" "I" ∈ gtb) (d : decode cc pc = .ok (.putfield index, 3)) (k : GJ g x nL (pc + 3) lv rest ad (σ.sI 22 v)) : GJ g x nL pc lv (.int v :: .ref (ad 71) :: rest) ad σ :=
  fun H locs ls hW hS h => va_put (D := g.D) (ci := 7) (C := RX7) (T := TX7) (N := 28) (ty := .int) K.1 K.2.1 K.2.2.2.2.1 inX7 tyX7 tyX7_ok nmX7 K.2.2.2.1 K.2.2.2.2.2.1.1 hW.1 hW.2 hS 71 (wl_get g ad σ (by decide)) rfl 14 (by decide) (K.2.2.2.2.1 _ hl) (fun _ h => h) rfl (by decide +kernel) rfl rfl (Nat.le_of_ble_eq_true rfl) d (fun H1 locs1 hP hD hS1 => k H1 locs1 ls ⟨(set_71_14 g ad σ v) ▸ hP, (set_71_14 g ad σ v) ▸ hD⟩ hS1 h)
theorem get_71_15 (K : Ok g x cc own nL fr lo) {index : Nat} (hl : Cond.fieldLink own index "KiteBargesModel" "readReaches" "I" ∈ gtb) (d : decode cc pc = .ok (.getfield index, 3)) (k : GJ g x nL (pc + 3) lv (.int (σ.I 23) :: rest) ad σ) : GJ g x nL pc lv (.ref (ad 71) :: rest) ad σ :=
  fun H locs ls hW hS h => va_get (D := g.D) (ci := 7) (C := RX7) (T := TX7) (N := 28) K.1 K.2.1 K.2.2.2.2.1 inX7 K.2.2.2.1 K.2.2.2.2.2.1.1 hW.1 71 (wl_get g ad σ (by decide)) rfl 15 (by decide) (K.2.2.2.2.1 _ hl) (fun _ h => h) rfl d (k H locs ls hW hS h)
theorem put_71_15 (K : Ok g x cc own nL fr lo) {index : Nat} {v : Int32} (hl : Cond.fieldLink own index "KiteBargesModel" "readReaches" "I" ∈ gtb) (d : decode cc pc = .ok (.putfield index, 3)) (k : GJ g x nL (pc + 3) lv rest ad (σ.sI 23 v)) : GJ g x nL pc lv (.int v :: .ref (ad 71) :: rest) ad σ :=
  fun H locs ls hW hS h => va_put (D := g.D) (ci := 7) (C := RX7) (T := TX7) (N := 28) (ty := .int) K.1 K.2.1 K.2.2.2.2.1 inX7 tyX7 tyX7_ok nmX7 K.2.2.2.1 K.2.2.2.2.2.1.1 hW.1 hW.2 hS 71 (wl_get g ad σ (by decide)) rfl 15 (by decide) (K.2.2.2.2.1 _ hl) (fun _ h => h) rfl (by decide +kernel) rfl rfl (Nat.le_of_ble_eq_true rfl) d (fun H1 locs1 hP hD hS1 => k H1 locs1 ls ⟨(set_71_15 g ad σ v) ▸ hP, (set_71_15 g ad σ v) ▸ hD⟩ hS1 h)
theorem get_71_16 (K : Ok g x cc own nL fr lo) {index : Nat} (hl : Cond.fieldLink own index "KiteBargesModel" "read" "[I" ∈ gtb) (d : decode cc pc = .ok (.getfield index, 3)) (k : GJ g x nL (pc + 3) lv (.ref (ad 50) :: rest) ad σ) : GJ g x nL pc lv (.ref (ad 71) :: rest) ad σ :=
  fun H locs ls hW hS h => va_get (D := g.D) (ci := 7) (C := RX7) (T := TX7) (N := 28) K.1 K.2.1 K.2.2.2.2.1 inX7 K.2.2.2.1 K.2.2.2.2.2.1.1 hW.1 71 (wl_get g ad σ (by decide)) rfl 16 (by decide) (K.2.2.2.2.1 _ hl) (fun _ h => h) rfl d (k H locs ls hW hS h)
theorem get_71_17 (K : Ok g x cc own nL fr lo) {index : Nat} (hl : Cond.fieldLink own index "KiteBargesModel" "now" "[I" ∈ gtb) (d : decode cc pc = .ok (.getfield index, 3)) (k : GJ g x nL (pc + 3) lv (.ref (ad 51) :: rest) ad σ) : GJ g x nL pc lv (.ref (ad 71) :: rest) ad σ :=
  fun H locs ls hW hS h => va_get (D := g.D) (ci := 7) (C := RX7) (T := TX7) (N := 28) K.1 K.2.1 K.2.2.2.2.1 inX7 K.2.2.2.1 K.2.2.2.2.2.1.1 hW.1 71 (wl_get g ad σ (by decide)) rfl 17 (by decide) (K.2.2.2.2.1 _ hl) (fun _ h => h) rfl d (k H locs ls hW hS h)
theorem get_71_18 (K : Ok g x cc own nL fr lo) {index : Nat} (hl : Cond.fieldLink own index "KiteBargesModel" "image" "[I" ∈ gtb) (d : decode cc pc = .ok (.getfield index, 3)) (k : GJ g x nL (pc + 3) lv (.ref (ad 52) :: rest) ad σ) : GJ g x nL pc lv (.ref (ad 71) :: rest) ad σ :=
  fun H locs ls hW hS h => va_get (D := g.D) (ci := 7) (C := RX7) (T := TX7) (N := 28) K.1 K.2.1 K.2.2.2.2.1 inX7 K.2.2.2.1 K.2.2.2.2.2.1.1 hW.1 71 (wl_get g ad σ (by decide)) rfl 18 (by decide) (K.2.2.2.2.1 _ hl) (fun _ h => h) rfl d (k H locs ls hW hS h)
theorem get_71_19 (K : Ok g x cc own nL fr lo) {index : Nat} (hl : Cond.fieldLink own index "KiteBargesModel" "isKept" "[Z" ∈ gtb) (d : decode cc pc = .ok (.getfield index, 3)) (k : GJ g x nL (pc + 3) lv (.ref (ad 53) :: rest) ad σ) : GJ g x nL pc lv (.ref (ad 71) :: rest) ad σ :=
  fun H locs ls hW hS h => va_get (D := g.D) (ci := 7) (C := RX7) (T := TX7) (N := 28) K.1 K.2.1 K.2.2.2.2.1 inX7 K.2.2.2.1 K.2.2.2.2.2.1.1 hW.1 71 (wl_get g ad σ (by decide)) rfl 19 (by decide) (K.2.2.2.2.1 _ hl) (fun _ h => h) rfl d (k H locs ls hW hS h)
theorem get_71_20 (K : Ok g x cc own nL fr lo) {index : Nat} (hl : Cond.fieldLink own index "KiteBargesModel" "left" "[I" ∈ gtb) (d : decode cc pc = .ok (.getfield index, 3)) (k : GJ g x nL (pc + 3) lv (.ref (ad 54) :: rest) ad σ) : GJ g x nL pc lv (.ref (ad 71) :: rest) ad σ :=
  fun H locs ls hW hS h => va_get (D := g.D) (ci := 7) (C := RX7) (T := TX7) (N := 28) K.1 K.2.1 K.2.2.2.2.1 inX7 K.2.2.2.1 K.2.2.2.2.2.1.1 hW.1 71 (wl_get g ad σ (by decide)) rfl 20 (by decide) (K.2.2.2.2.1 _ hl) (fun _ h => h) rfl d (k H locs ls hW hS h)
theorem get_71_21 (K : Ok g x cc own nL fr lo) {index : Nat} (hl : Cond.fieldLink own index "KiteBargesModel" "planHours" "I" ∈ gtb) (d : decode cc pc = .ok (.getfield index, 3)) (k : GJ g x nL (pc + 3) lv (.int (σ.I 24) :: rest) ad σ) : GJ g x nL pc lv (.ref (ad 71) :: rest) ad σ :=
  fun H locs ls hW hS h => va_get (D := g.D) (ci := 7) (C := RX7) (T := TX7) (N := 28) K.1 K.2.1 K.2.2.2.2.1 inX7 K.2.2.2.1 K.2.2.2.2.2.1.1 hW.1 71 (wl_get g ad σ (by decide)) rfl 21 (by decide) (K.2.2.2.2.1 _ hl) (fun _ h => h) rfl d (k H locs ls hW hS h)
theorem put_71_21 (K : Ok g x cc own nL fr lo) {index : Nat} {v : Int32} (hl : Cond.fieldLink own index "KiteBargesModel" "planHours" "I" ∈ gtb) (d : decode cc pc = .ok (.putfield index, 3)) (k : GJ g x nL (pc + 3) lv rest ad (σ.sI 24 v)) : GJ g x nL pc lv (.int v :: .ref (ad 71) :: rest) ad σ :=
  fun H locs ls hW hS h => va_put (D := g.D) (ci := 7) (C := RX7) (T := TX7) (N := 28) (ty := .int) K.1 K.2.1 K.2.2.2.2.1 inX7 tyX7 tyX7_ok nmX7 K.2.2.2.1 K.2.2.2.2.2.1.1 hW.1 hW.2 hS 71 (wl_get g ad σ (by decide)) rfl 21 (by decide) (K.2.2.2.2.1 _ hl) (fun _ h => h) rfl (by decide +kernel) rfl rfl (Nat.le_of_ble_eq_true rfl) d (fun H1 locs1 hP hD hS1 => k H1 locs1 ls ⟨(set_71_21 g ad σ v) ▸ hP, (set_71_21 g ad σ v) ▸ hD⟩ hS1 h)
theorem get_71_22 (K : Ok g x cc own nL fr lo) {index : Nat} (hl : Cond.fieldLink own index "KiteBargesModel" "planRun" "I" ∈ gtb) (d : decode cc pc = .ok (.getfield index, 3)) (k : GJ g x nL (pc + 3) lv (.int (σ.I 25) :: rest) ad σ) : GJ g x nL pc lv (.ref (ad 71) :: rest) ad σ :=
  fun H locs ls hW hS h => va_get (D := g.D) (ci := 7) (C := RX7) (T := TX7) (N := 28) K.1 K.2.1 K.2.2.2.2.1 inX7 K.2.2.2.1 K.2.2.2.2.2.1.1 hW.1 71 (wl_get g ad σ (by decide)) rfl 22 (by decide) (K.2.2.2.2.1 _ hl) (fun _ h => h) rfl d (k H locs ls hW hS h)
theorem put_71_22 (K : Ok g x cc own nL fr lo) {index : Nat} {v : Int32} (hl : Cond.fieldLink own index "KiteBargesModel" "planRun" "I" ∈ gtb) (d : decode cc pc = .ok (.putfield index, 3)) (k : GJ g x nL (pc + 3) lv rest ad (σ.sI 25 v)) : GJ g x nL pc lv (.int v :: .ref (ad 71) :: rest) ad σ :=
  fun H locs ls hW hS h => va_put (D := g.D) (ci := 7) (C := RX7) (T := TX7) (N := 28) (ty := .int) K.1 K.2.1 K.2.2.2.2.1 inX7 tyX7 tyX7_ok nmX7 K.2.2.2.1 K.2.2.2.2.2.1.1 hW.1 hW.2 hS 71 (wl_get g ad σ (by decide)) rfl 22 (by decide) (K.2.2.2.2.1 _ hl) (fun _ h => h) rfl (by decide +kernel) rfl rfl (Nat.le_of_ble_eq_true rfl) d (fun H1 locs1 hP hD hS1 => k H1 locs1 ls ⟨(set_71_22 g ad σ v) ▸ hP, (set_71_22 g ad σ v) ▸ hD⟩ hS1 h)
theorem get_71_23 (K : Ok g x cc own nL fr lo) {index : Nat} (hl : Cond.fieldLink own index "KiteBargesModel" "planLayer" "[I" ∈ gtb) (d : decode cc pc = .ok (.getfield index, 3)) (k : GJ g x nL (pc + 3) lv (.ref (ad 55) :: rest) ad σ) : GJ g x nL pc lv (.ref (ad 71) :: rest) ad σ :=
  fun H locs ls hW hS h => va_get (D := g.D) (ci := 7) (C := RX7) (T := TX7) (N := 28) K.1 K.2.1 K.2.2.2.2.1 inX7 K.2.2.2.1 K.2.2.2.2.2.1.1 hW.1 71 (wl_get g ad σ (by decide)) rfl 23 (by decide) (K.2.2.2.2.1 _ hl) (fun _ h => h) rfl d (k H locs ls hW hS h)
theorem get_71_24 (K : Ok g x cc own nL fr lo) {index : Nat} (hl : Cond.fieldLink own index "KiteBargesModel" "planPlace" "[I" ∈ gtb) (d : decode cc pc = .ok (.getfield index, 3)) (k : GJ g x nL (pc + 3) lv (.ref (ad 56) :: rest) ad σ) : GJ g x nL pc lv (.ref (ad 71) :: rest) ad σ :=
  fun H locs ls hW hS h => va_get (D := g.D) (ci := 7) (C := RX7) (T := TX7) (N := 28) K.1 K.2.1 K.2.2.2.2.1 inX7 K.2.2.2.1 K.2.2.2.2.2.1.1 hW.1 71 (wl_get g ad σ (by decide)) rfl 24 (by decide) (K.2.2.2.2.1 _ hl) (fun _ h => h) rfl d (k H locs ls hW hS h)
theorem get_71_25 (K : Ok g x cc own nL fr lo) {index : Nat} (hl : Cond.fieldLink own index "KiteBargesModel" "otherPlace" "[I" ∈ gtb) (d : decode cc pc = .ok (.getfield index, 3)) (k : GJ g x nL (pc + 3) lv (.ref (ad 57) :: rest) ad σ) : GJ g x nL pc lv (.ref (ad 71) :: rest) ad σ :=
  fun H locs ls hW hS h => va_get (D := g.D) (ci := 7) (C := RX7) (T := TX7) (N := 28) K.1 K.2.1 K.2.2.2.2.1 inX7 K.2.2.2.1 K.2.2.2.2.2.1.1 hW.1 71 (wl_get g ad σ (by decide)) rfl 25 (by decide) (K.2.2.2.2.1 _ hl) (fun _ h => h) rfl d (k H locs ls hW hS h)
theorem get_71_26 (K : Ok g x cc own nL fr lo) {index : Nat} (hl : Cond.fieldLink own index "KiteBargesModel" "otherLayer" "[I" ∈ gtb) (d : decode cc pc = .ok (.getfield index, 3)) (k : GJ g x nL (pc + 3) lv (.ref (ad 58) :: rest) ad σ) : GJ g x nL pc lv (.ref (ad 71) :: rest) ad σ :=
  fun H locs ls hW hS h => va_get (D := g.D) (ci := 7) (C := RX7) (T := TX7) (N := 28) K.1 K.2.1 K.2.2.2.2.1 inX7 K.2.2.2.1 K.2.2.2.2.2.1.1 hW.1 71 (wl_get g ad σ (by decide)) rfl 26 (by decide) (K.2.2.2.2.1 _ hl) (fun _ h => h) rfl d (k H locs ls hW hS h)
theorem get_71_27 (K : Ok g x cc own nL fr lo) {index : Nat} (hl : Cond.fieldLink own index "KiteBargesModel" "chance" "[J" ∈ gtb) (d : decode cc pc = .ok (.getfield index, 3)) (k : GJ g x nL (pc + 3) lv (.ref (ad 59) :: rest) ad σ) : GJ g x nL pc lv (.ref (ad 71) :: rest) ad σ :=
  fun H locs ls hW hS h => va_get (D := g.D) (ci := 7) (C := RX7) (T := TX7) (N := 28) K.1 K.2.1 K.2.2.2.2.1 inX7 K.2.2.2.1 K.2.2.2.2.2.1.1 hW.1 71 (wl_get g ad σ (by decide)) rfl 27 (by decide) (K.2.2.2.2.1 _ hl) (fun _ h => h) rfl d (k H locs ls hW hS h)
theorem r_iald (K : Ok g x cc own nL fr lo) (q : Nat) {n i : Nat} (hq : q < 60) (ht : tyA q = 0) (hn : lenA q = n) (hb : n < 2 ^ 31) (hi : i < n) (d : decode cc pc = .ok (.iaload, 1)) (k : GJ g x nL (pc + 1) lv (.int (σ.A q i) :: rest) ad σ) : GJ g x nL pc lv (.int (nI i) :: .ref (ad q) :: rest) ad σ := by
  intro H locs ls hW hS h
  refine va_iald K.1 K.2.1 K.2.2.2.2.2.1.1 hW.1 q 0 ((wl_get g ad σ (by omega)).trans (by rw [ceE_arI ht hn hq])) rfl (vp_in_nI hi hb) d ?_
  rw [nI_clamp (by omega)]
  exact k H locs ls hW hS h
theorem r_zald (K : Ok g x cc own nL fr lo) (q : Nat) {n i : Nat} (hq : q < 60) (ht : tyA q = 1) (hn : lenA q = n) (hb : n < 2 ^ 31) (hi : i < n) (d : decode cc pc = .ok (.baload, 1)) (k : GJ g x nL (pc + 1) lv (.int (σ.A q i) :: rest) ad σ) : GJ g x nL pc lv (.int (nI i) :: .ref (ad q) :: rest) ad σ := by
  intro H locs ls hW hS h
  refine va_zald K.1 K.2.1 K.2.2.2.2.2.1.1 hW.1 q 2 ((wl_get g ad σ (by omega)).trans (by rw [ceE_arZ ht hn hq])) rfl (vp_in_nI hi hb) d ?_
  rw [nI_clamp (by omega)]
  exact k H locs ls hW hS h
theorem r_lald (K : Ok g x cc own nL fr lo) (q : Nat) {n i : Nat} (hq : q < 60) (ht : tyA q = 2) (hn : lenA q = n) (hb : n < 2 ^ 31) (hi : i < n) (d : decode cc pc = .ok (.laload, 1)) (k : GJ g x nL (pc + 1) lv (.long (σ.J q i) :: rest) ad σ) : GJ g x nL pc lv (.int (nI i) :: .ref (ad q) :: rest) ad σ := by
  intro H locs ls hW hS h
  refine va_lald K.1 K.2.1 K.2.2.2.2.2.1.1 hW.1 q 1 ((wl_get g ad σ (by omega)).trans (by rw [ceE_arJ ht hn hq])) rfl (vp_in_nI hi hb) d ?_
  rw [nI_clamp (by omega)]
  exact k H locs ls hW hS h
theorem r_iast (K : Ok g x cc own nL fr lo) (q : Nat) {n i : Nat} {v : Int32} (hq : q < 60) (ht : tyA q = 0) (hn : lenA q = n) (hb : n < 2 ^ 31) (hi : i < n) (d : decode cc pc = .ok (.iastore, 1)) (k : GJ g x nL (pc + 1) lv rest ad (σ.sA q (upd (σ.A q) i v))) : GJ g x nL pc lv (.int v :: .int (nI i) :: .ref (ad q) :: rest) ad σ := by
  intro H locs ls hW hS h
  refine va_iast K.1 K.2.1 K.2.2.2.2.2.1.1 hW.1 hW.2 hS q 0 ((wl_get g ad σ (by omega)).trans (by rw [ceE_arI ht hn hq])) rfl (vp_in_nI hi hb) d (fun H1 locs1 hP hD hS1 => ?_)
  rw [nI_clamp (by omega), set_arI ht hn hq] at hP hD
  exact k H1 locs1 ls ⟨hP, hD⟩ hS1 h
theorem r_zast (K : Ok g x cc own nL fr lo) (q : Nat) {n i : Nat} {v : Int32} (hq : q < 60) (ht : tyA q = 1) (hn : lenA q = n) (hb : n < 2 ^ 31) (hi : i < n) (hv : vp_nar .boolean v = v) (d : decode cc pc = .ok (.bastore, 1)) (k : GJ g x nL (pc + 1) lv rest ad (σ.sA q (upd (σ.A q) i v))) : GJ g x nL pc lv (.int v :: .int (nI i) :: .ref (ad q) :: rest) ad σ := by
  intro H locs ls hW hS h
  refine va_zast K.1 K.2.1 K.2.2.2.2.2.1.1 hW.1 hW.2 hS q 2 ((wl_get g ad σ (by omega)).trans (by rw [ceE_arZ ht hn hq])) rfl (vp_in_nI hi hb) d (fun H1 locs1 hP hD hS1 => ?_)
  rw [nI_clamp (by omega), hv, set_arZ ht hn hq] at hP hD
  exact k H1 locs1 ls ⟨hP, hD⟩ hS1 h
theorem r_last (K : Ok g x cc own nL fr lo) (q : Nat) {n i : Nat} {v : Int64} (hq : q < 60) (ht : tyA q = 2) (hn : lenA q = n) (hb : n < 2 ^ 31) (hi : i < n) (d : decode cc pc = .ok (.lastore, 1)) (k : GJ g x nL (pc + 1) lv rest ad (σ.sJ q (vp_updL (σ.J q) i v))) : GJ g x nL pc lv (.long v :: .int (nI i) :: .ref (ad q) :: rest) ad σ := by
  intro H locs ls hW hS h
  refine va_last K.1 K.2.1 K.2.2.2.2.2.1.1 hW.1 hW.2 hS q 1 ((wl_get g ad σ (by omega)).trans (by rw [ceE_arJ ht hn hq])) rfl (vp_in_nI hi hb) d (fun H1 locs1 hP hD hS1 => ?_)
  rw [nI_clamp (by omega), set_arJ ht hn hq] at hP hD
  exact k H1 locs1 ls ⟨hP, hD⟩ hS1 h
theorem r_alenI (K : Ok g x cc own nL fr lo) (q : Nat) {n : Nat} (hq : q < 60) (ht : tyA q = 0) (hn : lenA q = n) (d : decode cc pc = .ok (.arraylength, 1)) (k : GJ g x nL (pc + 1) lv (.int (nI n) :: rest) ad σ) : GJ g x nL pc lv (.ref (ad q) :: rest) ad σ := by
  intro H locs ls hW hS h
  exact va_alen (cA := g.cI) (x := (n, .inl (σ.A q))) K.1 K.2.1 K.2.2.2.2.2.1.1 hW.1 q 0 ((wl_get g ad σ (by omega)).trans (by rw [ceE_arI ht hn hq])) rfl rfl d (k H locs ls hW hS h)
theorem r_alenJ (K : Ok g x cc own nL fr lo) (q : Nat) {n : Nat} (hq : q < 60) (ht : tyA q = 2) (hn : lenA q = n) (d : decode cc pc = .ok (.arraylength, 1)) (k : GJ g x nL (pc + 1) lv (.int (nI n) :: rest) ad σ) : GJ g x nL pc lv (.ref (ad q) :: rest) ad σ := by
  intro H locs ls hW hS h
  exact va_alen (cA := g.cJ) (x := (n, .inr (.inl (σ.J q)))) K.1 K.2.1 K.2.2.2.2.2.1.1 hW.1 q 1 ((wl_get g ad σ (by omega)).trans (by rw [ceE_arJ ht hn hq])) rfl rfl d (k H locs ls hW hS h)
theorem r_aald0 (K : Ok g x cc own nL fr lo) (d : decode cc pc = .ok (.aaload, 1)) (k : GJ g x nL (pc + 1) lv (.ref (ad 65) :: rest) ad σ) : GJ g x nL pc lv (.int (nI 0) :: .ref (ad 60) :: rest) ad σ := by
  intro H locs ls hW hS h
  exact va_aldq K.1 K.2.1 K.2.2.2.2.2.1.1 hW.1 60 3 (wl_get g ad σ (by decide)) rfl (vp_in_nI (n := 0) (N := 2) (by decide) (by decide)) d (k H locs ls hW hS h)
theorem r_aald1 (K : Ok g x cc own nL fr lo) (d : decode cc pc = .ok (.aaload, 1)) (k : GJ g x nL (pc + 1) lv (.ref (ad 66) :: rest) ad σ) : GJ g x nL pc lv (.int (nI 1) :: .ref (ad 60) :: rest) ad σ := by
  intro H locs ls hW hS h
  exact va_aldq K.1 K.2.1 K.2.2.2.2.2.1.1 hW.1 60 3 (wl_get g ad σ (by decide)) rfl (vp_in_nI (n := 1) (N := 2) (by decide) (by decide)) d (k H locs ls hW hS h)
theorem r_getsT (K : Ok g x cc own nL fr lo) {index : Nat} (hl : Cond.fieldLink own index "KiteBarges$River" "TIMES" "[I" ∈ gtb) (d : decode cc pc = .ok (.getstatic index, 3)) (k : GJ g x nL (pc + 3) lv (.ref g.t1 :: rest) ad σ) : GJ g x nL pc lv rest ad σ :=
  fun H locs ls hW hS h => va_gets K.1 K.2.1 K.2.2.2.2.2.1.2.1.1 hS K.2.2.2.1 (K.2.2.2.2.1 _ hl) (fun _ h => h) d (k H locs ls hW hS h)
theorem r_getsS (K : Ok g x cc own nL fr lo) {index : Nat} (hl : Cond.fieldLink own index "KiteBarges$River" "SAIL_TIMES" "[I" ∈ gtb) (d : decode cc pc = .ok (.getstatic index, 3)) (k : GJ g x nL (pc + 3) lv (.ref g.t2 :: rest) ad σ) : GJ g x nL pc lv rest ad σ :=
  fun H locs ls hW hS h => va_gets K.1 K.2.1 K.2.2.2.2.2.1.2.1.2.1 hS K.2.2.2.1 (K.2.2.2.2.1 _ hl) (fun _ h => h) d (k H locs ls hW hS h)
theorem r_getsC (K : Ok g x cc own nL fr lo) {index : Nat} (hl : Cond.fieldLink own index "java/lang/String" "COMPACT_STRINGS" "Z" ∈ gtb) (d : decode cc pc = .ok (.getstatic index, 3)) (k : GJ g x nL (pc + 3) lv (.int 1 :: rest) ad σ) : GJ g x nL pc lv rest ad σ :=
  fun H locs ls hW hS h => va_gets K.1 K.2.1 K.2.2.2.2.2.1.2.2.1.2.2 hS K.2.2.2.1 (K.2.2.2.2.1 _ hl) (fun _ h => h) d (k H locs ls hW hS h)
theorem r_tald1 (K : Ok g x cc own nL fr lo) {i : Nat} (hi : i < 8) (d : decode cc pc = .ok (.iaload, 1)) (k : GJ g x nL (pc + 1) lv (.int (tmsL.getD i 0) :: rest) ad σ) : GJ g x nL pc lv (.int (nI i) :: .ref g.t1 :: rest) ad σ :=
  fun H locs ls hW hS h => va_ti K.1 K.2.1 K.2.2.2.2.2.1.2.1.2.2.1 hS (vp_in_nI hi (by decide)) (by rw [nI_clamp (by omega)]) d (k H locs ls hW hS h)
theorem r_tald2 (K : Ok g x cc own nL fr lo) {i : Nat} (hi : i < 8) (d : decode cc pc = .ok (.iaload, 1)) (k : GJ g x nL (pc + 1) lv (.int (sailL.getD i 0) :: rest) ad σ) : GJ g x nL pc lv (.int (nI i) :: .ref g.t2 :: rest) ad σ :=
  fun H locs ls hW hS h => va_ti K.1 K.2.1 K.2.2.2.2.2.1.2.1.2.2.2 hS (vp_in_nI hi (by decide)) (by rw [nI_clamp (by omega)]) d (k H locs ls hW hS h)
/-- ends -/
theorem r_iret (K : Ok g x cc own nL fr lo) {post : Option Value → (Nat → Nat) → Sg → Prop} {v : Int32} (hr : Rt g x (some .int) post) (hp : post (some (.int v)) ad σ) (d : decode cc pc = .ok (.ireturn, 1)) : GJ g x nL pc lv [.int v] ad σ := by
  intro H locs ls hW hS h
  rw [hr.1]
  exact W.iret K.1 K.2.1 hr.2.1 (fun t ht hw => ⟨_, ad, σ, rfl, hp, by rw [ht]; exact hW, hS.F ht⟩) hS.2.2 d hr.2.2
theorem r_zret (K : Ok g x cc own nL fr lo) {post : Option Value → (Nat → Nat) → Sg → Prop} {b : Bool} (hr : Rt g x (some .boolean) post) (hp : post (some (.int (bI b))) ad σ) (d : decode cc pc = .ok (.ireturn, 1)) : GJ g x nL pc lv [.int (bI b)] ad σ := by
  intro H locs ls hW hS h
  rw [hr.1]
  exact W.zret K.1 K.2.1 hr.2.1 (by cases b <;> rfl) (fun t ht hw => ⟨_, ad, σ, rfl, hp, by rw [ht]; exact hW, hS.F ht⟩) hS.2.2 d hr.2.2
theorem r_nret (K : Ok g x cc own nL fr lo) {post : Option Value → (Nat → Nat) → Sg → Prop} {v : Int32} {ty : FieldType} (hr : Rt g x (some ty) post) (hn : narrow ty (.int v) = .int v) (hp : post (some (.int v)) ad σ) (d : decode cc pc = .ok (.ireturn, 1)) : GJ g x nL pc lv [.int v] ad σ := by
  intro H locs ls hW hS h
  rw [hr.1]
  exact W.zret K.1 K.2.1 hr.2.1 hn (fun t ht hw => ⟨_, ad, σ, rfl, hp, by rw [ht]; exact hW, hS.F ht⟩) hS.2.2 d hr.2.2
theorem r_lret (K : Ok g x cc own nL fr lo) {post : Option Value → (Nat → Nat) → Sg → Prop} {v : Int64} (hr : Rt g x (some .long) post) (hp : post (some (.long v)) ad σ) (d : decode cc pc = .ok (.lreturn, 1)) : GJ g x nL pc lv [.long v] ad σ := by
  intro H locs ls hW hS h
  rw [hr.1]
  exact W.lret K.1 K.2.1 hr.2.1 (fun t ht hw => ⟨_, ad, σ, rfl, hp, by rw [ht]; exact hW, hS.F ht⟩) hS.2.2 d hr.2.2
theorem r_vret (K : Ok g x cc own nL fr lo) {post : Option Value → (Nat → Nat) → Sg → Prop} (hr : Rt g x none post) (hp : post none ad σ) (d : decode cc pc = .ok (.return_, 1)) : GJ g x nL pc lv [] ad σ := by
  intro H locs ls hW hS h
  rw [hr.1]
  exact W.vret K.1 K.2.1 hr.2.1 (fun t ht hw => ⟨_, ad, σ, rfl, hp, by rw [ht]; exact hW, hS.F ht⟩) hS.2.2 d hr.2.2
/-- behind a call -/
theorem run_go {p : Program} {l : Launch} {e : Env} {R : Room} {s : State} {m : MethodId} {args : Array Value} {below : List Frame} {meth : Method} {c : Code} {H : Heap} {locs : List Loc} {cells slots : Nat} {Q : State → Prop} {g : Gp} {pc : Nat} {ls : Array Slot} {rest st0 : List Value} {a : Array Value} {post : Option Value → (Nat → Nat) → Sg → Prop}
    (hr : va_Run p l e R s m args below meth c H locs cells slots 0 0 (F0 m pc ls st0) rest (QQ g post a) (AA g)) (hS : va_S (AA g) s.heap H locs)
    (kk : ∀ (r : Option Value) (ad : Nat → Nat) (σ : Sg) (H1 : Heap) (locs1 : List Loc), post r ad σ → Wd g ad σ H1 → va_S (AA g) s.heap H1 locs1 → W p l e R s m args below meth c H1 locs1 cells slots Q (F0 m (pc + 3) ls (r.toList ++ rest))) : W p l e R s m args below meth c H locs cells slots Q (F0 m pc ls st0) := by
  intro T hT X
  obtain ⟨v, st₀, t, T', L, h0, X', hL, e1, e2, ⟨r, ad, σ, hv, hp, hw, hz, hk⟩, st⟩ := hr T hT X
  cases hv
  rw [h0] at hz hk
  obtain ⟨t2, a1, b1⟩ := kk v ad σ T'.heap (locs ++ L) hp (by rw [e1]; exact hw)
    ⟨Nat.le_trans hS.1 (by rw [e1]; exact hz), fun q h1 h2 => by rw [e1, hk q (Nat.lt_of_lt_of_le h1 hS.1) h2]; exact hS.2.1 q h1 h2, fun q hq => by
      rcases List.mem_append.mp hq with h | h
      · exact hS.2.2 q h
      · exact hL q h⟩ T' rfl X'
  exact ⟨t2, st t2 a1, b1⟩
theorem pre_blind (g : Gp) (av : List Value) (ad : Nat → Nat) (σ : Sg) : FrameBlind (va_Pc av (fun U => KK g U ∧ Wd g ad σ U.heap)) := fun a U q mk h => ⟨h.1, KK.same h.2.1 rfl rfl, h.2.2⟩
theorem r_callV (K : Ok g x cc own nL fr lo) {y : MethodName} {cb : ByteArray} {maxL fr' lo' n index : Nat} {ret : Option FieldType} {As st : List Value} {post : Option Value → (Nat → Nat) → Sg → Prop} (q0 : Nat) {ci : Nat} {fs : List Value} {T : u_T} {N : Nat} (hM : MV y cb maxL ret n) (hl : Cond.methodLink own index y ∈ gtb) (hC : Con g x.l y cb maxL ret fr' lo' (.ref (ad q0) :: As) ad σ post)
    (hq : q0 < 72) (ho : ceE g ad σ q0 = .inr (ci, fs)) (hc : vwCl[ci]? = some (y.cls, T, N)) (hn : As.length = n) (hst : st = As.reverse ++ .ref (ad q0) :: rest) (hr : (rest.map fun v => v.category).sum ≤ 8) (hR : fr' + 1 ≤ fr ∧ 8 + (maxL + 11) + lo' ≤ lo) (d : decode cc pc = .ok (.invokevirtual index, 3))
    (k : ∀ (r : Option Value) (ad2 : Nat → Nat) (σ2 : Sg), post r ad2 σ2 → GJ g x nL (pc + 3) lv (r.toList ++ rest) ad2 σ2) : GJ g x nL pc lv st ad σ := by
  intro H locs ls hW hS h
  obtain ⟨hx, hb, hml, hown, hts, hK, hf1, hf2, hc1, hc2⟩ := K
  obtain ⟨m1, m2, m3, m4, m5⟩ := hM
  refine run_go (va_runV (C := y.cls) (b := ad q0) (As := As) (rest := rest) (n := n) ⟨hx, hb, hml, hown, hts⟩ hC ⟨callB_of n hts (wm_good m1) rfl rfl rfl (hts _ m4) (hts _ hl) m5 ⟨Nat.le_trans hR.1 hf1, Nat.le_trans hR.2 hf2⟩, hts _ m2, hts _ m3⟩ ⟨pre_blind g _ ad σ, va_recv hK.1 hW.1 hc ((wl_get g ad σ hq).trans (by rw [ho])), fun U hU hw => ⟨rfl, KK.go hK hw (fun a ha hn => by rw [hU]; exact hS.2.1 a ha hn), by rw [hU]; exact hW⟩⟩ rfl hn h.1 hst (lv_room hr) d ⟨hc1, hc2⟩) hS (fun r ad2 σ2 H1 locs1 hp hw hs => k r ad2 σ2 hp H1 locs1 ls hw hs h)
theorem r_callVp (K : Ok g x cc own nL fr lo) {y : MethodName} {cb : ByteArray} {maxL fr' lo' n index : Nat} {ret : Option FieldType} {As st : List Value} {v : Value} (q0 : Nat) {ci : Nat} {fs : List Value} {T : u_T} {N : Nat} (hM : MV y cb maxL ret n) (hl : Cond.methodLink own index y ∈ gtb) (hC : Con g x.l y cb maxL ret fr' lo' (.ref (ad q0) :: As) ad σ (pu v ad σ))
    (hq : q0 < 72) (ho : ceE g ad σ q0 = .inr (ci, fs)) (hc : vwCl[ci]? = some (y.cls, T, N)) (hn : As.length = n) (hst : st = As.reverse ++ .ref (ad q0) :: rest) (hr : (rest.map fun v => v.category).sum ≤ 8) (hR : fr' + 1 ≤ fr ∧ 8 + (maxL + 11) + lo' ≤ lo) (d : decode cc pc = .ok (.invokevirtual index, 3))
    (k : GJ g x nL (pc + 3) lv (v :: rest) ad σ) : GJ g x nL pc lv st ad σ :=
  r_callV K q0 hM hl hC hq ho hc hn hst hr hR d (fun r a2 s2 h => by obtain ⟨rfl, rfl, rfl⟩ := h; exact k)
theorem r_callS (K : Ok g x cc own nL fr lo) {y : MethodName} {cb : ByteArray} {maxL fr' lo' n index : Nat} {ret : Option FieldType} {As st : List Value} {post : Option Value → (Nat → Nat) → Sg → Prop} (hM : MS y cb maxL ret n) (hl : Cond.methodLink own index y ∈ gtb) (hC : Con g x.l y cb maxL ret fr' lo' As ad σ post)
    (hn : As.length = n) (hst : st = As.reverse ++ rest) (hr : (rest.map fun v => v.category).sum ≤ 8) (hR : fr' + 1 ≤ fr ∧ 8 + (maxL + 11) + lo' ≤ lo) (d : decode cc pc = .ok (.invokestatic index, 3))
    (k : ∀ (r : Option Value) (ad2 : Nat → Nat) (σ2 : Sg), post r ad2 σ2 → GJ g x nL (pc + 3) lv (r.toList ++ rest) ad2 σ2) : GJ g x nL pc lv st ad σ := by
  intro H locs ls hW hS h
  obtain ⟨hx, hb, hml, hown, hts, hK, hf1, hf2, hc1, hc2⟩ := K
  obtain ⟨m1, m2, m4, m5⟩ := hM
  refine run_go (va_runS (As := As) (rest := rest) (n := n) ⟨hx, hb, hml, hown, hts⟩ hC ⟨callB_of n hts (wm_good m1) rfl rfl rfl (hts _ m4) (hts _ hl) m5 ⟨Nat.le_trans hR.1 hf1, Nat.le_trans hR.2 hf2⟩, hts _ m2⟩ ⟨pre_blind g _ ad σ, fun U hU hw => ⟨rfl, KK.go hK hw (fun a ha hn => by rw [hU]; exact hS.2.1 a ha hn), by rw [hU]; exact hW⟩⟩ rfl hn h.1 hst (lv_room hr) d ⟨hc1, hc2⟩) hS (fun r ad2 σ2 H1 locs1 hp hw hs => k r ad2 σ2 hp H1 locs1 ls hw hs h)
theorem r_callSp (K : Ok g x cc own nL fr lo) {y : MethodName} {cb : ByteArray} {maxL fr' lo' n index : Nat} {ret : Option FieldType} {As st : List Value} {v : Value} (hM : MS y cb maxL ret n) (hl : Cond.methodLink own index y ∈ gtb) (hC : Con g x.l y cb maxL ret fr' lo' As ad σ (pu v ad σ))
    (hn : As.length = n) (hst : st = As.reverse ++ rest) (hr : (rest.map fun v => v.category).sum ≤ 8) (hR : fr' + 1 ≤ fr ∧ 8 + (maxL + 11) + lo' ≤ lo) (d : decode cc pc = .ok (.invokestatic index, 3))
    (k : GJ g x nL (pc + 3) lv (v :: rest) ad σ) : GJ g x nL pc lv st ad σ :=
  r_callS K hM hl hC hn hst hr hR d (fun r a2 s2 h => by obtain ⟨rfl, rfl, rfl⟩ := h; exact k)
theorem r_callSN (K : Ok g x cc own nL fr lo) {y : MethodName} {cb : ByteArray} {maxL fr' lo' n index : Nat} {ret : Option FieldType} {As st : List Value} {v : Value} {host : String} (hM : MS y cb maxL ret n) (hl : va_Nw (.methodLinkNest own index y host) x.s) (hC : Con g x.l y cb maxL ret fr' lo' As ad σ (pu v ad σ))
    (hn : As.length = n) (hst : st = As.reverse ++ rest) (hr : (rest.map fun v => v.category).sum ≤ 8) (hR : fr' + 1 ≤ fr ∧ 8 + (maxL + 11) + lo' ≤ lo) (d : decode cc pc = .ok (.invokestatic index, 3))
    (k : GJ g x nL (pc + 3) lv (v :: rest) ad σ) : GJ g x nL pc lv st ad σ := by
  intro H locs ls hW hS h
  obtain ⟨hx, hb, hml, hown, hts, hK, hf1, hf2, hc1, hc2⟩ := K
  obtain ⟨m1, m2, m4, m5⟩ := hM
  refine run_go (va_runSN (As := As) (rest := rest) (n := n) ⟨hx, hb, hml, hown, hts⟩ hC ⟨va_cnB n hts (wm_good m1) rfl rfl rfl hl (hts _ m4) m5 ⟨Nat.le_trans hR.1 hf1, Nat.le_trans hR.2 hf2⟩, hts _ m2, trivial⟩ ⟨pre_blind g _ ad σ, fun U hU hw => ⟨rfl, KK.go hK hw (fun a ha hn => by rw [hU]; exact hS.2.1 a ha hn), by rw [hU]; exact hW⟩⟩ rfl hn h.1 hst (lv_room hr) d ⟨hc1, hc2⟩) hS (fun r ad2 σ2 H1 locs1 hp hw hs => ?_)
  obtain ⟨rfl, rfl, rfl⟩ := hp
  exact k H1 locs1 ls hw hs h

set_option maxRecDepth 40000 in
theorem w_va_mmin1 : Cond.static Lib.Math.min.name ∈ gtb := gmem 484 rfl rfl
theorem w_va_mmin2 : Cond.initialized "java/lang/Math" ∈ gtb := gmem 14 rfl rfl
set_option maxRecDepth 40000 in
theorem w_va_mmin3 : Cond.code Lib.Math.min.name Lib.Math.min.code 2 (some .int) ∈ gtb := gmem 485 rfl rfl
theorem r_mmin (K : Ok g x cc own nL fr lo) {index : Nat} {a b : Int32} (hl : Cond.methodLink own index Lib.Math.min.name ∈ gtb) (h1 : 1 ≤ fr) (h2 : (rest.map fun v => v.category).sum + 13 ≤ lo) (d : decode cc pc = .ok (.invokestatic index, 3)) (k : GJ g x nL (pc + 3) lv (.int (if b < a then b else a) :: rest) ad σ) : GJ g x nL pc lv (.int b :: .int a :: rest) ad σ :=
  fun H locs ls hW hS h => va_mmin K.1 K.2.1 (K.2.2.1.trans h.1.symm) K.2.2.2.1 (K.2.2.2.2.1 _ hl) (K.2.2.2.2.1 _ w_va_mmin1) (K.2.2.2.2.1 _ w_va_mmin2) (K.2.2.2.2.1 _ w_va_mmin3) (Nat.le_trans h1 K.2.2.2.2.2.2.1) (Nat.le_trans h2 K.2.2.2.2.2.2.2.1) K.2.2.2.2.2.2.2.2.1 K.2.2.2.2.2.2.2.2.2 d (k H locs ls hW hS h)
set_option maxRecDepth 40000 in
theorem w_va_mmax1 : Cond.static Lib.Math.max.name ∈ gtb := gmem 549 rfl rfl
theorem w_va_mmax2 : Cond.initialized "java/lang/Math" ∈ gtb := gmem 14 rfl rfl
set_option maxRecDepth 40000 in
theorem w_va_mmax3 : Cond.code Lib.Math.max.name Lib.Math.max.code 2 (some .int) ∈ gtb := gmem 550 rfl rfl
theorem r_mmax (K : Ok g x cc own nL fr lo) {index : Nat} {a b : Int32} (hl : Cond.methodLink own index Lib.Math.max.name ∈ gtb) (h1 : 1 ≤ fr) (h2 : (rest.map fun v => v.category).sum + 13 ≤ lo) (d : decode cc pc = .ok (.invokestatic index, 3)) (k : GJ g x nL (pc + 3) lv (.int (if a < b then b else a) :: rest) ad σ) : GJ g x nL pc lv (.int b :: .int a :: rest) ad σ :=
  fun H locs ls hW hS h => va_mmax K.1 K.2.1 (K.2.2.1.trans h.1.symm) K.2.2.2.1 (K.2.2.2.2.1 _ hl) (K.2.2.2.2.1 _ w_va_mmax1) (K.2.2.2.2.1 _ w_va_mmax2) (K.2.2.2.2.1 _ w_va_mmax3) (Nat.le_trans h1 K.2.2.2.2.2.2.1) (Nat.le_trans h2 K.2.2.2.2.2.2.2.1) K.2.2.2.2.2.2.2.2.1 K.2.2.2.2.2.2.2.2.2 d (k H locs ls hW hS h)
set_option maxRecDepth 40000 in
theorem w_va_mmax_long1 : Cond.static Lib.MathLoose.max_long.x ∈ gtb := gmem 647 rfl rfl
theorem w_va_mmax_long2 : Cond.initialized "java/lang/Math" ∈ gtb := gmem 14 rfl rfl
set_option maxRecDepth 40000 in
theorem w_va_mmax_long3 : Cond.code Lib.MathLoose.max_long.x Lib.MathLoose.max_long.code 4 (some .long) ∈ gtb := gmem 648 rfl rfl
theorem r_mmax_long (K : Ok g x cc own nL fr lo) {index : Nat} {a b : Int64} (hl : Cond.methodLink own index Lib.MathLoose.max_long.x ∈ gtb) (h1 : 1 ≤ fr) (h2 : (rest.map fun v => v.category).sum + 15 ≤ lo) (d : decode cc pc = .ok (.invokestatic index, 3)) (k : GJ g x nL (pc + 3) lv (.long (if b < a then a else b) :: rest) ad σ) : GJ g x nL pc lv (.long b :: .long a :: rest) ad σ :=
  fun H locs ls hW hS h => va_mmax_long K.1 K.2.1 (K.2.2.1.trans h.1.symm) K.2.2.2.1 (K.2.2.2.2.1 _ hl) (K.2.2.2.2.1 _ w_va_mmax_long1) (K.2.2.2.2.1 _ w_va_mmax_long2) (K.2.2.2.2.1 _ w_va_mmax_long3) (Nat.le_trans h1 K.2.2.2.2.2.2.1) (Nat.le_trans h2 K.2.2.2.2.2.2.2.1) K.2.2.2.2.2.2.2.2.1 K.2.2.2.2.2.2.2.2.2 d (k H locs ls hW hS h)
set_option maxRecDepth 40000 in
theorem w_va_mabs1 : Cond.static Lib.Math.abs.name ∈ gtb := gmem 472 rfl rfl
theorem w_va_mabs2 : Cond.initialized "java/lang/Math" ∈ gtb := gmem 14 rfl rfl
set_option maxRecDepth 40000 in
theorem w_va_mabs3 : Cond.code Lib.Math.abs.name Lib.Math.abs.code 1 (some .int) ∈ gtb := gmem 473 rfl rfl
theorem r_mabs (K : Ok g x cc own nL fr lo) {index : Nat} {a : Int32} (hl : Cond.methodLink own index Lib.Math.abs.name ∈ gtb) (h1 : 1 ≤ fr) (h2 : (rest.map fun v => v.category).sum + 13 ≤ lo) (d : decode cc pc = .ok (.invokestatic index, 3)) (k : GJ g x nL (pc + 3) lv (.int (if 0 ≤ a then a else 0 - a) :: rest) ad σ) : GJ g x nL pc lv (.int a :: rest) ad σ :=
  fun H locs ls hW hS h => va_mabs K.1 K.2.1 (K.2.2.1.trans h.1.symm) K.2.2.2.1 (K.2.2.2.2.1 _ hl) (K.2.2.2.2.1 _ w_va_mabs1) (K.2.2.2.2.1 _ w_va_mabs2) (K.2.2.2.2.1 _ w_va_mabs3) (Nat.le_trans h1 K.2.2.2.2.2.2.1) (Nat.le_trans h2 K.2.2.2.2.2.2.2.1) K.2.2.2.2.2.2.2.2.1 K.2.2.2.2.2.2.2.2.2 d (k H locs ls hW hS h)
set_option maxRecDepth 40000 in
theorem w_ac1 : Cond.native arraycopyName ∈ gtb := gmem 520 rfl rfl
set_option maxRecDepth 40000 in
theorem w_ac2 : Cond.static arraycopyName ∈ gtb := gmem 519 rfl rfl
theorem w_ac3 : Cond.initialized "java/lang/System" ∈ gtb := gmem 15 rfl rfl
theorem r_copy (K : Ok g x cc own nL fr lo) {index : Nat} (q0 q1 : Nat) {n0 n1 n : Nat} (hq0 : q0 < 60) (ht0 : tyA q0 = 0) (hn0 : lenA q0 = n0) (hq1 : q1 < 60) (ht1 : tyA q1 = 0) (hn1 : lenA q1 = n1) (hb : n < 2 ^ 31) (hl0 : n ≤ n0) (hl1 : n ≤ n1) (hl : Cond.methodLink own index arraycopyName ∈ gtb) (h1 : 1 ≤ fr) (h2 : (rest.map fun v => v.category).sum + (nativeFrameWords "java/lang/System" "arraycopy" 5 + 11) ≤ lo) (d : decode cc pc = .ok (.invokestatic index, 3)) (k : GJ g x nL (pc + 3) lv rest ad (σ.sA q1 (va_cpy (σ.A q0) (σ.A q1) 0 0 n))) : GJ g x nL pc lv (.int (nI n) :: .int (nI 0) :: .ref (ad q1) :: .int (nI 0) :: .ref (ad q0) :: rest) ad σ := by
  intro H locs ls hW hS h
  have e0 : (nI 0).toNatClampNeg = 0 := nI_clamp (by decide)
  have en : (nI n).toNatClampNeg = n := nI_clamp hb
  refine va_copyi K.1 K.2.1 (K.2.2.1.trans h.1.symm) K.2.2.2.1 (K.2.2.2.2.1 _ hl) (K.2.2.2.2.1 _ w_ac1) (K.2.2.2.2.1 _ w_ac2) (K.2.2.2.2.1 _ w_ac3) K.2.2.2.2.2.1.1 hW.1 hW.2 hS q0 q1 0 0 (ty := .int) ((wl_get g ad σ (by omega)).trans (by rw [ceE_arI ht0 hn0 hq0])) ((wl_get g ad σ (by omega)).trans (by rw [ceE_arI ht1 hn1 hq1])) rfl rfl rfl (nI_pos (by decide)) (nI_pos (by decide)) (nI_pos hb) (by rw [e0, en]; omega) (by rw [e0, en]; omega) (fun i _ => rfl) (Nat.le_trans h1 K.2.2.2.2.2.2.1) (Nat.le_trans h2 K.2.2.2.2.2.2.2.1) d (fun H1 locs1 hP hD hS1 => ?_)
  rw [e0, en, set_arI ht1 hn1 hq1] at hP hD
  exact k H1 locs1 ls ⟨hP, hD⟩ hS1 h
end RULES2
end
section
theorem nI_min {a b : Nat} (ha : a < 2 ^ 31) (hb : b < 2 ^ 31) : (if nI b < nI a then nI b else nI a) = nI (min a b) := by
  by_cases h : b < a
  · rw [if_pos ((nI_ltI hb ha).mpr h), Nat.min_eq_right (by omega)]
  · rw [if_neg (fun z => h ((nI_ltI hb ha).mp z)), Nat.min_eq_left (by omega)]
theorem nI_max {a b : Nat} (ha : a < 2 ^ 31) (hb : b < 2 ^ 31) : (if nI a < nI b then nI b else nI a) = nI (max a b) := by
  by_cases h : a < b
  · rw [if_pos ((nI_ltI ha hb).mpr h), Nat.max_eq_right (by omega)]
  · rw [if_neg (fun z => h ((nI_ltI ha hb).mp z)), Nat.max_eq_left (by omega)]
theorem lN_max {a b : Nat} (ha : a < 2 ^ 63) (hb : b < 2 ^ 63) : (if lN b < lN a then lN a else lN b) = lN (max a b) := by
  by_cases h : b < a
  · rw [if_pos ((pk_lLT hb ha).mpr h), Nat.max_eq_left (by omega)]
  · rw [if_neg (fun z => h ((pk_lLT hb ha).mp z)), Nat.max_eq_right (by omega)]
theorem lN_ne0 {a : Nat} (h0 : 0 < a) (ha : a < 2 ^ 63) : ¬ lN a = 0 := fun z => by
  have := (pk_lEQ (b := 0) ha (by decide)).mp z
  omega
section RULES3
variable {g : Gp} {x : Cx} {cc : ByteArray} {own : String} {nL fr lo pc : Nat} {lv lv' : List (Nat × Value)} {rest st : List Value} {ad : Nat → Nat} {σ : Sg}
theorem r_pick (ks : List Nat) (h : lv_pick lv ks = lv') (k : GJ g x nL pc lv' st ad σ) : GJ g x nL pc lv st ad σ :=
  fun H locs ls hW hS hl => k H locs ls hW hS (lv_sub hl ks h)
theorem r_lcmp_eq (K : Ok g x cc own nL fr lo) {a b : Int64} {off : Int} (tgt : Nat) (hu : True) (d1 : decode cc pc = .ok (.lcmp, 1)) (d2 : decode cc (pc + 1) = .ok (.ifCond .eq off, 3)) (ht : ((pc + 1 : Nat) : Int) + off = (tgt : Int)) (kt : a = b → GJ g x nL tgt lv rest ad σ) (kf : a ≠ b → GJ g x nL (pc + 4) lv rest ad σ) : GJ g x nL pc lv (.long b :: .long a :: rest) ad σ :=
  r_lcmp K d1 (fun h => r_if_eq K tgt d2 ht (fun z => absurd z (by decide)) (fun _ => kf (fun z => by rw [z] at h; exact Int64.lt_irrefl h))) (fun h => r_if_eq K tgt d2 ht (fun _ => kt (h)) (fun z => absurd (by decide) z)) (fun h => r_if_eq K tgt d2 ht (fun z => absurd z (by decide)) (fun _ => kf (fun z => by rw [z] at h; exact Int64.lt_irrefl h)))
theorem n_lcmp_eq (K : Ok g x cc own nL fr lo) {a b : Nat} {off : Int} (tgt : Nat) (hu : a < 2 ^ 63 ∧ b < 2 ^ 63) (d1 : decode cc pc = .ok (.lcmp, 1)) (d2 : decode cc (pc + 1) = .ok (.ifCond .eq off, 3)) (ht : ((pc + 1 : Nat) : Int) + off = (tgt : Int)) (kt : a = b → GJ g x nL tgt lv rest ad σ) (kf : a ≠ b → GJ g x nL (pc + 4) lv rest ad σ) : GJ g x nL pc lv (.long (lN b) :: .long (lN a) :: rest) ad σ :=
  r_lcmp_eq K tgt trivial d1 d2 ht (fun h => kt ((pk_lEQ hu.1 hu.2).mp h)) (fun h => kf (fun z => h (by rw [z])))
theorem r_lcmp_ne (K : Ok g x cc own nL fr lo) {a b : Int64} {off : Int} (tgt : Nat) (hu : True) (d1 : decode cc pc = .ok (.lcmp, 1)) (d2 : decode cc (pc + 1) = .ok (.ifCond .ne off, 3)) (ht : ((pc + 1 : Nat) : Int) + off = (tgt : Int)) (kt : a ≠ b → GJ g x nL tgt lv rest ad σ) (kf : a = b → GJ g x nL (pc + 4) lv rest ad σ) : GJ g x nL pc lv (.long b :: .long a :: rest) ad σ :=
  r_lcmp K d1 (fun h => r_if_ne K tgt d2 ht (fun _ => kt (fun z => by rw [z] at h; exact Int64.lt_irrefl h)) (fun z => absurd z (by decide))) (fun h => r_if_ne K tgt d2 ht (fun z => absurd rfl z) (fun _ => kf (h))) (fun h => r_if_ne K tgt d2 ht (fun _ => kt (fun z => by rw [z] at h; exact Int64.lt_irrefl h)) (fun z => absurd z (by decide)))
theorem n_lcmp_ne (K : Ok g x cc own nL fr lo) {a b : Nat} {off : Int} (tgt : Nat) (hu : a < 2 ^ 63 ∧ b < 2 ^ 63) (d1 : decode cc pc = .ok (.lcmp, 1)) (d2 : decode cc (pc + 1) = .ok (.ifCond .ne off, 3)) (ht : ((pc + 1 : Nat) : Int) + off = (tgt : Int)) (kt : a ≠ b → GJ g x nL tgt lv rest ad σ) (kf : a = b → GJ g x nL (pc + 4) lv rest ad σ) : GJ g x nL pc lv (.long (lN b) :: .long (lN a) :: rest) ad σ :=
  r_lcmp_ne K tgt trivial d1 d2 ht (fun h => kt (fun z => h (by rw [z]))) (fun h => kf ((pk_lEQ hu.1 hu.2).mp h))
theorem r_lcmp_lt (K : Ok g x cc own nL fr lo) {a b : Int64} {off : Int} (tgt : Nat) (hu : True) (d1 : decode cc pc = .ok (.lcmp, 1)) (d2 : decode cc (pc + 1) = .ok (.ifCond .lt off, 3)) (ht : ((pc + 1 : Nat) : Int) + off = (tgt : Int)) (kt : a < b → GJ g x nL tgt lv rest ad σ) (kf : b ≤ a → GJ g x nL (pc + 4) lv rest ad σ) : GJ g x nL pc lv (.long b :: .long a :: rest) ad σ :=
  r_lcmp K d1 (fun h => r_if_lt K tgt d2 ht (fun _ => kt (h)) (fun z => absurd (by decide) z)) (fun h => r_if_lt K tgt d2 ht (fun z => absurd z (by decide)) (fun _ => kf (by rw [h]; exact Int64.le_refl _))) (fun h => r_if_lt K tgt d2 ht (fun z => absurd z (by decide)) (fun _ => kf (Int64.le_of_lt h)))
theorem n_lcmp_lt (K : Ok g x cc own nL fr lo) {a b : Nat} {off : Int} (tgt : Nat) (hu : a < 2 ^ 63 ∧ b < 2 ^ 63) (d1 : decode cc pc = .ok (.lcmp, 1)) (d2 : decode cc (pc + 1) = .ok (.ifCond .lt off, 3)) (ht : ((pc + 1 : Nat) : Int) + off = (tgt : Int)) (kt : a < b → GJ g x nL tgt lv rest ad σ) (kf : b ≤ a → GJ g x nL (pc + 4) lv rest ad σ) : GJ g x nL pc lv (.long (lN b) :: .long (lN a) :: rest) ad σ :=
  r_lcmp_lt K tgt trivial d1 d2 ht (fun h => kt ((pk_lLT hu.1 hu.2).mp h)) (fun h => kf ((pk_lLE hu.2 hu.1).mp h))
theorem r_lcmp_ge (K : Ok g x cc own nL fr lo) {a b : Int64} {off : Int} (tgt : Nat) (hu : True) (d1 : decode cc pc = .ok (.lcmp, 1)) (d2 : decode cc (pc + 1) = .ok (.ifCond .ge off, 3)) (ht : ((pc + 1 : Nat) : Int) + off = (tgt : Int)) (kt : b ≤ a → GJ g x nL tgt lv rest ad σ) (kf : a < b → GJ g x nL (pc + 4) lv rest ad σ) : GJ g x nL pc lv (.long b :: .long a :: rest) ad σ :=
  r_lcmp K d1 (fun h => r_if_ge K tgt d2 ht (fun z => absurd z (by decide)) (fun _ => kf (h))) (fun h => r_if_ge K tgt d2 ht (fun _ => kt (by rw [h]; exact Int64.le_refl _)) (fun z => absurd (by decide) z)) (fun h => r_if_ge K tgt d2 ht (fun _ => kt (Int64.le_of_lt h)) (fun z => absurd (by decide) z))
theorem n_lcmp_ge (K : Ok g x cc own nL fr lo) {a b : Nat} {off : Int} (tgt : Nat) (hu : a < 2 ^ 63 ∧ b < 2 ^ 63) (d1 : decode cc pc = .ok (.lcmp, 1)) (d2 : decode cc (pc + 1) = .ok (.ifCond .ge off, 3)) (ht : ((pc + 1 : Nat) : Int) + off = (tgt : Int)) (kt : b ≤ a → GJ g x nL tgt lv rest ad σ) (kf : a < b → GJ g x nL (pc + 4) lv rest ad σ) : GJ g x nL pc lv (.long (lN b) :: .long (lN a) :: rest) ad σ :=
  r_lcmp_ge K tgt trivial d1 d2 ht (fun h => kt ((pk_lLE hu.2 hu.1).mp h)) (fun h => kf ((pk_lLT hu.1 hu.2).mp h))
theorem r_lcmp_gt (K : Ok g x cc own nL fr lo) {a b : Int64} {off : Int} (tgt : Nat) (hu : True) (d1 : decode cc pc = .ok (.lcmp, 1)) (d2 : decode cc (pc + 1) = .ok (.ifCond .gt off, 3)) (ht : ((pc + 1 : Nat) : Int) + off = (tgt : Int)) (kt : b < a → GJ g x nL tgt lv rest ad σ) (kf : a ≤ b → GJ g x nL (pc + 4) lv rest ad σ) : GJ g x nL pc lv (.long b :: .long a :: rest) ad σ :=
  r_lcmp K d1 (fun h => r_if_gt K tgt d2 ht (fun z => absurd z (by decide)) (fun _ => kf (Int64.le_of_lt h))) (fun h => r_if_gt K tgt d2 ht (fun z => absurd z (by decide)) (fun _ => kf (by rw [h]; exact Int64.le_refl _))) (fun h => r_if_gt K tgt d2 ht (fun _ => kt (h)) (fun z => absurd (by decide) z))
theorem n_lcmp_gt (K : Ok g x cc own nL fr lo) {a b : Nat} {off : Int} (tgt : Nat) (hu : a < 2 ^ 63 ∧ b < 2 ^ 63) (d1 : decode cc pc = .ok (.lcmp, 1)) (d2 : decode cc (pc + 1) = .ok (.ifCond .gt off, 3)) (ht : ((pc + 1 : Nat) : Int) + off = (tgt : Int)) (kt : b < a → GJ g x nL tgt lv rest ad σ) (kf : a ≤ b → GJ g x nL (pc + 4) lv rest ad σ) : GJ g x nL pc lv (.long (lN b) :: .long (lN a) :: rest) ad σ :=
  r_lcmp_gt K tgt trivial d1 d2 ht (fun h => kt ((pk_lLT hu.2 hu.1).mp h)) (fun h => kf ((pk_lLE hu.1 hu.2).mp h))
theorem r_lcmp_le (K : Ok g x cc own nL fr lo) {a b : Int64} {off : Int} (tgt : Nat) (hu : True) (d1 : decode cc pc = .ok (.lcmp, 1)) (d2 : decode cc (pc + 1) = .ok (.ifCond .le off, 3)) (ht : ((pc + 1 : Nat) : Int) + off = (tgt : Int)) (kt : a ≤ b → GJ g x nL tgt lv rest ad σ) (kf : b < a → GJ g x nL (pc + 4) lv rest ad σ) : GJ g x nL pc lv (.long b :: .long a :: rest) ad σ :=
  r_lcmp K d1 (fun h => r_if_le K tgt d2 ht (fun _ => kt (Int64.le_of_lt h)) (fun z => absurd (by decide) z)) (fun h => r_if_le K tgt d2 ht (fun _ => kt (by rw [h]; exact Int64.le_refl _)) (fun z => absurd (by decide) z)) (fun h => r_if_le K tgt d2 ht (fun z => absurd z (by decide)) (fun _ => kf (h)))
theorem n_lcmp_le (K : Ok g x cc own nL fr lo) {a b : Nat} {off : Int} (tgt : Nat) (hu : a < 2 ^ 63 ∧ b < 2 ^ 63) (d1 : decode cc pc = .ok (.lcmp, 1)) (d2 : decode cc (pc + 1) = .ok (.ifCond .le off, 3)) (ht : ((pc + 1 : Nat) : Int) + off = (tgt : Int)) (kt : a ≤ b → GJ g x nL tgt lv rest ad σ) (kf : b < a → GJ g x nL (pc + 4) lv rest ad σ) : GJ g x nL pc lv (.long (lN b) :: .long (lN a) :: rest) ad σ :=
  r_lcmp_le K tgt trivial d1 d2 ht (fun h => kt ((pk_lLE hu.1 hu.2).mp h)) (fun h => kf ((pk_lLT hu.2 hu.1).mp h))
end RULES3
end
section
abbrev Tv : Type := Nat → Nat → Nat
/-- what is told: 0 ways, 1 lengths, 2 kinds, 3 ways of wind, 4 strengths, 5 told, 6 weights, 7 cords, 8 kites, 9 freights; 10 how many reaches, 11 still -/
def TOk (T : Tv) : Prop := (∀ k i, T k i < 256) ∧ T 10 0 ≤ 8 ∧ T 11 0 ≤ 9 ∧ (∀ i, T 0 i ≤ 7 ∧ T 1 i ≤ 20 ∧ T 2 i ≤ 2) ∧ (∀ i, i < T 10 0 → 1 ≤ T 1 i) ∧ (∀ j, T 3 j ≤ 7 ∧ T 4 j ≤ 9) ∧ (∀ b, T 5 b ≤ 1 ∧ T 6 b ≤ 60 ∧ T 7 b ≤ 5 ∧ T 8 b ≤ 4 ∧ T 9 b ≤ 99) ∧ (∀ b, T 5 b = 1 → 1 ≤ T 6 b ∧ 1 ≤ T 7 b)
def RepC (T : Tv) (σ : Sg) : Prop := σ.I 0 = nI (T 10 0) ∧ σ.I 1 = nI (T 11 0) ∧ ∀ k, k < 10 → ∀ i, i < lenA k → σ.A k i = nI (T k i)
def offS (a b : Nat) : Nat := if b < a then a - b else b - a
def awayS (a b : Nat) : Nat := if 4 < offS a b then 8 - offS a b else offS a b
def pull0 (k w s : Nat) : Nat := if w = 0 then 10 * s else if w = 1 then 7 * s else if w = 2 ∧ 2 < k then 5 * s else 0
def pullS (k w s : Nat) : Nat := if k = 1 then 2 * pull0 k w s else if k = 4 then pull0 k w s / 2 else pull0 k w s
def tmN : List Nat := [10, 7, 0, 0, 0, 0, 0, 7]
def slN : List Nat := [10, 7, 5, 0, 0, 0, 5, 7]
def pullM (k t s : Nat) : Nat := s * (if k = 3 ∨ k = 4 then slN.getD t 0 else tmN.getD t 0)
def pullT (k t s : Nat) : Nat := if k = 1 then 2 * pullM k t s else if k = 4 then pullM k t s / 2 else pullM k t s
theorem tms_nat : ∀ t, t < 8 → tmsL.getD t 0 = nI (tmN.getD t 0) ∧ tmN.getD t 0 ≤ 10 := by decide +kernel
theorem sail_nat : ∀ t, t < 8 → sailL.getD t 0 = nI (slN.getD t 0) ∧ slN.getD t 0 ≤ 10 := by decide +kernel
theorem turn_tab : ∀ a, a < 8 → ∀ b, b < 8 → tmN.getD ((a + 8 - b) % 8) 0 = (if awayS a b = 0 then 10 else if awayS a b = 1 then 7 else 0) ∧ slN.getD ((a + 8 - b) % 8) 0 = (if awayS a b = 0 then 10 else if awayS a b = 1 then 7 else if awayS a b = 2 then 5 else 0) := by decide +kernel
theorem pullT_S {a b k s : Nat} (ha : a < 8) (hb : b < 8) (hk : k ≤ 4) : pullT k ((a + 8 - b) % 8) s = pullS k (awayS a b) s := by
  obtain ⟨h1, h2⟩ := turn_tab a ha b hb
  have key : pullM k ((a + 8 - b) % 8) s = pull0 k (awayS a b) s := by
    unfold pullM pull0
    rw [h1, h2]
    have h3 : (k = 3 ∨ k = 4) ↔ 2 < k := by omega
    by_cases q0 : awayS a b = 0
    · simp only [q0, if_true, ite_self]; rw [Nat.mul_comm]
    · by_cases q1 : awayS a b = 1
      · simp only [q1, if_true, ite_self]; rw [if_neg (by decide), if_neg (by decide), Nat.mul_comm]
      · by_cases q2 : awayS a b = 2
        · by_cases q3 : 2 < k
          · rw [if_pos (h3.mpr q3), if_neg q0, if_neg q1, if_pos q2, if_neg q0, if_neg q1, if_pos ⟨q2, q3⟩, Nat.mul_comm]
          · rw [if_neg (fun z => q3 (h3.mp z)), if_neg q0, if_neg q1, if_neg q0, if_neg q1, if_neg (fun z => q3 z.2), Nat.mul_zero]
        · rw [if_neg q0, if_neg q1, if_neg q2, if_neg q0, if_neg q1, ite_self, if_neg q0, if_neg q1, if_neg (fun z => q2 z.1), Nat.mul_zero]
  unfold pullT pullS
  rw [key]
def stepS (T : Tv) (b r l h : Nat) : Nat := if T 2 r = 1 ∧ 1 < l then 0 else pullS (T 8 b) (awayS (T 3 (24 * l + h)) (T 0 r)) (T 4 (24 * l + h)) / T 6 b
def goS (T : Tv) (b p l h : Nat) : Nat :=
  if 160 ≤ p then 160 else if p % 20 + stepS T b (p / 20) l h < T 1 (p / 20) then 20 * (p / 20) + (p % 20 + stepS T b (p / 20) l h)
  else if T 2 (p / 20) = 2 ∧ T 11 0 < T 4 h then 20 * (p / 20) + T 1 (p / 20) - 1
  else if p / 20 + 1 < T 10 0 then 20 * (p / 20) + 20 else 160
def cordS (T : Tv) (b : Nat) : Nat := if T 8 b = 2 then 1 else T 7 b
def startS (T : Tv) : Nat := if T 10 0 = 0 then 160 else 0
def sumS (f : Nat → Nat) : Nat → Nat | 0 => 0 | n + 1 => sumS f n + f n
def hasR (T : Tv) (v : Int32) : Bool := decide (0 ≤ v.toInt ∧ v.toInt < T 10 0)
def hasB (T : Tv) (v : Int32) : Bool := decide (0 ≤ v.toInt ∧ v.toInt < 4 ∧ T 5 v.toInt.toNat = 1)
theorem pull0_le {k w s : Nat} (hs : s ≤ 9) : pull0 k w s ≤ 90 := by unfold pull0; split; omega; split; omega; split; omega; omega
theorem pullS_le {k w s : Nat} (hs : s ≤ 9) : pullS k w s ≤ 180 := by
  have := pull0_le (k := k) (w := w) hs
  unfold pullS; split; omega; split; omega; omega
theorem stepS_le {T : Tv} (hT : TOk T) (b r l h : Nat) : stepS T b r l h ≤ 180 := by
  unfold stepS
  split
  · omega
  · exact Nat.le_trans (Nat.div_le_self _ _) (pullS_le (hT.2.2.2.2.2.1 _).2)
theorem ix_of {v : Int32} {n : Nat} (h0 : ¬ v < 0) (h1 : ¬ nI n ≤ v) (hn : n < 2 ^ 31) : ∃ b, b < n ∧ v = nI b := by
  obtain ⟨j, hj, rfl⟩ := nI_of h0
  exact ⟨j, Nat.lt_of_not_le (fun z => h1 (nI_le z hj)), rfl⟩
theorem neg_toInt {v : Int32} (h : v < 0) : v.toInt < 0 := by simpa using Int32.lt_iff_toInt_lt.mp h
theorem ge_toInt {v : Int32} {n : Nat} (h : nI n ≤ v) (hn : n < 2 ^ 31) : (n : Int) ≤ v.toInt := by
  have := Int32.le_iff_toInt_le.mp h
  rwa [nI_toInt hn] at this
theorem hasR_nI {T : Tv} {r : Nat} (hr : r < 2 ^ 31) : hasR T (nI r) = decide (r < T 10 0) := by
  unfold hasR
  rw [nI_toInt hr]
  congr 1
  apply propext
  omega
theorem hasB_nI {T : Tv} {b : Nat} (hb : b < 4) : hasB T (nI b) = decide (T 5 b = 1) := by
  unfold hasB
  rw [nI_toInt (by omega), Int.toNat_natCast]
  congr 1
  apply propext
  omega
theorem hasB_t {T : Tv} {v : Int32} (h : hasB T v = true) : ∃ b, b < 4 ∧ v = nI b ∧ T 5 b = 1 := by
  obtain ⟨h1, h2, h3⟩ := of_decide_eq_true h
  have h0 : ¬ v < 0 := fun z => by have := neg_toInt z; omega
  obtain ⟨j, hj, rfl⟩ := nI_of h0
  rw [nI_toInt hj] at h2 h3
  exact ⟨j, by omega, rfl, by simpa using h3⟩
theorem hasR_t {T : Tv} {v : Int32} (h : hasR T v = true) : ∃ r, r < T 10 0 ∧ v = nI r := by
  obtain ⟨h1, h2⟩ := of_decide_eq_true h
  have h0 : ¬ v < 0 := fun z => by have := neg_toInt z; omega
  obtain ⟨j, hj, rfl⟩ := nI_of h0
  rw [nI_toInt hj] at h2
  exact ⟨j, by omega, rfl⟩
theorem turn_and {a b : Nat} (ha : a < 8) (hb : b < 8) : (nI a - nI b) &&& nI 7 = nI ((a + 8 - b) % 8) := by
  have key : ∀ a, a < 8 → ∀ b, b < 8 → (nI a - nI b) &&& nI 7 = nI ((a + 8 - b) % 8) := by decide +kernel
  exact key a ha b hb
end
section
set_option maxHeartbeats 400000 in
set_option maxRecDepth 10000 in
theorem c_hasReach {g : Gp} {lau : Launch} {ad : Nat → Nat} {σ : Sg} {T : Tv} (hT : TOk T) (hR : RepC T σ) (v : Int32) : Con g lau yX4_hasReach cX4_hasReach 2 (Option.some .boolean) 0 0 [.ref (ad 62), .int (v)] ad σ (pu (.int (bI (hasR T v))) ad σ) := by
  refine con_mk (by decide) (Nat.le_of_ble_eq_true rfl) (fun x hxl K hr => ?_)
  subst hxl
  refine r_lv (lv' := [(0, .ref (ad 62)), (1, .int (v))]) rfl ?_
  have hn8 := hT.2.1
  have hn9 := hT.2.2.1
  refine r_iload_n K 1 rfl rfl dX4_hasReach_0 ?_
  refine r_if_lt K 16 dX4_hasReach_1 (by decide) (fun h1 => ?_) (fun h1 => ?_)
  · refine r_iconst K ((nI (0))) (by decide) dX4_hasReach_16 ?_
    exact r_zret K (b := false) hr (⟨by rw [show hasR T v = false from decide_eq_false (fun z => by have := neg_toInt h1; omega)], rfl, rfl⟩) dX4_hasReach_17
  · refine r_iload_n K 1 rfl rfl dX4_hasReach_4 ?_
    refine r_aload_n K 0 rfl rfl dX4_hasReach_5 ?_
    refine get_62_0 K fl_RX4_9 dX4_hasReach_6 ?_
    refine r_topi (b := (nI (T 10 0))) (hR.1) ?_
    refine r_icmp_ge K 16 dX4_hasReach_9 (by decide) (fun h9 => ?_) (fun h9 => ?_)
    · refine r_iconst K ((nI (0))) (by decide) dX4_hasReach_16 ?_
      exact r_zret K (b := false) hr (⟨by rw [show hasR T v = false from decide_eq_false (fun z => by have := ge_toInt h9 (by omega); omega)], rfl, rfl⟩) dX4_hasReach_17
    · refine r_iconst K ((nI (1))) (by decide) dX4_hasReach_12 ?_
      refine r_goto K 17 dX4_hasReach_13 (by decide) ?_
      exact r_zret K (b := true) hr (⟨by obtain ⟨b, hb, rfl⟩ := ix_of h1 h9 (by omega); rw [hasR_nI (by omega), decide_eq_true hb], rfl, rfl⟩) dX4_hasReach_17

set_option maxHeartbeats 400000 in
set_option maxRecDepth 10000 in
theorem c_hasBarge {g : Gp} {lau : Launch} {ad : Nat → Nat} {σ : Sg} {T : Tv} (hT : TOk T) (hR : RepC T σ) (v : Int32) : Con g lau yX4_hasBarge cX4_hasBarge 2 (Option.some .boolean) 0 0 [.ref (ad 62), .int (v)] ad σ (pu (.int (bI (hasB T v))) ad σ) := by
  refine con_mk (by decide) (Nat.le_of_ble_eq_true rfl) (fun x hxl K hr => ?_)
  subst hxl
  refine r_lv (lv' := [(0, .ref (ad 62)), (1, .int (v))]) rfl ?_
  have hn8 := hT.2.1
  have hn9 := hT.2.2.1
  refine r_iload_n K 1 rfl rfl dX4_hasBarge_0 ?_
  refine r_if_lt K 22 dX4_hasBarge_1 (by decide) (fun h1 => ?_) (fun h1 => ?_)
  · refine r_iconst K ((nI (0))) (by decide) dX4_hasBarge_22 ?_
    exact r_zret K (b := false) hr (⟨by rw [show hasB T v = false from decide_eq_false (fun z => by have := neg_toInt h1; omega)], rfl, rfl⟩) dX4_hasBarge_23
  · refine r_iload_n K 1 rfl rfl dX4_hasBarge_4 ?_
    refine r_iconst K ((nI (4))) (by decide) dX4_hasBarge_5 ?_
    refine r_icmp_ge K 22 dX4_hasBarge_6 (by decide) (fun h6 => ?_) (fun h6 => ?_)
    · refine r_iconst K ((nI (0))) (by decide) dX4_hasBarge_22 ?_
      exact r_zret K (b := false) hr (⟨by rw [show hasB T v = false from decide_eq_false (fun z => by have := ge_toInt h6 (by omega); omega)], rfl, rfl⟩) dX4_hasBarge_23
    · obtain ⟨b, hb, rfl⟩ := ix_of h1 h6 (by decide)
      refine r_aload_n K 0 rfl rfl dX4_hasBarge_9 ?_
      refine get_62_7 K fl_RX4_34 dX4_hasBarge_10 ?_
      refine r_iload_n K 1 rfl rfl dX4_hasBarge_13 ?_
      refine r_zald K 5 (n := 4) (by decide) rfl rfl (by decide) (by omega) dX4_hasBarge_14 ?_
      have hq5 : T 5 (b) < 256 := hT.1 5 (b)
      refine r_topi (b := (nI (T 5 (b)))) (hR.2.2 5 (by decide) (b) (show b < 4 by omega)) ?_
      refine n_if_eq K 22 (by omega) dX4_hasBarge_15 (by decide) (fun h15 => ?_) (fun h15 => ?_)
      · refine r_iconst K ((nI (0))) (by decide) dX4_hasBarge_22 ?_
        exact r_zret K (b := false) hr (⟨by rw [hasB_nI hb, decide_eq_false (by omega)], rfl, rfl⟩) dX4_hasBarge_23
      · refine r_iconst K ((nI (1))) (by decide) dX4_hasBarge_18 ?_
        refine r_goto K 23 dX4_hasBarge_19 (by decide) ?_
        exact r_zret K (b := true) hr (⟨by rw [hasB_nI hb, decide_eq_true (by have := (hT.2.2.2.2.2.2.1 b).1; omega)], rfl, rfl⟩) dX4_hasBarge_23

set_option maxHeartbeats 400000 in
set_option maxRecDepth 10000 in
theorem c_cordOf {g : Gp} {lau : Launch} {ad : Nat → Nat} {σ : Sg} {T : Tv} (hT : TOk T) (hR : RepC T σ) {b : Nat} (hb : b < 4) : Con g lau yX4_cordOf cX4_cordOf 2 (Option.some .int) 0 0 [.ref (ad 62), .int (nI (b))] ad σ (pu (.int (nI (cordS T b))) ad σ) := by
  refine con_mk (by decide) (Nat.le_of_ble_eq_true rfl) (fun x hxl K hr => ?_)
  subst hxl
  refine r_lv (lv' := [(0, .ref (ad 62)), (1, .int (nI (b)))]) rfl ?_
  have hn8 := hT.2.1
  have hn9 := hT.2.2.1
  refine r_aload_n K 0 rfl rfl dX4_cordOf_0 ?_
  refine get_62_10 K fl_RX4_44 dX4_cordOf_1 ?_
  refine r_iload_n K 1 rfl rfl dX4_cordOf_4 ?_
  refine r_iald K 8 (n := 4) (by decide) rfl rfl (by decide) (by omega) dX4_cordOf_5 ?_
  have hq7 : T 8 (b) < 256 := hT.1 8 (b)
  refine r_topi (b := (nI (T 8 (b)))) (hR.2.2 8 (by decide) (b) (show b < 4 by omega)) ?_
  refine r_iconst K ((nI (2))) (by decide) dX4_cordOf_6 ?_
  refine n_icmp_ne K 14 (by omega) (by omega) dX4_cordOf_7 (by decide) (fun h7 => ?_) (fun h7 => ?_)
  · refine r_aload_n K 0 rfl rfl dX4_cordOf_14 ?_
    refine get_62_9 K fl_RX4_41 dX4_cordOf_15 ?_
    refine r_iload_n K 1 rfl rfl dX4_cordOf_18 ?_
    refine r_iald K 7 (n := 4) (by decide) rfl rfl (by decide) (by omega) dX4_cordOf_19 ?_
    have hq9 : T 7 (b) < 256 := hT.1 7 (b)
    refine r_topi (b := (nI (T 7 (b)))) (hR.2.2 7 (by decide) (b) (show b < 4 by omega)) ?_
    exact r_iret K hr (⟨by rw [cordS, if_neg h7], rfl, rfl⟩) dX4_cordOf_20
  · refine r_iconst K ((nI (1))) (by decide) dX4_cordOf_10 ?_
    refine r_goto K 20 dX4_cordOf_11 (by decide) ?_
    exact r_iret K hr (⟨by rw [cordS, if_pos h7], rfl, rfl⟩) dX4_cordOf_20

set_option maxHeartbeats 400000 in
set_option maxRecDepth 10000 in
theorem c_begin {g : Gp} {lau : Launch} {ad : Nat → Nat} {σ : Sg} {T : Tv} (hT : TOk T) (hR : RepC T σ) : Con g lau yX4_begin cX4_begin 1 (Option.some .int) 0 0 [.ref (ad 62)] ad σ (pu (.int (nI (startS T))) ad σ) := by
  refine con_mk (by decide) (Nat.le_of_ble_eq_true rfl) (fun x hxl K hr => ?_)
  subst hxl
  refine r_lv (lv' := [(0, .ref (ad 62))]) rfl ?_
  have hn8 := hT.2.1
  have hn9 := hT.2.2.1
  refine r_aload_n K 0 rfl rfl dX4_begin_0 ?_
  refine get_62_0 K fl_RX4_9 dX4_begin_1 ?_
  refine r_topi (b := (nI (T 10 0))) (hR.1) ?_
  refine n_if_ne K 13 (by omega) dX4_begin_4 (by decide) (fun h4 => ?_) (fun h4 => ?_)
  · refine r_iconst K ((nI (0))) (by decide) dX4_begin_13 ?_
    exact r_iret K hr (⟨by rw [startS, if_neg h4], rfl, rfl⟩) dX4_begin_14
  · refine r_sipush K ((nI (160))) (by decide) dX4_begin_7 ?_
    refine r_goto K 14 dX4_begin_10 (by decide) ?_
    exact r_iret K hr (⟨by rw [startS, if_pos h4], rfl, rfl⟩) dX4_begin_14

set_option maxHeartbeats 400000 in
set_option maxRecDepth 10000 in
theorem c_wholeLength {g : Gp} {lau : Launch} {ad : Nat → Nat} {σ : Sg} {T : Tv} (hT : TOk T) (hR : RepC T σ) : Con g lau yX4_wholeLength cX4_wholeLength 3 (Option.some .int) 0 0 [.ref (ad 62)] ad σ (pu (.int (nI (sumS (T 1) (T 10 0)))) ad σ) := by
  refine con_mk (by decide) (Nat.le_of_ble_eq_true rfl) (fun x hxl K hr => ?_)
  subst hxl
  refine r_lv (lv' := [(0, .ref (ad 62))]) rfl ?_
  have hn8 := hT.2.1
  have hn9 := hT.2.2.1
  refine r_iconst K ((nI (0))) (by decide) dX4_wholeLength_0 ?_
  refine r_istore_n K (lv' := [(1, .int (nI (0))), (0, .ref (ad 62))]) 1 rfl (by decide) rfl dX4_wholeLength_1 ?_
  refine r_iconst K ((nI (0))) (by decide) dX4_wholeLength_2 ?_
  refine r_istore_n K (lv' := [(2, .int (nI (0))), (1, .int (nI (0))), (0, .ref (ad 62))]) 2 rfl (by decide) rfl dX4_wholeLength_3 ?_
  refine r_pick [2, 1, 0] (lv' := [(0, .ref (ad 62)), (1, .int (nI (0))), (2, .int (nI (0)))]) rfl ?_
  have lpA : ∀ (m : Nat) (i : Nat) (a : Nat), m = T 10 0 - i → (i ≤ T 10 0) → (a = sumS (T 1) i) → GJ g x 3 4 [(0, .ref (ad 62)), (1, .int (nI (a))), (2, .int (nI (i)))] [] ad (σ) := by
    intro m
    induction m using Nat.strongRecOn with
    | _ m ihA =>
      intro i a hmA h1 h2
      refine r_iload_n K 2 rfl rfl dX4_wholeLength_4 ?_
      refine r_aload_n K 0 rfl rfl dX4_wholeLength_5 ?_
      refine get_62_0 K fl_RX4_9 dX4_wholeLength_6 ?_
      refine r_topi (b := (nI (T 10 0))) (hR.1) ?_
      refine n_icmp_ge K 27 (by omega) (by omega) dX4_wholeLength_9 (by decide) (fun h9 => ?_) (fun h9 => ?_)
      · refine r_iload_n K 1 rfl rfl dX4_wholeLength_27 ?_
        exact r_iret K hr (⟨by rw [h2, show i = T 10 0 by omega], rfl, rfl⟩) dX4_wholeLength_28
      · refine r_iload_n K 1 rfl rfl dX4_wholeLength_12 ?_
        refine r_aload_n K 0 rfl rfl dX4_wholeLength_13 ?_
        refine get_62_3 K fl_RX4_22 dX4_wholeLength_14 ?_
        refine r_iload_n K 2 rfl rfl dX4_wholeLength_17 ?_
        refine r_iald K 1 (n := 8) (by decide) rfl rfl (by decide) (by omega) dX4_wholeLength_18 ?_
        have hq12 : T 1 (i) < 256 := hT.1 1 (i)
        refine r_topi (b := (nI (T 1 (i)))) (hR.2.2 1 (by decide) (i) (show i < 8 by omega)) ?_
        refine r_iadd K dX4_wholeLength_19 ?_
        refine r_topi (nI_add _ _) ?_
        refine r_istore_n K (lv' := [(1, .int (nI (a + (T 1 (i))))), (0, .ref (ad 62)), (2, .int (nI (i)))]) 1 rfl (by decide) rfl dX4_wholeLength_20 ?_
        refine r_iinc K ((nI (i + 1))) rfl (nI_1 _) (lv' := [(2, .int (nI (i + 1))), (1, .int (nI (a + (T 1 (i))))), (0, .ref (ad 62))]) (by decide) rfl dX4_wholeLength_21 ?_
        refine r_goto K 4 dX4_wholeLength_24 (by decide) ?_
        refine r_pick [2, 1, 0] (lv' := [(0, .ref (ad 62)), (1, .int (nI (a + (T 1 (i))))), (2, .int (nI (i + 1)))]) rfl ?_
        exact ihA _ (by omega) (i + 1) (_) rfl (by omega) (by rw [h2]; rfl)
  exact lpA _ (0) (0) rfl (Nat.zero_le _) (rfl)

set_option maxHeartbeats 400000 in
set_option maxRecDepth 10000 in
theorem c_pulled {g : Gp} {lau : Launch} {ad : Nat → Nat} {σ : Sg} {k t s : Nat} {u : Int32} (hk : k ≤ 4) (hs : s ≤ 9) (ht8 : t < 8) (ht : u &&& nI 7 = nI t) : Con g lau yX4_pulled cX4_pulled 5 (Option.some .int) 0 0 [.int (nI (k)), .int (u), .int (nI (s))] ad σ (pu (.int (nI (pullT k t s))) ad σ) := by
  refine con_mk (by decide) (Nat.le_of_ble_eq_true rfl) (fun x hxl K hr => ?_)
  subst hxl
  refine r_lv (lv' := [(0, .int (nI (k))), (1, .int (u)), (2, .int (nI (s)))]) rfl ?_
  refine r_iload_n K 0 rfl rfl dX4_pulled_0 ?_
  refine r_iconst K ((nI (3))) (by decide) dX4_pulled_1 ?_
  refine n_icmp_eq K 10 (by omega) (by omega) dX4_pulled_2 (by decide) (fun h2 => ?_) (fun h2 => ?_)
  · refine r_iconst K ((nI (1))) (by decide) dX4_pulled_10 ?_
    refine r_goto K 15 dX4_pulled_11 (by decide) ?_
    refine r_istore_n K (lv' := [(3, .int (nI (1))), (0, .int (nI (k))), (1, .int (u)), (2, .int (nI (s)))]) 3 rfl (by decide) rfl dX4_pulled_15 ?_
    refine r_iload_n K 2 rfl rfl dX4_pulled_16 ?_
    refine r_iload_n K 3 rfl rfl dX4_pulled_17 ?_
    refine n_if_eq K 32 (by omega) dX4_pulled_18 (by decide) (fun z => absurd z (by decide)) (fun _ => ?_)
    refine r_getsS K fl_RX4_61 dX4_pulled_21 ?_
    refine r_iload_n K 1 rfl rfl dX4_pulled_24 ?_
    refine r_bipush K ((nI (7))) (by decide) dX4_pulled_25 ?_
    refine r_iand K dX4_pulled_27 ?_
    refine r_topi (b := (nI (t))) (ht) ?_
    refine r_tald2 K (ht8) dX4_pulled_28 ?_
    refine r_topi (b := (nI (slN.getD t 0))) ((sail_nat t ht8).1) ?_
    have hsl := (sail_nat t ht8).2
    have hmm : s * slN.getD t 0 ≤ 90 := Nat.le_trans (Nat.mul_le_mul hs hsl) (by decide)
    refine r_goto K 40 dX4_pulled_29 (by decide) ?_
    refine r_imul K dX4_pulled_40 ?_
    refine r_topi (pk_mul _ _) ?_
    refine r_istore K (lv' := [(4, .int (nI (s * (slN.getD t 0)))), (3, .int (nI (1))), (0, .int (nI (k))), (1, .int (u)), (2, .int (nI (s)))]) (by decide) rfl dX4_pulled_41 ?_
    refine r_iload_n K 0 rfl rfl dX4_pulled_43 ?_
    refine r_iconst K ((nI (1))) (by decide) dX4_pulled_44 ?_
    refine n_icmp_ne K 53 (by omega) (by omega) dX4_pulled_45 (by decide) (fun h45 => ?_) (fun h45 => ?_)
    · refine r_iload_n K 0 rfl rfl dX4_pulled_53 ?_
      refine r_iconst K ((nI (4))) (by decide) dX4_pulled_54 ?_
      refine n_icmp_ne K 65 (by omega) (by omega) dX4_pulled_55 (by decide) (fun h55 => ?_) (fun h55 => ?_)
      · refine r_iload K rfl dX4_pulled_65 ?_
        exact r_iret K hr (⟨by first | (exfalso; omega) | (simp only [pullT, pullM]; simp [*]), rfl, rfl⟩) dX4_pulled_67
      · refine r_iload K rfl dX4_pulled_58 ?_
        refine r_iconst K ((nI (2))) (by decide) dX4_pulled_60 ?_
        refine r_idiv K (nI_ne0 (by omega) (by omega)) dX4_pulled_61 ?_
        refine r_topi (pk_div (by omega) (by omega) (by omega)) ?_
        refine r_goto K 67 dX4_pulled_62 (by decide) ?_
        exact r_iret K hr (⟨by first | (exfalso; omega) | (simp only [pullT, pullM]; simp [*]), rfl, rfl⟩) dX4_pulled_67
    · refine r_iconst K ((nI (2))) (by decide) dX4_pulled_48 ?_
      refine r_iload K rfl dX4_pulled_49 ?_
      refine r_imul K dX4_pulled_51 ?_
      refine r_topi (pk_mul _ _) ?_
      exact r_iret K hr (⟨by first | (exfalso; omega) | (simp only [pullT, pullM]; simp [*]), rfl, rfl⟩) dX4_pulled_52
  · refine r_iload_n K 0 rfl rfl dX4_pulled_5 ?_
    refine r_iconst K ((nI (4))) (by decide) dX4_pulled_6 ?_
    refine n_icmp_ne K 14 (by omega) (by omega) dX4_pulled_7 (by decide) (fun h7 => ?_) (fun h7 => ?_)
    · refine r_iconst K ((nI (0))) (by decide) dX4_pulled_14 ?_
      refine r_istore_n K (lv' := [(3, .int (nI (0))), (0, .int (nI (k))), (1, .int (u)), (2, .int (nI (s)))]) 3 rfl (by decide) rfl dX4_pulled_15 ?_
      refine r_iload_n K 2 rfl rfl dX4_pulled_16 ?_
      refine r_iload_n K 3 rfl rfl dX4_pulled_17 ?_
      refine n_if_eq K 32 (by omega) dX4_pulled_18 (by decide) (fun _ => ?_) (fun z => absurd z (by decide))
      refine r_getsT K fl_RX4_64 dX4_pulled_32 ?_
      refine r_iload_n K 1 rfl rfl dX4_pulled_35 ?_
      refine r_bipush K ((nI (7))) (by decide) dX4_pulled_36 ?_
      refine r_iand K dX4_pulled_38 ?_
      refine r_topi (b := (nI (t))) (ht) ?_
      refine r_tald1 K (ht8) dX4_pulled_39 ?_
      refine r_topi (b := (nI (tmN.getD t 0))) ((tms_nat t ht8).1) ?_
      have hsl := (tms_nat t ht8).2
      have hmm : s * tmN.getD t 0 ≤ 90 := Nat.le_trans (Nat.mul_le_mul hs hsl) (by decide)
      refine r_imul K dX4_pulled_40 ?_
      refine r_topi (pk_mul _ _) ?_
      refine r_istore K (lv' := [(4, .int (nI (s * (tmN.getD t 0)))), (3, .int (nI (0))), (0, .int (nI (k))), (1, .int (u)), (2, .int (nI (s)))]) (by decide) rfl dX4_pulled_41 ?_
      refine r_iload_n K 0 rfl rfl dX4_pulled_43 ?_
      refine r_iconst K ((nI (1))) (by decide) dX4_pulled_44 ?_
      refine n_icmp_ne K 53 (by omega) (by omega) dX4_pulled_45 (by decide) (fun h45 => ?_) (fun h45 => ?_)
      · refine r_iload_n K 0 rfl rfl dX4_pulled_53 ?_
        refine r_iconst K ((nI (4))) (by decide) dX4_pulled_54 ?_
        refine n_icmp_ne K 65 (by omega) (by omega) dX4_pulled_55 (by decide) (fun h55 => ?_) (fun h55 => ?_)
        · refine r_iload K rfl dX4_pulled_65 ?_
          exact r_iret K hr (⟨by first | (exfalso; omega) | (simp only [pullT, pullM]; simp [*]), rfl, rfl⟩) dX4_pulled_67
        · refine r_iload K rfl dX4_pulled_58 ?_
          refine r_iconst K ((nI (2))) (by decide) dX4_pulled_60 ?_
          refine r_idiv K (nI_ne0 (by omega) (by omega)) dX4_pulled_61 ?_
          refine r_topi (pk_div (by omega) (by omega) (by omega)) ?_
          refine r_goto K 67 dX4_pulled_62 (by decide) ?_
          exact r_iret K hr (⟨by first | (exfalso; omega) | (simp only [pullT, pullM]; simp [*]), rfl, rfl⟩) dX4_pulled_67
      · refine r_iconst K ((nI (2))) (by decide) dX4_pulled_48 ?_
        refine r_iload K rfl dX4_pulled_49 ?_
        refine r_imul K dX4_pulled_51 ?_
        refine r_topi (pk_mul _ _) ?_
        exact r_iret K hr (⟨by first | (exfalso; omega) | (simp only [pullT, pullM]; simp [*]), rfl, rfl⟩) dX4_pulled_52
    · refine r_iconst K ((nI (1))) (by decide) dX4_pulled_10 ?_
      refine r_goto K 15 dX4_pulled_11 (by decide) ?_
      refine r_istore_n K (lv' := [(3, .int (nI (1))), (0, .int (nI (k))), (1, .int (u)), (2, .int (nI (s)))]) 3 rfl (by decide) rfl dX4_pulled_15 ?_
      refine r_iload_n K 2 rfl rfl dX4_pulled_16 ?_
      refine r_iload_n K 3 rfl rfl dX4_pulled_17 ?_
      refine n_if_eq K 32 (by omega) dX4_pulled_18 (by decide) (fun z => absurd z (by decide)) (fun _ => ?_)
      refine r_getsS K fl_RX4_61 dX4_pulled_21 ?_
      refine r_iload_n K 1 rfl rfl dX4_pulled_24 ?_
      refine r_bipush K ((nI (7))) (by decide) dX4_pulled_25 ?_
      refine r_iand K dX4_pulled_27 ?_
      refine r_topi (b := (nI (t))) (ht) ?_
      refine r_tald2 K (ht8) dX4_pulled_28 ?_
      refine r_topi (b := (nI (slN.getD t 0))) ((sail_nat t ht8).1) ?_
      have hsl := (sail_nat t ht8).2
      have hmm : s * slN.getD t 0 ≤ 90 := Nat.le_trans (Nat.mul_le_mul hs hsl) (by decide)
      refine r_goto K 40 dX4_pulled_29 (by decide) ?_
      refine r_imul K dX4_pulled_40 ?_
      refine r_topi (pk_mul _ _) ?_
      refine r_istore K (lv' := [(4, .int (nI (s * (slN.getD t 0)))), (3, .int (nI (1))), (0, .int (nI (k))), (1, .int (u)), (2, .int (nI (s)))]) (by decide) rfl dX4_pulled_41 ?_
      refine r_iload_n K 0 rfl rfl dX4_pulled_43 ?_
      refine r_iconst K ((nI (1))) (by decide) dX4_pulled_44 ?_
      refine n_icmp_ne K 53 (by omega) (by omega) dX4_pulled_45 (by decide) (fun h45 => ?_) (fun h45 => ?_)
      · refine r_iload_n K 0 rfl rfl dX4_pulled_53 ?_
        refine r_iconst K ((nI (4))) (by decide) dX4_pulled_54 ?_
        refine n_icmp_ne K 65 (by omega) (by omega) dX4_pulled_55 (by decide) (fun h55 => ?_) (fun h55 => ?_)
        · refine r_iload K rfl dX4_pulled_65 ?_
          exact r_iret K hr (⟨by first | (exfalso; omega) | (simp only [pullT, pullM]; simp [*]), rfl, rfl⟩) dX4_pulled_67
        · refine r_iload K rfl dX4_pulled_58 ?_
          refine r_iconst K ((nI (2))) (by decide) dX4_pulled_60 ?_
          refine r_idiv K (nI_ne0 (by omega) (by omega)) dX4_pulled_61 ?_
          refine r_topi (pk_div (by omega) (by omega) (by omega)) ?_
          refine r_goto K 67 dX4_pulled_62 (by decide) ?_
          exact r_iret K hr (⟨by first | (exfalso; omega) | (simp only [pullT, pullM]; simp [*]), rfl, rfl⟩) dX4_pulled_67
      · refine r_iconst K ((nI (2))) (by decide) dX4_pulled_48 ?_
        refine r_iload K rfl dX4_pulled_49 ?_
        refine r_imul K dX4_pulled_51 ?_
        refine r_topi (pk_mul _ _) ?_
        exact r_iret K hr (⟨by first | (exfalso; omega) | (simp only [pullT, pullM]; simp [*]), rfl, rfl⟩) dX4_pulled_52

set_option maxHeartbeats 400000 in
set_option maxRecDepth 10000 in
theorem c_stepOf {g : Gp} {lau : Launch} {ad : Nat → Nat} {σ : Sg} {T : Tv} (hT : TOk T) (hR : RepC T σ) {b r l h : Nat} (hb : b < 4) (hr8 : r < 8) (hl6 : l < 6) (hh : h < 24) : Con g lau yX4_stepOf cX4_stepOf 6 (Option.some .int) 1 24 [.ref (ad 62), .int (nI (b)), .int (nI (r)), .int (nI (l)), .int (nI (h))] ad σ (pu (.int (nI (stepS T b r l h))) ad σ) := by
  refine con_mk (by decide) (Nat.le_of_ble_eq_true rfl) (fun x hxl K hr => ?_)
  subst hxl
  refine r_lv (lv' := [(0, .ref (ad 62)), (1, .int (nI (b))), (2, .int (nI (r))), (3, .int (nI (l))), (4, .int (nI (h)))]) rfl ?_
  have hn8 := hT.2.1
  have hn9 := hT.2.2.1
  refine r_aload_n K 0 rfl rfl dX4_stepOf_0 ?_
  refine get_62_4 K fl_RX4_25 dX4_stepOf_1 ?_
  refine r_iload_n K 2 rfl rfl dX4_stepOf_4 ?_
  refine r_iald K 2 (n := 8) (by decide) rfl rfl (by decide) (by omega) dX4_stepOf_5 ?_
  have hq24 : T 2 (r) < 256 := hT.1 2 (r)
  refine r_topi (b := (nI (T 2 (r)))) (hR.2.2 2 (by decide) (r) (show r < 8 by omega)) ?_
  refine r_iconst K ((nI (1))) (by decide) dX4_stepOf_6 ?_
  refine n_icmp_ne K 15 (by omega) (by omega) dX4_stepOf_7 (by decide) (fun h7 => ?_) (fun h7 => ?_)
  · refine r_aload_n K 0 rfl rfl dX4_stepOf_15 ?_
    refine get_62_8 K fl_RX4_38 dX4_stepOf_16 ?_
    refine r_iload_n K 1 rfl rfl dX4_stepOf_19 ?_
    refine r_iald K 6 (n := 4) (by decide) rfl rfl (by decide) (by omega) dX4_stepOf_20 ?_
    have hq26 : T 6 (b) < 256 := hT.1 6 (b)
    refine r_topi (b := (nI (T 6 (b)))) (hR.2.2 6 (by decide) (b) (show b < 4 by omega)) ?_
    refine r_iconst K ((nI (1))) (by decide) dX4_stepOf_21 ?_
    refine n_icmp_ge K 27 (by omega) (by omega) dX4_stepOf_22 (by decide) (fun h22 => ?_) (fun h22 => ?_)
    · refine r_iload_n K 3 rfl rfl dX4_stepOf_27 ?_
      refine r_bipush K ((nI (24))) (by decide) dX4_stepOf_28 ?_
      refine r_imul K dX4_stepOf_30 ?_
      refine r_topi (pk_mul _ _) ?_
      refine r_iload K rfl dX4_stepOf_31 ?_
      refine r_iadd K dX4_stepOf_33 ?_
      refine r_topi (nI_add _ _) ?_
      refine r_istore K (lv' := [(5, .int (nI ((l * 24) + h))), (0, .ref (ad 62)), (1, .int (nI (b))), (2, .int (nI (r))), (3, .int (nI (l))), (4, .int (nI (h)))]) (by decide) rfl dX4_stepOf_34 ?_
      refine r_aload_n K 0 rfl rfl dX4_stepOf_36 ?_
      refine get_62_10 K fl_RX4_44 dX4_stepOf_37 ?_
      refine r_iload_n K 1 rfl rfl dX4_stepOf_40 ?_
      refine r_iald K 8 (n := 4) (by decide) rfl rfl (by decide) (by omega) dX4_stepOf_41 ?_
      have hq28 : T 8 (b) < 256 := hT.1 8 (b)
      refine r_topi (b := (nI (T 8 (b)))) (hR.2.2 8 (by decide) (b) (show b < 4 by omega)) ?_
      refine r_aload_n K 0 rfl rfl dX4_stepOf_42 ?_
      refine get_62_5 K fl_RX4_28 dX4_stepOf_43 ?_
      refine r_iload K rfl dX4_stepOf_46 ?_
      refine r_iald K 3 (n := 144) (by decide) rfl rfl (by decide) (by omega) dX4_stepOf_48 ?_
      have hq29 : T 3 ((l * 24) + h) < 256 := hT.1 3 ((l * 24) + h)
      refine r_topi (b := (nI (T 3 ((l * 24) + h)))) (hR.2.2 3 (by decide) ((l * 24) + h) (show (l * 24) + h < 144 by omega)) ?_
      refine r_aload_n K 0 rfl rfl dX4_stepOf_49 ?_
      refine get_62_2 K fl_RX4_18 dX4_stepOf_50 ?_
      refine r_iload_n K 2 rfl rfl dX4_stepOf_53 ?_
      refine r_iald K 0 (n := 8) (by decide) rfl rfl (by decide) (by omega) dX4_stepOf_54 ?_
      have hq30 : T 0 (r) < 256 := hT.1 0 (r)
      refine r_topi (b := (nI (T 0 (r)))) (hR.2.2 0 (by decide) (r) (show r < 8 by omega)) ?_
      refine r_isub K dX4_stepOf_55 ?_
      refine r_aload_n K 0 rfl rfl dX4_stepOf_56 ?_
      refine get_62_6 K fl_RX4_31 dX4_stepOf_57 ?_
      refine r_iload K rfl dX4_stepOf_60 ?_
      refine r_iald K 4 (n := 144) (by decide) rfl rfl (by decide) (by omega) dX4_stepOf_62 ?_
      have hq31 : T 4 ((l * 24) + h) < 256 := hT.1 4 ((l * 24) + h)
      refine r_topi (b := (nI (T 4 ((l * 24) + h)))) (hR.2.2 4 (by decide) ((l * 24) + h) (show (l * 24) + h < 144 by omega)) ?_
      refine r_callSp K (As := [.int (nI (T 8 (b))), .int ((nI (T 3 ((l * 24) + h))) - (nI (T 0 (r)))), .int (nI (T 4 ((l * 24) + h)))]) ms_X4_pulled ml_RX4_67 (c_pulled (k := T 8 (b)) (s := T 4 ((l * 24) + h)) (t := (T 3 (l * 24 + h) + 8 - T 0 r) % 8) (hT.2.2.2.2.2.2.1 _).2.2.2.1 (hT.2.2.2.2.2.1 _).2 (Nat.mod_lt _ (by decide)) (turn_and (Nat.lt_succ_of_le (hT.2.2.2.2.2.1 _).1) (Nat.lt_succ_of_le (hT.2.2.2.1 _).1))) rfl rfl (Nat.le_of_ble_eq_true rfl) ⟨by decide, by decide⟩ dX4_stepOf_63 ?_
      refine r_topi (b := (nI (pullS (T 8 b) (awayS (T 3 (l * 24 + h)) (T 0 r)) (T 4 (l * 24 + h))))) (by rw [pullT_S (Nat.lt_succ_of_le (hT.2.2.2.2.2.1 _).1) (Nat.lt_succ_of_le (hT.2.2.2.1 _).1) (hT.2.2.2.2.2.2.1 _).2.2.2.1]) ?_
      have hps : pullS (T 8 b) (awayS (T 3 (l * 24 + h)) (T 0 r)) (T 4 (l * 24 + h)) ≤ 180 := pullS_le (hT.2.2.2.2.2.1 _).2
      refine r_aload_n K 0 rfl rfl dX4_stepOf_66 ?_
      refine get_62_8 K fl_RX4_38 dX4_stepOf_67 ?_
      refine r_iload_n K 1 rfl rfl dX4_stepOf_70 ?_
      refine r_iald K 6 (n := 4) (by decide) rfl rfl (by decide) (by omega) dX4_stepOf_71 ?_
      have hq32 : T 6 (b) < 256 := hT.1 6 (b)
      refine r_topi (b := (nI (T 6 (b)))) (hR.2.2 6 (by decide) (b) (show b < 4 by omega)) ?_
      refine r_idiv K (nI_ne0 (by omega) (by omega)) dX4_stepOf_72 ?_
      refine r_topi (pk_div (by omega) (by omega) (by omega)) ?_
      exact r_iret K hr (⟨by simp only [stepS]; rw [if_neg (fun z => by omega), Nat.mul_comm 24 l], rfl, rfl⟩) dX4_stepOf_73
    · refine r_iconst K ((nI (0))) (by decide) dX4_stepOf_25 ?_
      exact r_iret K hr (⟨by simp only [stepS]; first | (rw [if_pos (show T 2 r = 1 ∧ 1 < l by omega)]; done) | (rw [show T 6 b = 0 by omega, Nat.div_zero]; simp; done), rfl, rfl⟩) dX4_stepOf_26
  · refine r_iload_n K 3 rfl rfl dX4_stepOf_10 ?_
    refine r_iconst K ((nI (1))) (by decide) dX4_stepOf_11 ?_
    refine n_icmp_gt K 25 (by omega) (by omega) dX4_stepOf_12 (by decide) (fun h12 => ?_) (fun h12 => ?_)
    · refine r_iconst K ((nI (0))) (by decide) dX4_stepOf_25 ?_
      exact r_iret K hr (⟨by simp only [stepS]; first | (rw [if_pos (show T 2 r = 1 ∧ 1 < l by omega)]; done) | (rw [show T 6 b = 0 by omega, Nat.div_zero]; simp; done), rfl, rfl⟩) dX4_stepOf_26
    · refine r_aload_n K 0 rfl rfl dX4_stepOf_15 ?_
      refine get_62_8 K fl_RX4_38 dX4_stepOf_16 ?_
      refine r_iload_n K 1 rfl rfl dX4_stepOf_19 ?_
      refine r_iald K 6 (n := 4) (by decide) rfl rfl (by decide) (by omega) dX4_stepOf_20 ?_
      have hq34 : T 6 (b) < 256 := hT.1 6 (b)
      refine r_topi (b := (nI (T 6 (b)))) (hR.2.2 6 (by decide) (b) (show b < 4 by omega)) ?_
      refine r_iconst K ((nI (1))) (by decide) dX4_stepOf_21 ?_
      refine n_icmp_ge K 27 (by omega) (by omega) dX4_stepOf_22 (by decide) (fun h22 => ?_) (fun h22 => ?_)
      · refine r_iload_n K 3 rfl rfl dX4_stepOf_27 ?_
        refine r_bipush K ((nI (24))) (by decide) dX4_stepOf_28 ?_
        refine r_imul K dX4_stepOf_30 ?_
        refine r_topi (pk_mul _ _) ?_
        refine r_iload K rfl dX4_stepOf_31 ?_
        refine r_iadd K dX4_stepOf_33 ?_
        refine r_topi (nI_add _ _) ?_
        refine r_istore K (lv' := [(5, .int (nI ((l * 24) + h))), (0, .ref (ad 62)), (1, .int (nI (b))), (2, .int (nI (r))), (3, .int (nI (l))), (4, .int (nI (h)))]) (by decide) rfl dX4_stepOf_34 ?_
        refine r_aload_n K 0 rfl rfl dX4_stepOf_36 ?_
        refine get_62_10 K fl_RX4_44 dX4_stepOf_37 ?_
        refine r_iload_n K 1 rfl rfl dX4_stepOf_40 ?_
        refine r_iald K 8 (n := 4) (by decide) rfl rfl (by decide) (by omega) dX4_stepOf_41 ?_
        have hq36 : T 8 (b) < 256 := hT.1 8 (b)
        refine r_topi (b := (nI (T 8 (b)))) (hR.2.2 8 (by decide) (b) (show b < 4 by omega)) ?_
        refine r_aload_n K 0 rfl rfl dX4_stepOf_42 ?_
        refine get_62_5 K fl_RX4_28 dX4_stepOf_43 ?_
        refine r_iload K rfl dX4_stepOf_46 ?_
        refine r_iald K 3 (n := 144) (by decide) rfl rfl (by decide) (by omega) dX4_stepOf_48 ?_
        have hq37 : T 3 ((l * 24) + h) < 256 := hT.1 3 ((l * 24) + h)
        refine r_topi (b := (nI (T 3 ((l * 24) + h)))) (hR.2.2 3 (by decide) ((l * 24) + h) (show (l * 24) + h < 144 by omega)) ?_
        refine r_aload_n K 0 rfl rfl dX4_stepOf_49 ?_
        refine get_62_2 K fl_RX4_18 dX4_stepOf_50 ?_
        refine r_iload_n K 2 rfl rfl dX4_stepOf_53 ?_
        refine r_iald K 0 (n := 8) (by decide) rfl rfl (by decide) (by omega) dX4_stepOf_54 ?_
        have hq38 : T 0 (r) < 256 := hT.1 0 (r)
        refine r_topi (b := (nI (T 0 (r)))) (hR.2.2 0 (by decide) (r) (show r < 8 by omega)) ?_
        refine r_isub K dX4_stepOf_55 ?_
        refine r_aload_n K 0 rfl rfl dX4_stepOf_56 ?_
        refine get_62_6 K fl_RX4_31 dX4_stepOf_57 ?_
        refine r_iload K rfl dX4_stepOf_60 ?_
        refine r_iald K 4 (n := 144) (by decide) rfl rfl (by decide) (by omega) dX4_stepOf_62 ?_
        have hq39 : T 4 ((l * 24) + h) < 256 := hT.1 4 ((l * 24) + h)
        refine r_topi (b := (nI (T 4 ((l * 24) + h)))) (hR.2.2 4 (by decide) ((l * 24) + h) (show (l * 24) + h < 144 by omega)) ?_
        refine r_callSp K (As := [.int (nI (T 8 (b))), .int ((nI (T 3 ((l * 24) + h))) - (nI (T 0 (r)))), .int (nI (T 4 ((l * 24) + h)))]) ms_X4_pulled ml_RX4_67 (c_pulled (k := T 8 (b)) (s := T 4 ((l * 24) + h)) (t := (T 3 (l * 24 + h) + 8 - T 0 r) % 8) (hT.2.2.2.2.2.2.1 _).2.2.2.1 (hT.2.2.2.2.2.1 _).2 (Nat.mod_lt _ (by decide)) (turn_and (Nat.lt_succ_of_le (hT.2.2.2.2.2.1 _).1) (Nat.lt_succ_of_le (hT.2.2.2.1 _).1))) rfl rfl (Nat.le_of_ble_eq_true rfl) ⟨by decide, by decide⟩ dX4_stepOf_63 ?_
        refine r_topi (b := (nI (pullS (T 8 b) (awayS (T 3 (l * 24 + h)) (T 0 r)) (T 4 (l * 24 + h))))) (by rw [pullT_S (Nat.lt_succ_of_le (hT.2.2.2.2.2.1 _).1) (Nat.lt_succ_of_le (hT.2.2.2.1 _).1) (hT.2.2.2.2.2.2.1 _).2.2.2.1]) ?_
        have hps : pullS (T 8 b) (awayS (T 3 (l * 24 + h)) (T 0 r)) (T 4 (l * 24 + h)) ≤ 180 := pullS_le (hT.2.2.2.2.2.1 _).2
        refine r_aload_n K 0 rfl rfl dX4_stepOf_66 ?_
        refine get_62_8 K fl_RX4_38 dX4_stepOf_67 ?_
        refine r_iload_n K 1 rfl rfl dX4_stepOf_70 ?_
        refine r_iald K 6 (n := 4) (by decide) rfl rfl (by decide) (by omega) dX4_stepOf_71 ?_
        have hq40 : T 6 (b) < 256 := hT.1 6 (b)
        refine r_topi (b := (nI (T 6 (b)))) (hR.2.2 6 (by decide) (b) (show b < 4 by omega)) ?_
        refine r_idiv K (nI_ne0 (by omega) (by omega)) dX4_stepOf_72 ?_
        refine r_topi (pk_div (by omega) (by omega) (by omega)) ?_
        exact r_iret K hr (⟨by simp only [stepS]; rw [if_neg (fun z => by omega), Nat.mul_comm 24 l], rfl, rfl⟩) dX4_stepOf_73
      · refine r_iconst K ((nI (0))) (by decide) dX4_stepOf_25 ?_
        exact r_iret K hr (⟨by simp only [stepS]; first | (rw [if_pos (show T 2 r = 1 ∧ 1 < l by omega)]; done) | (rw [show T 6 b = 0 by omega, Nat.div_zero]; simp; done), rfl, rfl⟩) dX4_stepOf_26

set_option maxHeartbeats 400000 in
set_option maxRecDepth 10000 in
theorem c_moved {g : Gp} {lau : Launch} {ad : Nat → Nat} {σ : Sg} {T : Tv} (hT : TOk T) (hR : RepC T σ) {b p l h : Nat} (hb : b < 4) (hl6 : l < 6) (hh : h < 24) (hp : p = 160 ∨ p / 20 < T 10 0) : Con g lau yX4_moved cX4_moved 7 (Option.some .int) 2 49 [.ref (ad 62), .int (nI (b)), .int (nI (p)), .int (nI (l)), .int (nI (h))] ad σ (pu (.int (nI (goS T b p l h))) ad σ) := by
  refine con_mk (by decide) (Nat.le_of_ble_eq_true rfl) (fun x hxl K hr => ?_)
  subst hxl
  refine r_lv (lv' := [(0, .ref (ad 62)), (1, .int (nI (b))), (2, .int (nI (p))), (3, .int (nI (l))), (4, .int (nI (h)))]) rfl ?_
  have hn8 := hT.2.1
  have hn9 := hT.2.2.1
  have hp160 : p ≤ 160 := by omega
  have hpn : ¬ p = 160 → p / 20 < T 10 0 := fun z => by omega
  refine r_iload_n K 2 rfl rfl dX4_moved_0 ?_
  refine r_sipush K ((nI (160))) (by decide) dX4_moved_1 ?_
  refine n_icmp_lt K 11 (by omega) (by omega) dX4_moved_4 (by decide) (fun h4 => ?_) (fun h4 => ?_)
  · refine r_iload_n K 2 rfl rfl dX4_moved_11 ?_
    refine r_bipush K ((nI (20))) (by decide) dX4_moved_12 ?_
    refine r_idiv K (nI_ne0 (by omega) (by omega)) dX4_moved_14 ?_
    refine r_topi (pk_div (by omega) (by omega) (by omega)) ?_
    refine r_istore K (lv' := [(5, .int (nI (p / 20))), (0, .ref (ad 62)), (1, .int (nI (b))), (2, .int (nI (p))), (3, .int (nI (l))), (4, .int (nI (h)))]) (by decide) rfl dX4_moved_15 ?_
    refine r_iload_n K 2 rfl rfl dX4_moved_17 ?_
    refine r_bipush K ((nI (20))) (by decide) dX4_moved_18 ?_
    refine r_irem K (nI_ne0 (by omega) (by omega)) dX4_moved_20 ?_
    refine r_topi (pk_rem (by omega) (by omega) (by omega)) ?_
    refine r_aload_n K 0 rfl rfl dX4_moved_21 ?_
    refine r_iload_n K 1 rfl rfl dX4_moved_22 ?_
    refine r_iload K rfl dX4_moved_23 ?_
    refine r_iload_n K 3 rfl rfl dX4_moved_25 ?_
    refine r_iload K rfl dX4_moved_26 ?_
    refine r_callVp K 62 (As := [.int (nI (b)), .int (nI (p / 20)), .int (nI (l)), .int (nI (h))]) mv_X4_stepOf ml_RX4_71 (c_stepOf hT hR (b := b) (r := p / 20) (l := l) (h := h) (by omega) (by omega) (by omega) (by omega)) (by decide) rfl rfl rfl rfl (Nat.le_of_ble_eq_true rfl) ⟨by decide, by decide⟩ dX4_moved_28 ?_
    have hst := stepS_le hT b (p / 20) l h
    refine r_iadd K dX4_moved_31 ?_
    refine r_topi (nI_add _ _) ?_
    refine r_istore K (lv' := [(6, .int (nI ((p % 20) + (stepS T b (p / 20) l h)))), (5, .int (nI (p / 20))), (0, .ref (ad 62)), (1, .int (nI (b))), (2, .int (nI (p))), (3, .int (nI (l))), (4, .int (nI (h)))]) (by decide) rfl dX4_moved_32 ?_
    refine r_iload K rfl dX4_moved_34 ?_
    refine r_aload_n K 0 rfl rfl dX4_moved_36 ?_
    refine get_62_3 K fl_RX4_22 dX4_moved_37 ?_
    refine r_iload K rfl dX4_moved_40 ?_
    refine r_iald K 1 (n := 8) (by decide) rfl rfl (by decide) (by omega) dX4_moved_42 ?_
    have hq42 : T 1 (p / 20) < 256 := hT.1 1 (p / 20)
    refine r_topi (b := (nI (T 1 (p / 20)))) (hR.2.2 1 (by decide) (p / 20) (show p / 20 < 8 by omega)) ?_
    refine n_icmp_ge K 55 (by omega) (by omega) dX4_moved_43 (by decide) (fun h43 => ?_) (fun h43 => ?_)
    · refine r_aload_n K 0 rfl rfl dX4_moved_55 ?_
      refine get_62_4 K fl_RX4_25 dX4_moved_56 ?_
      refine r_iload K rfl dX4_moved_59 ?_
      refine r_iald K 2 (n := 8) (by decide) rfl rfl (by decide) (by omega) dX4_moved_61 ?_
      have hq44 : T 2 (p / 20) < 256 := hT.1 2 (p / 20)
      refine r_topi (b := (nI (T 2 (p / 20)))) (hR.2.2 2 (by decide) (p / 20) (show p / 20 < 8 by omega)) ?_
      refine r_iconst K ((nI (2))) (by decide) dX4_moved_62 ?_
      refine n_icmp_ne K 96 (by omega) (by omega) dX4_moved_63 (by decide) (fun h63 => ?_) (fun h63 => ?_)
      · refine r_iload K rfl dX4_moved_96 ?_
        refine r_iconst K ((nI (1))) (by decide) dX4_moved_98 ?_
        refine r_iadd K dX4_moved_99 ?_
        refine r_topi (nI_add _ _) ?_
        refine r_aload_n K 0 rfl rfl dX4_moved_100 ?_
        refine get_62_0 K fl_RX4_9 dX4_moved_101 ?_
        refine r_topi (b := (nI (T 10 0))) (hR.1) ?_
        refine n_icmp_ge K 117 (by omega) (by omega) dX4_moved_104 (by decide) (fun h104 => ?_) (fun h104 => ?_)
        · refine r_sipush K ((nI (160))) (by decide) dX4_moved_117 ?_
          exact r_iret K hr (⟨by simp only [goS]; rw [if_neg (by omega)]; first | (rw [if_pos h43]; done) | (rw [if_neg (by omega), if_pos ⟨h63, h77⟩]; done) | (rw [if_neg (by omega), if_neg (fun z => by omega), if_pos (by omega)]; done) | (rw [if_neg (by omega), if_neg (fun z => by omega), if_neg (by omega)]; done), rfl, rfl⟩) dX4_moved_120
        · refine r_iload K rfl dX4_moved_107 ?_
          refine r_iconst K ((nI (1))) (by decide) dX4_moved_109 ?_
          refine r_iadd K dX4_moved_110 ?_
          refine r_topi (nI_add _ _) ?_
          refine r_bipush K ((nI (20))) (by decide) dX4_moved_111 ?_
          refine r_imul K dX4_moved_113 ?_
          refine r_topi (pk_mul _ _) ?_
          refine r_topi (b := (nI (20 * (p / 20) + 20))) (by rw [Nat.add_mul, Nat.mul_comm 20]) ?_
          refine r_goto K 120 dX4_moved_114 (by decide) ?_
          exact r_iret K hr (⟨by simp only [goS]; rw [if_neg (by omega)]; first | (rw [if_pos h43]; done) | (rw [if_neg (by omega), if_pos ⟨h63, h77⟩]; done) | (rw [if_neg (by omega), if_neg (fun z => by omega), if_pos (by omega)]; done) | (rw [if_neg (by omega), if_neg (fun z => by omega), if_neg (by omega)]; done), rfl, rfl⟩) dX4_moved_120
      · refine r_aload_n K 0 rfl rfl dX4_moved_66 ?_
        refine get_62_6 K fl_RX4_31 dX4_moved_67 ?_
        refine r_iload K rfl dX4_moved_70 ?_
        refine r_iald K 4 (n := 144) (by decide) rfl rfl (by decide) (by omega) dX4_moved_72 ?_
        have hq47 : T 4 (h) < 256 := hT.1 4 (h)
        refine r_topi (b := (nI (T 4 (h)))) (hR.2.2 4 (by decide) (h) (show h < 144 by omega)) ?_
        refine r_aload_n K 0 rfl rfl dX4_moved_73 ?_
        refine get_62_1 K fl_RX4_15 dX4_moved_74 ?_
        refine r_topi (b := (nI (T 11 0))) (hR.2.1) ?_
        refine n_icmp_le K 96 (by omega) (by omega) dX4_moved_77 (by decide) (fun h77 => ?_) (fun h77 => ?_)
        · refine r_iload K rfl dX4_moved_96 ?_
          refine r_iconst K ((nI (1))) (by decide) dX4_moved_98 ?_
          refine r_iadd K dX4_moved_99 ?_
          refine r_topi (nI_add _ _) ?_
          refine r_aload_n K 0 rfl rfl dX4_moved_100 ?_
          refine get_62_0 K fl_RX4_9 dX4_moved_101 ?_
          refine r_topi (b := (nI (T 10 0))) (hR.1) ?_
          refine n_icmp_ge K 117 (by omega) (by omega) dX4_moved_104 (by decide) (fun h104 => ?_) (fun h104 => ?_)
          · refine r_sipush K ((nI (160))) (by decide) dX4_moved_117 ?_
            exact r_iret K hr (⟨by simp only [goS]; rw [if_neg (by omega)]; first | (rw [if_pos h43]; done) | (rw [if_neg (by omega), if_pos ⟨h63, h77⟩]; done) | (rw [if_neg (by omega), if_neg (fun z => by omega), if_pos (by omega)]; done) | (rw [if_neg (by omega), if_neg (fun z => by omega), if_neg (by omega)]; done), rfl, rfl⟩) dX4_moved_120
          · refine r_iload K rfl dX4_moved_107 ?_
            refine r_iconst K ((nI (1))) (by decide) dX4_moved_109 ?_
            refine r_iadd K dX4_moved_110 ?_
            refine r_topi (nI_add _ _) ?_
            refine r_bipush K ((nI (20))) (by decide) dX4_moved_111 ?_
            refine r_imul K dX4_moved_113 ?_
            refine r_topi (pk_mul _ _) ?_
            refine r_topi (b := (nI (20 * (p / 20) + 20))) (by rw [Nat.add_mul, Nat.mul_comm 20]) ?_
            refine r_goto K 120 dX4_moved_114 (by decide) ?_
            exact r_iret K hr (⟨by simp only [goS]; rw [if_neg (by omega)]; first | (rw [if_pos h43]; done) | (rw [if_neg (by omega), if_pos ⟨h63, h77⟩]; done) | (rw [if_neg (by omega), if_neg (fun z => by omega), if_pos (by omega)]; done) | (rw [if_neg (by omega), if_neg (fun z => by omega), if_neg (by omega)]; done), rfl, rfl⟩) dX4_moved_120
        · refine r_iload K rfl dX4_moved_80 ?_
          refine r_bipush K ((nI (20))) (by decide) dX4_moved_82 ?_
          refine r_imul K dX4_moved_84 ?_
          refine r_topi (pk_mul _ _) ?_
          refine r_aload_n K 0 rfl rfl dX4_moved_85 ?_
          refine get_62_3 K fl_RX4_22 dX4_moved_86 ?_
          refine r_iload K rfl dX4_moved_89 ?_
          refine r_iald K 1 (n := 8) (by decide) rfl rfl (by decide) (by omega) dX4_moved_91 ?_
          have hq50 : T 1 (p / 20) < 256 := hT.1 1 (p / 20)
          refine r_topi (b := (nI (T 1 (p / 20)))) (hR.2.2 1 (by decide) (p / 20) (show p / 20 < 8 by omega)) ?_
          refine r_iadd K dX4_moved_92 ?_
          refine r_topi (nI_add _ _) ?_
          refine r_iconst K ((nI (1))) (by decide) dX4_moved_93 ?_
          refine r_isub K dX4_moved_94 ?_
          refine r_topi (b := (nI (20 * (p / 20) + T 1 (p / 20) - 1))) (by rw [pk_sub (by have := hT.2.2.2.2.1 (p / 20) (hpn (by omega)); omega), Nat.mul_comm 20]) ?_
          exact r_iret K hr (⟨by simp only [goS]; rw [if_neg (by omega)]; first | (rw [if_pos h43]; done) | (rw [if_neg (by omega), if_pos ⟨h63, h77⟩]; done) | (rw [if_neg (by omega), if_neg (fun z => by omega), if_pos (by omega)]; done) | (rw [if_neg (by omega), if_neg (fun z => by omega), if_neg (by omega)]; done), rfl, rfl⟩) dX4_moved_95
    · refine r_iload K rfl dX4_moved_46 ?_
      refine r_bipush K ((nI (20))) (by decide) dX4_moved_48 ?_
      refine r_imul K dX4_moved_50 ?_
      refine r_topi (pk_mul _ _) ?_
      refine r_iload K rfl dX4_moved_51 ?_
      refine r_iadd K dX4_moved_53 ?_
      refine r_topi (nI_add _ _) ?_
      refine r_topi (b := (nI (20 * (p / 20) + (p % 20 + stepS T b (p / 20) l h)))) (by rw [Nat.mul_comm 20]) ?_
      exact r_iret K hr (⟨by simp only [goS]; rw [if_neg (by omega)]; first | (rw [if_pos h43]; done) | (rw [if_neg (by omega), if_pos ⟨h63, h77⟩]; done) | (rw [if_neg (by omega), if_neg (fun z => by omega), if_pos (by omega)]; done) | (rw [if_neg (by omega), if_neg (fun z => by omega), if_neg (by omega)]; done), rfl, rfl⟩) dX4_moved_54
  · refine r_sipush K ((nI (160))) (by decide) dX4_moved_7 ?_
    exact r_iret K hr (⟨by rw [goS, if_pos h4], rfl, rfl⟩) dX4_moved_10
end
