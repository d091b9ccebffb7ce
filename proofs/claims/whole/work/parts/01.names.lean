-- ===== PART A: goes FIRST, ahead of the names: the tables' words, and 'selects' of the private methods out of them =====
/-- a private method of a class that the tables say can be made, by its rows of tables_1 -/
def lw_okq (q : MethodName × Nat) : Prop := (q.1.cls ≠ "java/lang/invoke/MethodHandle" ∧ q.1.cls ≠ "java/lang/invoke/VarHandle") ∧ Cond.instantiable q.1.cls q.2 ∈ tables_1 ∧ Cond.privateMethod q.1 ∈ tables_1 ∧ Cond.instanceMethod q.1 ∈ tables_1
theorem lw_p0 : lw_okq (⟨"BearerKin$Reader", "clear", "()V"⟩, 18) := ⟨⟨by decide +kernel, by decide +kernel⟩, List.mem_of_getElem? (i := 71) (by decide +kernel), List.mem_of_getElem? (i := 582) (by decide +kernel), List.mem_of_getElem? (i := 583) (by decide +kernel)⟩
theorem lw_p1 : lw_okq (⟨"BearerKin$Tokens", "takeWord", "()V"⟩, 9) := ⟨⟨by decide +kernel, by decide +kernel⟩, List.mem_of_getElem? (i := 31) (by decide +kernel), List.mem_of_getElem? (i := 596) (by decide +kernel), List.mem_of_getElem? (i := 597) (by decide +kernel)⟩
theorem lw_p2 : lw_okq (⟨"BearerKin$Tokens", "takeNumber", "()V"⟩, 9) := ⟨⟨by decide +kernel, by decide +kernel⟩, List.mem_of_getElem? (i := 31) (by decide +kernel), List.mem_of_getElem? (i := 649) (by decide +kernel), List.mem_of_getElem? (i := 650) (by decide +kernel)⟩
theorem lw_p3 : lw_okq (⟨"BearerKin$Reader", "number", "(III)I"⟩, 18) := ⟨⟨by decide +kernel, by decide +kernel⟩, List.mem_of_getElem? (i := 71) (by decide +kernel), List.mem_of_getElem? (i := 717) (by decide +kernel), List.mem_of_getElem? (i := 718) (by decide +kernel)⟩
theorem lw_p4 : lw_okq (⟨"BearerKin$Reader", "line", "()V"⟩, 18) := ⟨⟨by decide +kernel, by decide +kernel⟩, List.mem_of_getElem? (i := 71) (by decide +kernel), List.mem_of_getElem? (i := 723) (by decide +kernel), List.mem_of_getElem? (i := 724) (by decide +kernel)⟩
theorem lw_p5 : lw_okq (⟨"BearerKin$Reader", "kinLine", "()V"⟩, 18) := ⟨⟨by decide +kernel, by decide +kernel⟩, List.mem_of_getElem? (i := 71) (by decide +kernel), List.mem_of_getElem? (i := 727) (by decide +kernel), List.mem_of_getElem? (i := 728) (by decide +kernel)⟩
theorem lw_p6 : lw_okq (⟨"BearerKin$Reader", "law", "(I)V"⟩, 18) := ⟨⟨by decide +kernel, by decide +kernel⟩, List.mem_of_getElem? (i := 71) (by decide +kernel), List.mem_of_getElem? (i := 731) (by decide +kernel), List.mem_of_getElem? (i := 732) (by decide +kernel)⟩
theorem lw_p7 : lw_okq (⟨"BearerKin$Reader", "sum", "(I)V"⟩, 18) := ⟨⟨by decide +kernel, by decide +kernel⟩, List.mem_of_getElem? (i := 71) (by decide +kernel), List.mem_of_getElem? (i := 735) (by decide +kernel), List.mem_of_getElem? (i := 736) (by decide +kernel)⟩
theorem lw_p8 : lw_okq (⟨"BearerKin$Reader", "term", "(I)V"⟩, 18) := ⟨⟨by decide +kernel, by decide +kernel⟩, List.mem_of_getElem? (i := 71) (by decide +kernel), List.mem_of_getElem? (i := 739) (by decide +kernel), List.mem_of_getElem? (i := 740) (by decide +kernel)⟩
theorem lw_p9 : lw_okq (⟨"BearerKin$Reader", "atom", "(I)V"⟩, 18) := ⟨⟨by decide +kernel, by decide +kernel⟩, List.mem_of_getElem? (i := 71) (by decide +kernel), List.mem_of_getElem? (i := 743) (by decide +kernel), List.mem_of_getElem? (i := 744) (by decide +kernel)⟩
theorem lw_p10 : lw_okq (⟨"BearerKin$Reader", "emit", "(I)V"⟩, 18) := ⟨⟨by decide +kernel, by decide +kernel⟩, List.mem_of_getElem? (i := 71) (by decide +kernel), List.mem_of_getElem? (i := 747) (by decide +kernel), List.mem_of_getElem? (i := 748) (by decide +kernel)⟩
theorem lw_p11 : lw_okq (⟨"BearerKin$Reader", "goesDeeper", "(I)Z"⟩, 18) := ⟨⟨by decide +kernel, by decide +kernel⟩, List.mem_of_getElem? (i := 71) (by decide +kernel), List.mem_of_getElem? (i := 751) (by decide +kernel), List.mem_of_getElem? (i := 752) (by decide +kernel)⟩
theorem lw_p12 : lw_okq (⟨"BearerKin$Reader", "truth", "(I)V"⟩, 18) := ⟨⟨by decide +kernel, by decide +kernel⟩, List.mem_of_getElem? (i := 71) (by decide +kernel), List.mem_of_getElem? (i := 755) (by decide +kernel), List.mem_of_getElem? (i := 756) (by decide +kernel)⟩
theorem lw_p13 : lw_okq (⟨"BearerKin$Reader", "both", "(I)V"⟩, 18) := ⟨⟨by decide +kernel, by decide +kernel⟩, List.mem_of_getElem? (i := 71) (by decide +kernel), List.mem_of_getElem? (i := 759) (by decide +kernel), List.mem_of_getElem? (i := 760) (by decide +kernel)⟩
theorem lw_p14 : lw_okq (⟨"BearerKin$Reader", "unit", "(I)V"⟩, 18) := ⟨⟨by decide +kernel, by decide +kernel⟩, List.mem_of_getElem? (i := 71) (by decide +kernel), List.mem_of_getElem? (i := 763) (by decide +kernel), List.mem_of_getElem? (i := 764) (by decide +kernel)⟩
theorem lw_p15 : lw_okq (⟨"BearerKin$Reader", "factOf", "(I)I"⟩, 18) := ⟨⟨by decide +kernel, by decide +kernel⟩, List.mem_of_getElem? (i := 71) (by decide +kernel), List.mem_of_getElem? (i := 767) (by decide +kernel), List.mem_of_getElem? (i := 768) (by decide +kernel)⟩
def lw_privs_1 : List (MethodName × Nat) := [(⟨"BearerKin$Reader", "clear", "()V"⟩, 18), (⟨"BearerKin$Tokens", "takeWord", "()V"⟩, 9), (⟨"BearerKin$Tokens", "takeNumber", "()V"⟩, 9), (⟨"BearerKin$Reader", "number", "(III)I"⟩, 18), (⟨"BearerKin$Reader", "line", "()V"⟩, 18), (⟨"BearerKin$Reader", "kinLine", "()V"⟩, 18), (⟨"BearerKin$Reader", "law", "(I)V"⟩, 18), (⟨"BearerKin$Reader", "sum", "(I)V"⟩, 18), (⟨"BearerKin$Reader", "term", "(I)V"⟩, 18), (⟨"BearerKin$Reader", "atom", "(I)V"⟩, 18), (⟨"BearerKin$Reader", "emit", "(I)V"⟩, 18), (⟨"BearerKin$Reader", "goesDeeper", "(I)Z"⟩, 18), (⟨"BearerKin$Reader", "truth", "(I)V"⟩, 18), (⟨"BearerKin$Reader", "both", "(I)V"⟩, 18), (⟨"BearerKin$Reader", "unit", "(I)V"⟩, 18), (⟨"BearerKin$Reader", "factOf", "(I)I"⟩, 18)]
theorem lw_r1 : ∀ q ∈ lw_privs_1, lw_okq q := List.forall_mem_cons.mpr ⟨lw_p0, List.forall_mem_cons.mpr ⟨lw_p1, List.forall_mem_cons.mpr ⟨lw_p2, List.forall_mem_cons.mpr ⟨lw_p3, List.forall_mem_cons.mpr ⟨lw_p4, List.forall_mem_cons.mpr ⟨lw_p5, List.forall_mem_cons.mpr ⟨lw_p6, List.forall_mem_cons.mpr ⟨lw_p7, List.forall_mem_cons.mpr ⟨lw_p8, List.forall_mem_cons.mpr ⟨lw_p9, List.forall_mem_cons.mpr ⟨lw_p10, List.forall_mem_cons.mpr ⟨lw_p11, List.forall_mem_cons.mpr ⟨lw_p12, List.forall_mem_cons.mpr ⟨lw_p13, List.forall_mem_cons.mpr ⟨lw_p14, List.forall_mem_cons.mpr ⟨lw_p15, fun _ h => absurd h List.not_mem_nil⟩⟩⟩⟩⟩⟩⟩⟩⟩⟩⟩⟩⟩⟩⟩⟩
theorem lw_p16 : lw_okq (⟨"BearerKin", "isPlace", "(I)Z"⟩, 18) := ⟨⟨by decide +kernel, by decide +kernel⟩, List.mem_of_getElem? (i := 23) (by decide +kernel), List.mem_of_getElem? (i := 783) (by decide +kernel), List.mem_of_getElem? (i := 784) (by decide +kernel)⟩
theorem lw_p17 : lw_okq (⟨"BearerKin", "isKin", "(I)Z"⟩, 18) := ⟨⟨by decide +kernel, by decide +kernel⟩, List.mem_of_getElem? (i := 23) (by decide +kernel), List.mem_of_getElem? (i := 807) (by decide +kernel), List.mem_of_getElem? (i := 808) (by decide +kernel)⟩
theorem lw_p18 : lw_okq (⟨"BearerKin$Hours", "mayGo", "(IIIII)Z"⟩, 10) := ⟨⟨by decide +kernel, by decide +kernel⟩, List.mem_of_getElem? (i := 260) (by decide +kernel), List.mem_of_getElem? (i := 843) (by decide +kernel), List.mem_of_getElem? (i := 844) (by decide +kernel)⟩
theorem lw_p19 : lw_okq (⟨"BearerKin$Hours", "setFacts", "(IIIII)V"⟩, 10) := ⟨⟨by decide +kernel, by decide +kernel⟩, List.mem_of_getElem? (i := 260) (by decide +kernel), List.mem_of_getElem? (i := 847) (by decide +kernel), List.mem_of_getElem? (i := 848) (by decide +kernel)⟩
theorem lw_p20 : lw_okq (⟨"BearerKin$Hours", "tell", "(II)I"⟩, 10) := ⟨⟨by decide +kernel, by decide +kernel⟩, List.mem_of_getElem? (i := 260) (by decide +kernel), List.mem_of_getElem? (i := 851) (by decide +kernel), List.mem_of_getElem? (i := 852) (by decide +kernel)⟩
theorem lw_p21 : lw_okq (⟨"BearerKin$Hours", "join", "(IJJ)I"⟩, 10) := ⟨⟨by decide +kernel, by decide +kernel⟩, List.mem_of_getElem? (i := 260) (by decide +kernel), List.mem_of_getElem? (i := 855) (by decide +kernel), List.mem_of_getElem? (i := 856) (by decide +kernel)⟩
theorem lw_p22 : lw_okq (⟨"BearerKin$Hours", "tire", "(IIIII)I"⟩, 10) := ⟨⟨by decide +kernel, by decide +kernel⟩, List.mem_of_getElem? (i := 260) (by decide +kernel), List.mem_of_getElem? (i := 880) (by decide +kernel), List.mem_of_getElem? (i := 881) (by decide +kernel)⟩
theorem lw_p23 : lw_okq (⟨"BearerKin$Hours", "add", "(II)V"⟩, 10) := ⟨⟨by decide +kernel, by decide +kernel⟩, List.mem_of_getElem? (i := 260) (by decide +kernel), List.mem_of_getElem? (i := 890) (by decide +kernel), List.mem_of_getElem? (i := 891) (by decide +kernel)⟩
theorem lw_p24 : lw_okq (⟨"BearerKin$Hours", "with", "(III)I"⟩, 10) := ⟨⟨by decide +kernel, by decide +kernel⟩, List.mem_of_getElem? (i := 260) (by decide +kernel), List.mem_of_getElem? (i := 894) (by decide +kernel), List.mem_of_getElem? (i := 895) (by decide +kernel)⟩
theorem lw_p25 : lw_okq (⟨"BearerKin", "remember", "(LBearerKin$Moment;)V"⟩, 18) := ⟨⟨by decide +kernel, by decide +kernel⟩, List.mem_of_getElem? (i := 23) (by decide +kernel), List.mem_of_getElem? (i := 902) (by decide +kernel), List.mem_of_getElem? (i := 903) (by decide +kernel)⟩
theorem lw_p26 : lw_okq (⟨"BearerKin", "isTray", "(I)Z"⟩, 18) := ⟨⟨by decide +kernel, by decide +kernel⟩, List.mem_of_getElem? (i := 23) (by decide +kernel), List.mem_of_getElem? (i := 942) (by decide +kernel), List.mem_of_getElem? (i := 943) (by decide +kernel)⟩
theorem lw_p27 : lw_okq (⟨"BearerKin", "actAll", "(LBearerKin$Moment;I)I"⟩, 18) := ⟨⟨by decide +kernel, by decide +kernel⟩, List.mem_of_getElem? (i := 23) (by decide +kernel), List.mem_of_getElem? (i := 950) (by decide +kernel), List.mem_of_getElem? (i := 951) (by decide +kernel)⟩
theorem lw_p28 : lw_okq (⟨"BearerKin", "numberOf", "(II)J"⟩, 18) := ⟨⟨by decide +kernel, by decide +kernel⟩, List.mem_of_getElem? (i := 23) (by decide +kernel), List.mem_of_getElem? (i := 954) (by decide +kernel), List.mem_of_getElem? (i := 955) (by decide +kernel)⟩
theorem lw_p29 : lw_okq (⟨"BearerKin$Told", "draw", "(I)I"⟩, 7) := ⟨⟨by decide +kernel, by decide +kernel⟩, List.mem_of_getElem? (i := 449) (by decide +kernel), List.mem_of_getElem? (i := 983) (by decide +kernel), List.mem_of_getElem? (i := 984) (by decide +kernel)⟩
theorem lw_p30 : lw_okq (⟨"BearerKin$Keeping", "prepare", "(LBearerKin$Hours;)V"⟩, 7) := ⟨⟨by decide +kernel, by decide +kernel⟩, List.mem_of_getElem? (i := 368) (by decide +kernel), List.mem_of_getElem? (i := 996) (by decide +kernel), List.mem_of_getElem? (i := 997) (by decide +kernel)⟩
theorem lw_p31 : lw_okq (⟨"BearerKin$Keeping", "solve", "(LBearerKin$Hours;[III)V"⟩, 7) := ⟨⟨by decide +kernel, by decide +kernel⟩, List.mem_of_getElem? (i := 368) (by decide +kernel), List.mem_of_getElem? (i := 1010) (by decide +kernel), List.mem_of_getElem? (i := 1011) (by decide +kernel)⟩
def lw_privs_2 : List (MethodName × Nat) := [(⟨"BearerKin", "isPlace", "(I)Z"⟩, 18), (⟨"BearerKin", "isKin", "(I)Z"⟩, 18), (⟨"BearerKin$Hours", "mayGo", "(IIIII)Z"⟩, 10), (⟨"BearerKin$Hours", "setFacts", "(IIIII)V"⟩, 10), (⟨"BearerKin$Hours", "tell", "(II)I"⟩, 10), (⟨"BearerKin$Hours", "join", "(IJJ)I"⟩, 10), (⟨"BearerKin$Hours", "tire", "(IIIII)I"⟩, 10), (⟨"BearerKin$Hours", "add", "(II)V"⟩, 10), (⟨"BearerKin$Hours", "with", "(III)I"⟩, 10), (⟨"BearerKin", "remember", "(LBearerKin$Moment;)V"⟩, 18), (⟨"BearerKin", "isTray", "(I)Z"⟩, 18), (⟨"BearerKin", "actAll", "(LBearerKin$Moment;I)I"⟩, 18), (⟨"BearerKin", "numberOf", "(II)J"⟩, 18), (⟨"BearerKin$Told", "draw", "(I)I"⟩, 7), (⟨"BearerKin$Keeping", "prepare", "(LBearerKin$Hours;)V"⟩, 7), (⟨"BearerKin$Keeping", "solve", "(LBearerKin$Hours;[III)V"⟩, 7)]
theorem lw_r2 : ∀ q ∈ lw_privs_2, lw_okq q := List.forall_mem_cons.mpr ⟨lw_p16, List.forall_mem_cons.mpr ⟨lw_p17, List.forall_mem_cons.mpr ⟨lw_p18, List.forall_mem_cons.mpr ⟨lw_p19, List.forall_mem_cons.mpr ⟨lw_p20, List.forall_mem_cons.mpr ⟨lw_p21, List.forall_mem_cons.mpr ⟨lw_p22, List.forall_mem_cons.mpr ⟨lw_p23, List.forall_mem_cons.mpr ⟨lw_p24, List.forall_mem_cons.mpr ⟨lw_p25, List.forall_mem_cons.mpr ⟨lw_p26, List.forall_mem_cons.mpr ⟨lw_p27, List.forall_mem_cons.mpr ⟨lw_p28, List.forall_mem_cons.mpr ⟨lw_p29, List.forall_mem_cons.mpr ⟨lw_p30, List.forall_mem_cons.mpr ⟨lw_p31, fun _ h => absurd h List.not_mem_nil⟩⟩⟩⟩⟩⟩⟩⟩⟩⟩⟩⟩⟩⟩⟩⟩
theorem lw_p32 : lw_okq (⟨"BearerKin$Keeping", "look", "(LBearerKin$Hours;[III)I"⟩, 7) := ⟨⟨by decide +kernel, by decide +kernel⟩, List.mem_of_getElem? (i := 368) (by decide +kernel), List.mem_of_getElem? (i := 1014) (by decide +kernel), List.mem_of_getElem? (i := 1015) (by decide +kernel)⟩
theorem lw_p33 : lw_okq (⟨"BearerKin$Keeping", "needs", "(II)Z"⟩, 7) := ⟨⟨by decide +kernel, by decide +kernel⟩, List.mem_of_getElem? (i := 368) (by decide +kernel), List.mem_of_getElem? (i := 1020) (by decide +kernel), List.mem_of_getElem? (i := 1021) (by decide +kernel)⟩
theorem lw_p34 : lw_okq (⟨"BearerKin$Rows", "goOn", "(LBearerKin$Hours;II)I"⟩, 7) := ⟨⟨by decide +kernel, by decide +kernel⟩, List.mem_of_getElem? (i := 396) (by decide +kernel), List.mem_of_getElem? (i := 1051) (by decide +kernel), List.mem_of_getElem? (i := 1052) (by decide +kernel)⟩
theorem lw_p35 : lw_okq (⟨"BearerKin$Rows", "goOneHour", "(LBearerKin$Hours;II)I"⟩, 7) := ⟨⟨by decide +kernel, by decide +kernel⟩, List.mem_of_getElem? (i := 396) (by decide +kernel), List.mem_of_getElem? (i := 1057) (by decide +kernel), List.mem_of_getElem? (i := 1058) (by decide +kernel)⟩
theorem lw_p36 : lw_okq (⟨"BearerKin$Rows", "fits", "(LBearerKin$County;II)Z"⟩, 7) := ⟨⟨by decide +kernel, by decide +kernel⟩, List.mem_of_getElem? (i := 396) (by decide +kernel), List.mem_of_getElem? (i := 1062) (by decide +kernel), List.mem_of_getElem? (i := 1063) (by decide +kernel)⟩
theorem lw_p37 : lw_okq (⟨"BearerKin$Rows", "forget", "(I)V"⟩, 7) := ⟨⟨by decide +kernel, by decide +kernel⟩, List.mem_of_getElem? (i := 396) (by decide +kernel), List.mem_of_getElem? (i := 1071) (by decide +kernel), List.mem_of_getElem? (i := 1072) (by decide +kernel)⟩
theorem lw_p38 : lw_okq (⟨"BearerKin", "isAim", "(II)Z"⟩, 18) := ⟨⟨by decide +kernel, by decide +kernel⟩, List.mem_of_getElem? (i := 23) (by decide +kernel), List.mem_of_getElem? (i := 1093) (by decide +kernel), List.mem_of_getElem? (i := 1094) (by decide +kernel)⟩
theorem lw_p39 : lw_okq (⟨"BearerKin", "come", "(II)I"⟩, 18) := ⟨⟨by decide +kernel, by decide +kernel⟩, List.mem_of_getElem? (i := 23) (by decide +kernel), List.mem_of_getElem? (i := 1097) (by decide +kernel), List.mem_of_getElem? (i := 1098) (by decide +kernel)⟩
theorem lw_p40 : lw_okq (⟨"BearerKin$Coming", "searchOn", "(LBearerKin$Hours;I)V"⟩, 7) := ⟨⟨by decide +kernel, by decide +kernel⟩, List.mem_of_getElem? (i := 340) (by decide +kernel), List.mem_of_getElem? (i := 1112) (by decide +kernel), List.mem_of_getElem? (i := 1113) (by decide +kernel)⟩
theorem lw_p41 : lw_okq (⟨"BearerKin", "expectSeen", "(II)I"⟩, 18) := ⟨⟨by decide +kernel, by decide +kernel⟩, List.mem_of_getElem? (i := 23) (by decide +kernel), List.mem_of_getElem? (i := 1154) (by decide +kernel), List.mem_of_getElem? (i := 1155) (by decide +kernel)⟩
theorem lw_p42 : lw_okq (⟨"BearerKin", "refuseTray", "(IIII)I"⟩, 18) := ⟨⟨by decide +kernel, by decide +kernel⟩, List.mem_of_getElem? (i := 23) (by decide +kernel), List.mem_of_getElem? (i := 1158) (by decide +kernel), List.mem_of_getElem? (i := 1159) (by decide +kernel)⟩
theorem lw_p43 : lw_okq (⟨"BearerKin$Rows", "firstStep", "(LBearerKin$Hours;II)I"⟩, 7) := ⟨⟨by decide +kernel, by decide +kernel⟩, List.mem_of_getElem? (i := 396) (by decide +kernel), List.mem_of_getElem? (i := 1175) (by decide +kernel), List.mem_of_getElem? (i := 1176) (by decide +kernel)⟩
theorem lw_p44 : lw_okq (⟨"BearerKin$Rows", "canGoOn", "(LBearerKin$Hours;II)Z"⟩, 7) := ⟨⟨by decide +kernel, by decide +kernel⟩, List.mem_of_getElem? (i := 396) (by decide +kernel), List.mem_of_getElem? (i := 1180) (by decide +kernel), List.mem_of_getElem? (i := 1181) (by decide +kernel)⟩
theorem lw_p45 : lw_okq (⟨"BearerKin", "expectTired", "(I)I"⟩, 18) := ⟨⟨by decide +kernel, by decide +kernel⟩, List.mem_of_getElem? (i := 23) (by decide +kernel), List.mem_of_getElem? (i := 1197) (by decide +kernel), List.mem_of_getElem? (i := 1198) (by decide +kernel)⟩
theorem lw_p46 : lw_okq (⟨"BearerKin$Told", "tiresSo", "(LBearerKin$Hours;I)Z"⟩, 7) := ⟨⟨by decide +kernel, by decide +kernel⟩, List.mem_of_getElem? (i := 449) (by decide +kernel), List.mem_of_getElem? (i := 1215) (by decide +kernel), List.mem_of_getElem? (i := 1216) (by decide +kernel)⟩
theorem lw_p47 : lw_okq (⟨"BearerKin$Told", "mostAlike", "(LBearerKin$Hours;III)I"⟩, 7) := ⟨⟨by decide +kernel, by decide +kernel⟩, List.mem_of_getElem? (i := 449) (by decide +kernel), List.mem_of_getElem? (i := 1230) (by decide +kernel), List.mem_of_getElem? (i := 1231) (by decide +kernel)⟩
def lw_privs_3 : List (MethodName × Nat) := [(⟨"BearerKin$Keeping", "look", "(LBearerKin$Hours;[III)I"⟩, 7), (⟨"BearerKin$Keeping", "needs", "(II)Z"⟩, 7), (⟨"BearerKin$Rows", "goOn", "(LBearerKin$Hours;II)I"⟩, 7), (⟨"BearerKin$Rows", "goOneHour", "(LBearerKin$Hours;II)I"⟩, 7), (⟨"BearerKin$Rows", "fits", "(LBearerKin$County;II)Z"⟩, 7), (⟨"BearerKin$Rows", "forget", "(I)V"⟩, 7), (⟨"BearerKin", "isAim", "(II)Z"⟩, 18), (⟨"BearerKin", "come", "(II)I"⟩, 18), (⟨"BearerKin$Coming", "searchOn", "(LBearerKin$Hours;I)V"⟩, 7), (⟨"BearerKin", "expectSeen", "(II)I"⟩, 18), (⟨"BearerKin", "refuseTray", "(IIII)I"⟩, 18), (⟨"BearerKin$Rows", "firstStep", "(LBearerKin$Hours;II)I"⟩, 7), (⟨"BearerKin$Rows", "canGoOn", "(LBearerKin$Hours;II)Z"⟩, 7), (⟨"BearerKin", "expectTired", "(I)I"⟩, 18), (⟨"BearerKin$Told", "tiresSo", "(LBearerKin$Hours;I)Z"⟩, 7), (⟨"BearerKin$Told", "mostAlike", "(LBearerKin$Hours;III)I"⟩, 7)]
theorem lw_r3 : ∀ q ∈ lw_privs_3, lw_okq q := List.forall_mem_cons.mpr ⟨lw_p32, List.forall_mem_cons.mpr ⟨lw_p33, List.forall_mem_cons.mpr ⟨lw_p34, List.forall_mem_cons.mpr ⟨lw_p35, List.forall_mem_cons.mpr ⟨lw_p36, List.forall_mem_cons.mpr ⟨lw_p37, List.forall_mem_cons.mpr ⟨lw_p38, List.forall_mem_cons.mpr ⟨lw_p39, List.forall_mem_cons.mpr ⟨lw_p40, List.forall_mem_cons.mpr ⟨lw_p41, List.forall_mem_cons.mpr ⟨lw_p42, List.forall_mem_cons.mpr ⟨lw_p43, List.forall_mem_cons.mpr ⟨lw_p44, List.forall_mem_cons.mpr ⟨lw_p45, List.forall_mem_cons.mpr ⟨lw_p46, List.forall_mem_cons.mpr ⟨lw_p47, fun _ h => absurd h List.not_mem_nil⟩⟩⟩⟩⟩⟩⟩⟩⟩⟩⟩⟩⟩⟩⟩⟩
theorem lw_p48 : lw_okq (⟨"BearerKin$Beast", "meetAll", "(LBearerKin$Hours;I)V"⟩, 5) := ⟨⟨by decide +kernel, by decide +kernel⟩, List.mem_of_getElem? (i := 427) (by decide +kernel), List.mem_of_getElem? (i := 1249) (by decide +kernel), List.mem_of_getElem? (i := 1250) (by decide +kernel)⟩
theorem lw_p49 : lw_okq (⟨"BearerKin$Beast", "meet", "(I)V"⟩, 5) := ⟨⟨by decide +kernel, by decide +kernel⟩, List.mem_of_getElem? (i := 427) (by decide +kernel), List.mem_of_getElem? (i := 1253) (by decide +kernel), List.mem_of_getElem? (i := 1254) (by decide +kernel)⟩
theorem lw_p50 : lw_okq (⟨"BearerKin$Beast", "sweep", "(LBearerKin$Hours;I)Z"⟩, 5) := ⟨⟨by decide +kernel, by decide +kernel⟩, List.mem_of_getElem? (i := 427) (by decide +kernel), List.mem_of_getElem? (i := 1265) (by decide +kernel), List.mem_of_getElem? (i := 1266) (by decide +kernel)⟩
theorem lw_p51 : lw_okq (⟨"BearerKin$Beast", "holds", "(II)Z"⟩, 5) := ⟨⟨by decide +kernel, by decide +kernel⟩, List.mem_of_getElem? (i := 427) (by decide +kernel), List.mem_of_getElem? (i := 1269) (by decide +kernel), List.mem_of_getElem? (i := 1270) (by decide +kernel)⟩
theorem lw_p52 : lw_okq (⟨"BearerKin$Beast", "newWitness", "(LBearerKin$Hours;II)I"⟩, 5) := ⟨⟨by decide +kernel, by decide +kernel⟩, List.mem_of_getElem? (i := 427) (by decide +kernel), List.mem_of_getElem? (i := 1273) (by decide +kernel), List.mem_of_getElem? (i := 1274) (by decide +kernel)⟩
theorem lw_p53 : lw_okq (⟨"BearerKin", "expectLots", "(II)I"⟩, 18) := ⟨⟨by decide +kernel, by decide +kernel⟩, List.mem_of_getElem? (i := 23) (by decide +kernel), List.mem_of_getElem? (i := 1293) (by decide +kernel), List.mem_of_getElem? (i := 1294) (by decide +kernel)⟩
theorem lw_p54 : lw_okq (⟨"BearerKin$Told", "weigh", "(LBearerKin$Hours;III)V"⟩, 7) := ⟨⟨by decide +kernel, by decide +kernel⟩, List.mem_of_getElem? (i := 449) (by decide +kernel), List.mem_of_getElem? (i := 1302) (by decide +kernel), List.mem_of_getElem? (i := 1303) (by decide +kernel)⟩
theorem lw_p55 : lw_okq (⟨"BearerKin$Told", "settle", "(LBearerKin$County;II)V"⟩, 7) := ⟨⟨by decide +kernel, by decide +kernel⟩, List.mem_of_getElem? (i := 449) (by decide +kernel), List.mem_of_getElem? (i := 1307) (by decide +kernel), List.mem_of_getElem? (i := 1308) (by decide +kernel)⟩
theorem lw_p56 : lw_okq (⟨"BearerKin", "store", "(IIJ)J"⟩, 18) := ⟨⟨by decide +kernel, by decide +kernel⟩, List.mem_of_getElem? (i := 23) (by decide +kernel), List.mem_of_getElem? (i := 1338) (by decide +kernel), List.mem_of_getElem? (i := 1339) (by decide +kernel)⟩
theorem lw_p57 : lw_okq (⟨"BearerKinModel", "next", "()V"⟩, 36) := ⟨⟨by decide +kernel, by decide +kernel⟩, List.mem_of_getElem? (i := 1360) (by decide +kernel), List.mem_of_getElem? (i := 1494) (by decide +kernel), List.mem_of_getElem? (i := 1495) (by decide +kernel)⟩
theorem lw_p58 : lw_okq (⟨"BearerKinModel", "see", "(I)I"⟩, 36) := ⟨⟨by decide +kernel, by decide +kernel⟩, List.mem_of_getElem? (i := 1360) (by decide +kernel), List.mem_of_getElem? (i := 1498) (by decide +kernel), List.mem_of_getElem? (i := 1499) (by decide +kernel)⟩
theorem lw_p59 : lw_okq (⟨"BearerKinModel", "keyAt", "()I"⟩, 36) := ⟨⟨by decide +kernel, by decide +kernel⟩, List.mem_of_getElem? (i := 1360) (by decide +kernel), List.mem_of_getElem? (i := 1505) (by decide +kernel), List.mem_of_getElem? (i := 1506) (by decide +kernel)⟩
theorem lw_p60 : lw_okq (⟨"BearerKinModel", "eats", "(I)Z"⟩, 36) := ⟨⟨by decide +kernel, by decide +kernel⟩, List.mem_of_getElem? (i := 1360) (by decide +kernel), List.mem_of_getElem? (i := 1516) (by decide +kernel), List.mem_of_getElem? (i := 1517) (by decide +kernel)⟩
theorem lw_p61 : lw_okq (⟨"BearerKinModel", "is", "(I)Z"⟩, 36) := ⟨⟨by decide +kernel, by decide +kernel⟩, List.mem_of_getElem? (i := 1360) (by decide +kernel), List.mem_of_getElem? (i := 1520) (by decide +kernel), List.mem_of_getElem? (i := 1521) (by decide +kernel)⟩
theorem lw_p62 : lw_okq (⟨"BearerKinModel", "fails", "(I)V"⟩, 36) := ⟨⟨by decide +kernel, by decide +kernel⟩, List.mem_of_getElem? (i := 1360) (by decide +kernel), List.mem_of_getElem? (i := 1524) (by decide +kernel), List.mem_of_getElem? (i := 1525) (by decide +kernel)⟩
theorem lw_p63 : lw_okq (⟨"BearerKinModel", "takes", "(II)I"⟩, 36) := ⟨⟨by decide +kernel, by decide +kernel⟩, List.mem_of_getElem? (i := 1360) (by decide +kernel), List.mem_of_getElem? (i := 1528) (by decide +kernel), List.mem_of_getElem? (i := 1529) (by decide +kernel)⟩
def lw_privs_4 : List (MethodName × Nat) := [(⟨"BearerKin$Beast", "meetAll", "(LBearerKin$Hours;I)V"⟩, 5), (⟨"BearerKin$Beast", "meet", "(I)V"⟩, 5), (⟨"BearerKin$Beast", "sweep", "(LBearerKin$Hours;I)Z"⟩, 5), (⟨"BearerKin$Beast", "holds", "(II)Z"⟩, 5), (⟨"BearerKin$Beast", "newWitness", "(LBearerKin$Hours;II)I"⟩, 5), (⟨"BearerKin", "expectLots", "(II)I"⟩, 18), (⟨"BearerKin$Told", "weigh", "(LBearerKin$Hours;III)V"⟩, 7), (⟨"BearerKin$Told", "settle", "(LBearerKin$County;II)V"⟩, 7), (⟨"BearerKin", "store", "(IIJ)J"⟩, 18), (⟨"BearerKinModel", "next", "()V"⟩, 36), (⟨"BearerKinModel", "see", "(I)I"⟩, 36), (⟨"BearerKinModel", "keyAt", "()I"⟩, 36), (⟨"BearerKinModel", "eats", "(I)Z"⟩, 36), (⟨"BearerKinModel", "is", "(I)Z"⟩, 36), (⟨"BearerKinModel", "fails", "(I)V"⟩, 36), (⟨"BearerKinModel", "takes", "(II)I"⟩, 36)]
theorem lw_r4 : ∀ q ∈ lw_privs_4, lw_okq q := List.forall_mem_cons.mpr ⟨lw_p48, List.forall_mem_cons.mpr ⟨lw_p49, List.forall_mem_cons.mpr ⟨lw_p50, List.forall_mem_cons.mpr ⟨lw_p51, List.forall_mem_cons.mpr ⟨lw_p52, List.forall_mem_cons.mpr ⟨lw_p53, List.forall_mem_cons.mpr ⟨lw_p54, List.forall_mem_cons.mpr ⟨lw_p55, List.forall_mem_cons.mpr ⟨lw_p56, List.forall_mem_cons.mpr ⟨lw_p57, List.forall_mem_cons.mpr ⟨lw_p58, List.forall_mem_cons.mpr ⟨lw_p59, List.forall_mem_cons.mpr ⟨lw_p60, List.forall_mem_cons.mpr ⟨lw_p61, List.forall_mem_cons.mpr ⟨lw_p62, List.forall_mem_cons.mpr ⟨lw_p63, fun _ h => absurd h List.not_mem_nil⟩⟩⟩⟩⟩⟩⟩⟩⟩⟩⟩⟩⟩⟩⟩⟩
theorem lw_p64 : lw_okq (⟨"BearerKinModel", "ends", "()V"⟩, 36) := ⟨⟨by decide +kernel, by decide +kernel⟩, List.mem_of_getElem? (i := 1360) (by decide +kernel), List.mem_of_getElem? (i := 1532) (by decide +kernel), List.mem_of_getElem? (i := 1533) (by decide +kernel)⟩
theorem lw_p65 : lw_okq (⟨"BearerKinModel", "readLine", "()V"⟩, 36) := ⟨⟨by decide +kernel, by decide +kernel⟩, List.mem_of_getElem? (i := 1360) (by decide +kernel), List.mem_of_getElem? (i := 1536) (by decide +kernel), List.mem_of_getElem? (i := 1537) (by decide +kernel)⟩
theorem lw_p66 : lw_okq (⟨"BearerKinModel", "readHeight", "()V"⟩, 36) := ⟨⟨by decide +kernel, by decide +kernel⟩, List.mem_of_getElem? (i := 1360) (by decide +kernel), List.mem_of_getElem? (i := 1540) (by decide +kernel), List.mem_of_getElem? (i := 1541) (by decide +kernel)⟩
theorem lw_p67 : lw_okq (⟨"BearerKinModel", "readWay", "()V"⟩, 36) := ⟨⟨by decide +kernel, by decide +kernel⟩, List.mem_of_getElem? (i := 1360) (by decide +kernel), List.mem_of_getElem? (i := 1544) (by decide +kernel), List.mem_of_getElem? (i := 1545) (by decide +kernel)⟩
theorem lw_p68 : lw_okq (⟨"BearerKinModel", "readKin", "()V"⟩, 36) := ⟨⟨by decide +kernel, by decide +kernel⟩, List.mem_of_getElem? (i := 1360) (by decide +kernel), List.mem_of_getElem? (i := 1548) (by decide +kernel), List.mem_of_getElem? (i := 1549) (by decide +kernel)⟩
theorem lw_p69 : lw_okq (⟨"BearerKinModel", "readFlag", "(I)Z"⟩, 36) := ⟨⟨by decide +kernel, by decide +kernel⟩, List.mem_of_getElem? (i := 1360) (by decide +kernel), List.mem_of_getElem? (i := 1552) (by decide +kernel), List.mem_of_getElem? (i := 1553) (by decide +kernel)⟩
theorem lw_p70 : lw_okq (⟨"BearerKinModel", "readLaw", "(I)V"⟩, 36) := ⟨⟨by decide +kernel, by decide +kernel⟩, List.mem_of_getElem? (i := 1360) (by decide +kernel), List.mem_of_getElem? (i := 1556) (by decide +kernel), List.mem_of_getElem? (i := 1557) (by decide +kernel)⟩
theorem lw_p71 : lw_okq (⟨"BearerKinModel", "readSum", "(I)V"⟩, 36) := ⟨⟨by decide +kernel, by decide +kernel⟩, List.mem_of_getElem? (i := 1360) (by decide +kernel), List.mem_of_getElem? (i := 1560) (by decide +kernel), List.mem_of_getElem? (i := 1561) (by decide +kernel)⟩
theorem lw_p72 : lw_okq (⟨"BearerKinModel", "readTerm", "(I)V"⟩, 36) := ⟨⟨by decide +kernel, by decide +kernel⟩, List.mem_of_getElem? (i := 1360) (by decide +kernel), List.mem_of_getElem? (i := 1564) (by decide +kernel), List.mem_of_getElem? (i := 1565) (by decide +kernel)⟩
theorem lw_p73 : lw_okq (⟨"BearerKinModel", "readAtom", "(I)V"⟩, 36) := ⟨⟨by decide +kernel, by decide +kernel⟩, List.mem_of_getElem? (i := 1360) (by decide +kernel), List.mem_of_getElem? (i := 1568) (by decide +kernel), List.mem_of_getElem? (i := 1569) (by decide +kernel)⟩
theorem lw_p74 : lw_okq (⟨"BearerKinModel", "codes", "(I)V"⟩, 36) := ⟨⟨by decide +kernel, by decide +kernel⟩, List.mem_of_getElem? (i := 1360) (by decide +kernel), List.mem_of_getElem? (i := 1572) (by decide +kernel), List.mem_of_getElem? (i := 1573) (by decide +kernel)⟩
theorem lw_p75 : lw_okq (⟨"BearerKinModel", "wordOf", "(I)I"⟩, 36) := ⟨⟨by decide +kernel, by decide +kernel⟩, List.mem_of_getElem? (i := 1360) (by decide +kernel), List.mem_of_getElem? (i := 1576) (by decide +kernel), List.mem_of_getElem? (i := 1577) (by decide +kernel)⟩
theorem lw_p76 : lw_okq (⟨"BearerKinModel", "goesIn", "(I)Z"⟩, 36) := ⟨⟨by decide +kernel, by decide +kernel⟩, List.mem_of_getElem? (i := 1360) (by decide +kernel), List.mem_of_getElem? (i := 1580) (by decide +kernel), List.mem_of_getElem? (i := 1581) (by decide +kernel)⟩
theorem lw_p77 : lw_okq (⟨"BearerKinModel", "readIf", "(I)V"⟩, 36) := ⟨⟨by decide +kernel, by decide +kernel⟩, List.mem_of_getElem? (i := 1360) (by decide +kernel), List.mem_of_getElem? (i := 1584) (by decide +kernel), List.mem_of_getElem? (i := 1585) (by decide +kernel)⟩
theorem lw_p78 : lw_okq (⟨"BearerKinModel", "readTruth", "(I)V"⟩, 36) := ⟨⟨by decide +kernel, by decide +kernel⟩, List.mem_of_getElem? (i := 1360) (by decide +kernel), List.mem_of_getElem? (i := 1588) (by decide +kernel), List.mem_of_getElem? (i := 1589) (by decide +kernel)⟩
theorem lw_p79 : lw_okq (⟨"BearerKinModel", "readBoth", "(I)V"⟩, 36) := ⟨⟨by decide +kernel, by decide +kernel⟩, List.mem_of_getElem? (i := 1360) (by decide +kernel), List.mem_of_getElem? (i := 1592) (by decide +kernel), List.mem_of_getElem? (i := 1593) (by decide +kernel)⟩
def lw_privs_5 : List (MethodName × Nat) := [(⟨"BearerKinModel", "ends", "()V"⟩, 36), (⟨"BearerKinModel", "readLine", "()V"⟩, 36), (⟨"BearerKinModel", "readHeight", "()V"⟩, 36), (⟨"BearerKinModel", "readWay", "()V"⟩, 36), (⟨"BearerKinModel", "readKin", "()V"⟩, 36), (⟨"BearerKinModel", "readFlag", "(I)Z"⟩, 36), (⟨"BearerKinModel", "readLaw", "(I)V"⟩, 36), (⟨"BearerKinModel", "readSum", "(I)V"⟩, 36), (⟨"BearerKinModel", "readTerm", "(I)V"⟩, 36), (⟨"BearerKinModel", "readAtom", "(I)V"⟩, 36), (⟨"BearerKinModel", "codes", "(I)V"⟩, 36), (⟨"BearerKinModel", "wordOf", "(I)I"⟩, 36), (⟨"BearerKinModel", "goesIn", "(I)Z"⟩, 36), (⟨"BearerKinModel", "readIf", "(I)V"⟩, 36), (⟨"BearerKinModel", "readTruth", "(I)V"⟩, 36), (⟨"BearerKinModel", "readBoth", "(I)V"⟩, 36)]
theorem lw_r5 : ∀ q ∈ lw_privs_5, lw_okq q := List.forall_mem_cons.mpr ⟨lw_p64, List.forall_mem_cons.mpr ⟨lw_p65, List.forall_mem_cons.mpr ⟨lw_p66, List.forall_mem_cons.mpr ⟨lw_p67, List.forall_mem_cons.mpr ⟨lw_p68, List.forall_mem_cons.mpr ⟨lw_p69, List.forall_mem_cons.mpr ⟨lw_p70, List.forall_mem_cons.mpr ⟨lw_p71, List.forall_mem_cons.mpr ⟨lw_p72, List.forall_mem_cons.mpr ⟨lw_p73, List.forall_mem_cons.mpr ⟨lw_p74, List.forall_mem_cons.mpr ⟨lw_p75, List.forall_mem_cons.mpr ⟨lw_p76, List.forall_mem_cons.mpr ⟨lw_p77, List.forall_mem_cons.mpr ⟨lw_p78, List.forall_mem_cons.mpr ⟨lw_p79, fun _ h => absurd h List.not_mem_nil⟩⟩⟩⟩⟩⟩⟩⟩⟩⟩⟩⟩⟩⟩⟩⟩
theorem lw_p80 : lw_okq (⟨"BearerKinModel", "readUnit", "(I)V"⟩, 36) := ⟨⟨by decide +kernel, by decide +kernel⟩, List.mem_of_getElem? (i := 1360) (by decide +kernel), List.mem_of_getElem? (i := 1596) (by decide +kernel), List.mem_of_getElem? (i := 1597) (by decide +kernel)⟩
theorem lw_p81 : lw_okq (⟨"BearerKinModel", "isPlace", "(J)Z"⟩, 36) := ⟨⟨by decide +kernel, by decide +kernel⟩, List.mem_of_getElem? (i := 1360) (by decide +kernel), List.mem_of_getElem? (i := 1608) (by decide +kernel), List.mem_of_getElem? (i := 1609) (by decide +kernel)⟩
theorem lw_p82 : lw_okq (⟨"BearerKinModel", "isKin", "(J)Z"⟩, 36) := ⟨⟨by decide +kernel, by decide +kernel⟩, List.mem_of_getElem? (i := 1360) (by decide +kernel), List.mem_of_getElem? (i := 1616) (by decide +kernel), List.mem_of_getElem? (i := 1617) (by decide +kernel)⟩
theorem lw_p83 : lw_okq (⟨"BearerKinModel", "whyHour", "(J)I"⟩, 36) := ⟨⟨by decide +kernel, by decide +kernel⟩, List.mem_of_getElem? (i := 1360) (by decide +kernel), List.mem_of_getElem? (i := 1624) (by decide +kernel), List.mem_of_getElem? (i := 1625) (by decide +kernel)⟩
theorem lw_p84 : lw_okq (⟨"BearerKinModel", "moveOf", "(J)I"⟩, 36) := ⟨⟨by decide +kernel, by decide +kernel⟩, List.mem_of_getElem? (i := 1360) (by decide +kernel), List.mem_of_getElem? (i := 1628) (by decide +kernel), List.mem_of_getElem? (i := 1629) (by decide +kernel)⟩
theorem lw_p85 : lw_okq (⟨"BearerKinModel", "standNow", "()I"⟩, 36) := ⟨⟨by decide +kernel, by decide +kernel⟩, List.mem_of_getElem? (i := 1360) (by decide +kernel), List.mem_of_getElem? (i := 1636) (by decide +kernel), List.mem_of_getElem? (i := 1637) (by decide +kernel)⟩
theorem lw_p86 : lw_okq (⟨"BearerKinModel", "whyBy", "(III)I"⟩, 36) := ⟨⟨by decide +kernel, by decide +kernel⟩, List.mem_of_getElem? (i := 1360) (by decide +kernel), List.mem_of_getElem? (i := 1640) (by decide +kernel), List.mem_of_getElem? (i := 1641) (by decide +kernel)⟩
theorem lw_p87 : lw_okq (⟨"BearerKinModel", "isDown", "(I)Z"⟩, 36) := ⟨⟨by decide +kernel, by decide +kernel⟩, List.mem_of_getElem? (i := 1360) (by decide +kernel), List.mem_of_getElem? (i := 1644) (by decide +kernel), List.mem_of_getElem? (i := 1645) (by decide +kernel)⟩
theorem lw_p88 : lw_okq (⟨"BearerKinModel", "mayGo", "(IIII)Z"⟩, 36) := ⟨⟨by decide +kernel, by decide +kernel⟩, List.mem_of_getElem? (i := 1360) (by decide +kernel), List.mem_of_getElem? (i := 1660) (by decide +kernel), List.mem_of_getElem? (i := 1661) (by decide +kernel)⟩
theorem lw_p89 : lw_okq (⟨"BearerKinModel", "reckons", "(IIIIII)I"⟩, 36) := ⟨⟨by decide +kernel, by decide +kernel⟩, List.mem_of_getElem? (i := 1360) (by decide +kernel), List.mem_of_getElem? (i := 1664) (by decide +kernel), List.mem_of_getElem? (i := 1665) (by decide +kernel)⟩
theorem lw_p90 : lw_okq (⟨"BearerKinModel", "hourTo", "(III)I"⟩, 36) := ⟨⟨by decide +kernel, by decide +kernel⟩, List.mem_of_getElem? (i := 1360) (by decide +kernel), List.mem_of_getElem? (i := 1677) (by decide +kernel), List.mem_of_getElem? (i := 1678) (by decide +kernel)⟩
theorem lw_p91 : lw_okq (⟨"BearerKinModel", "tiredTo", "(IIII)I"⟩, 36) := ⟨⟨by decide +kernel, by decide +kernel⟩, List.mem_of_getElem? (i := 1360) (by decide +kernel), List.mem_of_getElem? (i := 1684) (by decide +kernel), List.mem_of_getElem? (i := 1685) (by decide +kernel)⟩
theorem lw_p92 : lw_okq (⟨"BearerKinModel", "keeps", "()V"⟩, 36) := ⟨⟨by decide +kernel, by decide +kernel⟩, List.mem_of_getElem? (i := 1360) (by decide +kernel), List.mem_of_getElem? (i := 1695) (by decide +kernel), List.mem_of_getElem? (i := 1696) (by decide +kernel)⟩
theorem lw_p93 : lw_okq (⟨"BearerKinModel", "goesHour", "(I)V"⟩, 36) := ⟨⟨by decide +kernel, by decide +kernel⟩, List.mem_of_getElem? (i := 1360) (by decide +kernel), List.mem_of_getElem? (i := 1699) (by decide +kernel), List.mem_of_getElem? (i := 1700) (by decide +kernel)⟩
theorem lw_p94 : lw_okq (⟨"BearerKinModel", "isStand", "(I)V"⟩, 36) := ⟨⟨by decide +kernel, by decide +kernel⟩, List.mem_of_getElem? (i := 1360) (by decide +kernel), List.mem_of_getElem? (i := 1703) (by decide +kernel), List.mem_of_getElem? (i := 1704) (by decide +kernel)⟩
theorem lw_p95 : lw_okq (⟨"BearerKinModel", "notes", "()V"⟩, 36) := ⟨⟨by decide +kernel, by decide +kernel⟩, List.mem_of_getElem? (i := 1360) (by decide +kernel), List.mem_of_getElem? (i := 1707) (by decide +kernel), List.mem_of_getElem? (i := 1708) (by decide +kernel)⟩
def lw_privs_6 : List (MethodName × Nat) := [(⟨"BearerKinModel", "readUnit", "(I)V"⟩, 36), (⟨"BearerKinModel", "isPlace", "(J)Z"⟩, 36), (⟨"BearerKinModel", "isKin", "(J)Z"⟩, 36), (⟨"BearerKinModel", "whyHour", "(J)I"⟩, 36), (⟨"BearerKinModel", "moveOf", "(J)I"⟩, 36), (⟨"BearerKinModel", "standNow", "()I"⟩, 36), (⟨"BearerKinModel", "whyBy", "(III)I"⟩, 36), (⟨"BearerKinModel", "isDown", "(I)Z"⟩, 36), (⟨"BearerKinModel", "mayGo", "(IIII)Z"⟩, 36), (⟨"BearerKinModel", "reckons", "(IIIIII)I"⟩, 36), (⟨"BearerKinModel", "hourTo", "(III)I"⟩, 36), (⟨"BearerKinModel", "tiredTo", "(IIII)I"⟩, 36), (⟨"BearerKinModel", "keeps", "()V"⟩, 36), (⟨"BearerKinModel", "goesHour", "(I)V"⟩, 36), (⟨"BearerKinModel", "isStand", "(I)V"⟩, 36), (⟨"BearerKinModel", "notes", "()V"⟩, 36)]
theorem lw_r6 : ∀ q ∈ lw_privs_6, lw_okq q := List.forall_mem_cons.mpr ⟨lw_p80, List.forall_mem_cons.mpr ⟨lw_p81, List.forall_mem_cons.mpr ⟨lw_p82, List.forall_mem_cons.mpr ⟨lw_p83, List.forall_mem_cons.mpr ⟨lw_p84, List.forall_mem_cons.mpr ⟨lw_p85, List.forall_mem_cons.mpr ⟨lw_p86, List.forall_mem_cons.mpr ⟨lw_p87, List.forall_mem_cons.mpr ⟨lw_p88, List.forall_mem_cons.mpr ⟨lw_p89, List.forall_mem_cons.mpr ⟨lw_p90, List.forall_mem_cons.mpr ⟨lw_p91, List.forall_mem_cons.mpr ⟨lw_p92, List.forall_mem_cons.mpr ⟨lw_p93, List.forall_mem_cons.mpr ⟨lw_p94, List.forall_mem_cons.mpr ⟨lw_p95, fun _ h => absurd h List.not_mem_nil⟩⟩⟩⟩⟩⟩⟩⟩⟩⟩⟩⟩⟩⟩⟩⟩
theorem lw_p96 : lw_okq (⟨"BearerKinModel", "noTray", "(I)I"⟩, 36) := ⟨⟨by decide +kernel, by decide +kernel⟩, List.mem_of_getElem? (i := 1360) (by decide +kernel), List.mem_of_getElem? (i := 1729) (by decide +kernel), List.mem_of_getElem? (i := 1730) (by decide +kernel)⟩
theorem lw_p97 : lw_okq (⟨"BearerKinModel", "tells", "(I)I"⟩, 36) := ⟨⟨by decide +kernel, by decide +kernel⟩, List.mem_of_getElem? (i := 1360) (by decide +kernel), List.mem_of_getElem? (i := 1733) (by decide +kernel), List.mem_of_getElem? (i := 1734) (by decide +kernel)⟩
theorem lw_p98 : lw_okq (⟨"BearerKinModel", "whyNot", "(J)I"⟩, 36) := ⟨⟨by decide +kernel, by decide +kernel⟩, List.mem_of_getElem? (i := 1360) (by decide +kernel), List.mem_of_getElem? (i := 1737) (by decide +kernel), List.mem_of_getElem? (i := 1738) (by decide +kernel)⟩
theorem lw_p99 : lw_okq (⟨"BearerKinModel", "does", "(I)V"⟩, 36) := ⟨⟨by decide +kernel, by decide +kernel⟩, List.mem_of_getElem? (i := 1360) (by decide +kernel), List.mem_of_getElem? (i := 1745) (by decide +kernel), List.mem_of_getElem? (i := 1746) (by decide +kernel)⟩
theorem lw_p100 : lw_okq (⟨"BearerKinModel", "whereNow", "()I"⟩, 36) := ⟨⟨by decide +kernel, by decide +kernel⟩, List.mem_of_getElem? (i := 1360) (by decide +kernel), List.mem_of_getElem? (i := 1749) (by decide +kernel), List.mem_of_getElem? (i := 1750) (by decide +kernel)⟩
theorem lw_p101 : lw_okq (⟨"BearerKinModel", "isAgain", "()V"⟩, 36) := ⟨⟨by decide +kernel, by decide +kernel⟩, List.mem_of_getElem? (i := 1360) (by decide +kernel), List.mem_of_getElem? (i := 1753) (by decide +kernel), List.mem_of_getElem? (i := 1754) (by decide +kernel)⟩
theorem lw_p102 : lw_okq (⟨"BearerKinModel", "drawn", "()I"⟩, 36) := ⟨⟨by decide +kernel, by decide +kernel⟩, List.mem_of_getElem? (i := 1360) (by decide +kernel), List.mem_of_getElem? (i := 1766) (by decide +kernel), List.mem_of_getElem? (i := 1767) (by decide +kernel)⟩
theorem lw_p103 : lw_okq (⟨"BearerKinModel", "draw", "(I)I"⟩, 36) := ⟨⟨by decide +kernel, by decide +kernel⟩, List.mem_of_getElem? (i := 1360) (by decide +kernel), List.mem_of_getElem? (i := 1770) (by decide +kernel), List.mem_of_getElem? (i := 1771) (by decide +kernel)⟩
theorem lw_p104 : lw_okq (⟨"BearerKinModel", "downNow", "()Z"⟩, 36) := ⟨⟨by decide +kernel, by decide +kernel⟩, List.mem_of_getElem? (i := 1360) (by decide +kernel), List.mem_of_getElem? (i := 1779) (by decide +kernel), List.mem_of_getElem? (i := 1780) (by decide +kernel)⟩
theorem lw_p105 : lw_okq (⟨"BearerKinModel", "laysUp", "(Z)I"⟩, 36) := ⟨⟨by decide +kernel, by decide +kernel⟩, List.mem_of_getElem? (i := 1360) (by decide +kernel), List.mem_of_getElem? (i := 1783) (by decide +kernel), List.mem_of_getElem? (i := 1784) (by decide +kernel)⟩
theorem lw_p106 : lw_okq (⟨"BearerKinModel", "laysStands", "(IZ)V"⟩, 36) := ⟨⟨by decide +kernel, by decide +kernel⟩, List.mem_of_getElem? (i := 1360) (by decide +kernel), List.mem_of_getElem? (i := 1787) (by decide +kernel), List.mem_of_getElem? (i := 1788) (by decide +kernel)⟩
theorem lw_p107 : lw_okq (⟨"BearerKinModel", "adds", "(I)I"⟩, 36) := ⟨⟨by decide +kernel, by decide +kernel⟩, List.mem_of_getElem? (i := 1360) (by decide +kernel), List.mem_of_getElem? (i := 1791) (by decide +kernel), List.mem_of_getElem? (i := 1792) (by decide +kernel)⟩
theorem lw_p108 : lw_okq (⟨"BearerKinModel", "isMove", "(I)Z"⟩, 36) := ⟨⟨by decide +kernel, by decide +kernel⟩, List.mem_of_getElem? (i := 1360) (by decide +kernel), List.mem_of_getElem? (i := 1795) (by decide +kernel), List.mem_of_getElem? (i := 1796) (by decide +kernel)⟩
theorem lw_p109 : lw_okq (⟨"BearerKinModel", "weaker", "(II)I"⟩, 36) := ⟨⟨by decide +kernel, by decide +kernel⟩, List.mem_of_getElem? (i := 1360) (by decide +kernel), List.mem_of_getElem? (i := 1799) (by decide +kernel), List.mem_of_getElem? (i := 1800) (by decide +kernel)⟩
theorem lw_p110 : lw_okq (⟨"BearerKinModel", "upBy", "(IIZ)I"⟩, 36) := ⟨⟨by decide +kernel, by decide +kernel⟩, List.mem_of_getElem? (i := 1360) (by decide +kernel), List.mem_of_getElem? (i := 1803) (by decide +kernel), List.mem_of_getElem? (i := 1804) (by decide +kernel)⟩
theorem lw_p111 : lw_okq (⟨"BearerKinModel", "isUp", "(I)Z"⟩, 36) := ⟨⟨by decide +kernel, by decide +kernel⟩, List.mem_of_getElem? (i := 1360) (by decide +kernel), List.mem_of_getElem? (i := 1807) (by decide +kernel), List.mem_of_getElem? (i := 1808) (by decide +kernel)⟩
def lw_privs_7 : List (MethodName × Nat) := [(⟨"BearerKinModel", "noTray", "(I)I"⟩, 36), (⟨"BearerKinModel", "tells", "(I)I"⟩, 36), (⟨"BearerKinModel", "whyNot", "(J)I"⟩, 36), (⟨"BearerKinModel", "does", "(I)V"⟩, 36), (⟨"BearerKinModel", "whereNow", "()I"⟩, 36), (⟨"BearerKinModel", "isAgain", "()V"⟩, 36), (⟨"BearerKinModel", "drawn", "()I"⟩, 36), (⟨"BearerKinModel", "draw", "(I)I"⟩, 36), (⟨"BearerKinModel", "downNow", "()Z"⟩, 36), (⟨"BearerKinModel", "laysUp", "(Z)I"⟩, 36), (⟨"BearerKinModel", "laysStands", "(IZ)V"⟩, 36), (⟨"BearerKinModel", "adds", "(I)I"⟩, 36), (⟨"BearerKinModel", "isMove", "(I)Z"⟩, 36), (⟨"BearerKinModel", "weaker", "(II)I"⟩, 36), (⟨"BearerKinModel", "upBy", "(IIZ)I"⟩, 36), (⟨"BearerKinModel", "isUp", "(I)Z"⟩, 36)]
theorem lw_r7 : ∀ q ∈ lw_privs_7, lw_okq q := List.forall_mem_cons.mpr ⟨lw_p96, List.forall_mem_cons.mpr ⟨lw_p97, List.forall_mem_cons.mpr ⟨lw_p98, List.forall_mem_cons.mpr ⟨lw_p99, List.forall_mem_cons.mpr ⟨lw_p100, List.forall_mem_cons.mpr ⟨lw_p101, List.forall_mem_cons.mpr ⟨lw_p102, List.forall_mem_cons.mpr ⟨lw_p103, List.forall_mem_cons.mpr ⟨lw_p104, List.forall_mem_cons.mpr ⟨lw_p105, List.forall_mem_cons.mpr ⟨lw_p106, List.forall_mem_cons.mpr ⟨lw_p107, List.forall_mem_cons.mpr ⟨lw_p108, List.forall_mem_cons.mpr ⟨lw_p109, List.forall_mem_cons.mpr ⟨lw_p110, List.forall_mem_cons.mpr ⟨lw_p111, fun _ h => absurd h List.not_mem_nil⟩⟩⟩⟩⟩⟩⟩⟩⟩⟩⟩⟩⟩⟩⟩⟩
theorem lw_p112 : lw_okq (⟨"BearerKinModel", "farNow", "(I)I"⟩, 36) := ⟨⟨by decide +kernel, by decide +kernel⟩, List.mem_of_getElem? (i := 1360) (by decide +kernel), List.mem_of_getElem? (i := 1811) (by decide +kernel), List.mem_of_getElem? (i := 1812) (by decide +kernel)⟩
theorem lw_p113 : lw_okq (⟨"BearerKinModel", "beginsMany", "()V"⟩, 36) := ⟨⟨by decide +kernel, by decide +kernel⟩, List.mem_of_getElem? (i := 1360) (by decide +kernel), List.mem_of_getElem? (i := 1833) (by decide +kernel), List.mem_of_getElem? (i := 1834) (by decide +kernel)⟩
theorem lw_p114 : lw_okq (⟨"BearerKinModel", "isThen", "()V"⟩, 36) := ⟨⟨by decide +kernel, by decide +kernel⟩, List.mem_of_getElem? (i := 1360) (by decide +kernel), List.mem_of_getElem? (i := 1837) (by decide +kernel), List.mem_of_getElem? (i := 1838) (by decide +kernel)⟩
theorem lw_p115 : lw_okq (⟨"BearerKinModel", "canKeep", "(II)Z"⟩, 36) := ⟨⟨by decide +kernel, by decide +kernel⟩, List.mem_of_getElem? (i := 1360) (by decide +kernel), List.mem_of_getElem? (i := 1845) (by decide +kernel), List.mem_of_getElem? (i := 1846) (by decide +kernel)⟩
theorem lw_p116 : lw_okq (⟨"BearerKinModel", "isAim", "(II)Z"⟩, 36) := ⟨⟨by decide +kernel, by decide +kernel⟩, List.mem_of_getElem? (i := 1360) (by decide +kernel), List.mem_of_getElem? (i := 1853) (by decide +kernel), List.mem_of_getElem? (i := 1854) (by decide +kernel)⟩
theorem lw_p117 : lw_okq (⟨"BearerKinModel", "laysFar", "(II)I"⟩, 36) := ⟨⟨by decide +kernel, by decide +kernel⟩, List.mem_of_getElem? (i := 1360) (by decide +kernel), List.mem_of_getElem? (i := 1857) (by decide +kernel), List.mem_of_getElem? (i := 1858) (by decide +kernel)⟩
theorem lw_p118 : lw_okq (⟨"BearerKinModel", "isGoal", "(III)Z"⟩, 36) := ⟨⟨by decide +kernel, by decide +kernel⟩, List.mem_of_getElem? (i := 1360) (by decide +kernel), List.mem_of_getElem? (i := 1861) (by decide +kernel), List.mem_of_getElem? (i := 1862) (by decide +kernel)⟩
theorem lw_p119 : lw_okq (⟨"BearerKinModel", "farBy", "(II)I"⟩, 36) := ⟨⟨by decide +kernel, by decide +kernel⟩, List.mem_of_getElem? (i := 1360) (by decide +kernel), List.mem_of_getElem? (i := 1865) (by decide +kernel), List.mem_of_getElem? (i := 1866) (by decide +kernel)⟩
theorem lw_p120 : lw_okq (⟨"BearerKinModel", "deedAt", "(I)I"⟩, 36) := ⟨⟨by decide +kernel, by decide +kernel⟩, List.mem_of_getElem? (i := 1360) (by decide +kernel), List.mem_of_getElem? (i := 1873) (by decide +kernel), List.mem_of_getElem? (i := 1874) (by decide +kernel)⟩
theorem lw_p121 : lw_okq (⟨"BearerKinModel", "noSeen", "(I)I"⟩, 36) := ⟨⟨by decide +kernel, by decide +kernel⟩, List.mem_of_getElem? (i := 1360) (by decide +kernel), List.mem_of_getElem? (i := 1893) (by decide +kernel), List.mem_of_getElem? (i := 1894) (by decide +kernel)⟩
theorem lw_p122 : lw_okq (⟨"BearerKinModel", "laysSeen", "(I)J"⟩, 36) := ⟨⟨by decide +kernel, by decide +kernel⟩, List.mem_of_getElem? (i := 1360) (by decide +kernel), List.mem_of_getElem? (i := 1898) (by decide +kernel), List.mem_of_getElem? (i := 1899) (by decide +kernel)⟩
theorem lw_p123 : lw_okq (⟨"BearerKinModel", "isSeen", "(III)Z"⟩, 36) := ⟨⟨by decide +kernel, by decide +kernel⟩, List.mem_of_getElem? (i := 1360) (by decide +kernel), List.mem_of_getElem? (i := 1902) (by decide +kernel), List.mem_of_getElem? (i := 1903) (by decide +kernel)⟩
theorem lw_p124 : lw_okq (⟨"BearerKinModel", "noTired", "(I)I"⟩, 36) := ⟨⟨by decide +kernel, by decide +kernel⟩, List.mem_of_getElem? (i := 1360) (by decide +kernel), List.mem_of_getElem? (i := 1918) (by decide +kernel), List.mem_of_getElem? (i := 1919) (by decide +kernel)⟩
theorem lw_p125 : lw_okq (⟨"BearerKinModel", "weathersOf", "(I)I"⟩, 36) := ⟨⟨by decide +kernel, by decide +kernel⟩, List.mem_of_getElem? (i := 1360) (by decide +kernel), List.mem_of_getElem? (i := 1922) (by decide +kernel), List.mem_of_getElem? (i := 1923) (by decide +kernel)⟩
theorem lw_p126 : lw_okq (⟨"BearerKinModel", "mostAlike", "(II)I"⟩, 36) := ⟨⟨by decide +kernel, by decide +kernel⟩, List.mem_of_getElem? (i := 1360) (by decide +kernel), List.mem_of_getElem? (i := 1930) (by decide +kernel), List.mem_of_getElem? (i := 1931) (by decide +kernel)⟩
theorem lw_p127 : lw_okq (⟨"BearerKinModel", "strengthsIn", "(I)I"⟩, 36) := ⟨⟨by decide +kernel, by decide +kernel⟩, List.mem_of_getElem? (i := 1360) (by decide +kernel), List.mem_of_getElem? (i := 1934) (by decide +kernel), List.mem_of_getElem? (i := 1935) (by decide +kernel)⟩
def lw_privs_8 : List (MethodName × Nat) := [(⟨"BearerKinModel", "farNow", "(I)I"⟩, 36), (⟨"BearerKinModel", "beginsMany", "()V"⟩, 36), (⟨"BearerKinModel", "isThen", "()V"⟩, 36), (⟨"BearerKinModel", "canKeep", "(II)Z"⟩, 36), (⟨"BearerKinModel", "isAim", "(II)Z"⟩, 36), (⟨"BearerKinModel", "laysFar", "(II)I"⟩, 36), (⟨"BearerKinModel", "isGoal", "(III)Z"⟩, 36), (⟨"BearerKinModel", "farBy", "(II)I"⟩, 36), (⟨"BearerKinModel", "deedAt", "(I)I"⟩, 36), (⟨"BearerKinModel", "noSeen", "(I)I"⟩, 36), (⟨"BearerKinModel", "laysSeen", "(I)J"⟩, 36), (⟨"BearerKinModel", "isSeen", "(III)Z"⟩, 36), (⟨"BearerKinModel", "noTired", "(I)I"⟩, 36), (⟨"BearerKinModel", "weathersOf", "(I)I"⟩, 36), (⟨"BearerKinModel", "mostAlike", "(II)I"⟩, 36), (⟨"BearerKinModel", "strengthsIn", "(I)I"⟩, 36)]
theorem lw_r8 : ∀ q ∈ lw_privs_8, lw_okq q := List.forall_mem_cons.mpr ⟨lw_p112, List.forall_mem_cons.mpr ⟨lw_p113, List.forall_mem_cons.mpr ⟨lw_p114, List.forall_mem_cons.mpr ⟨lw_p115, List.forall_mem_cons.mpr ⟨lw_p116, List.forall_mem_cons.mpr ⟨lw_p117, List.forall_mem_cons.mpr ⟨lw_p118, List.forall_mem_cons.mpr ⟨lw_p119, List.forall_mem_cons.mpr ⟨lw_p120, List.forall_mem_cons.mpr ⟨lw_p121, List.forall_mem_cons.mpr ⟨lw_p122, List.forall_mem_cons.mpr ⟨lw_p123, List.forall_mem_cons.mpr ⟨lw_p124, List.forall_mem_cons.mpr ⟨lw_p125, List.forall_mem_cons.mpr ⟨lw_p126, List.forall_mem_cons.mpr ⟨lw_p127, fun _ h => absurd h List.not_mem_nil⟩⟩⟩⟩⟩⟩⟩⟩⟩⟩⟩⟩⟩⟩⟩⟩
theorem lw_p128 : lw_okq (⟨"BearerKinModel", "noChance", "(II)I"⟩, 36) := ⟨⟨by decide +kernel, by decide +kernel⟩, List.mem_of_getElem? (i := 1360) (by decide +kernel), List.mem_of_getElem? (i := 1950) (by decide +kernel), List.mem_of_getElem? (i := 1951) (by decide +kernel)⟩
theorem lw_p129 : lw_okq (⟨"BearerKinModel", "laysLots", "(I)V"⟩, 36) := ⟨⟨by decide +kernel, by decide +kernel⟩, List.mem_of_getElem? (i := 1360) (by decide +kernel), List.mem_of_getElem? (i := 1955) (by decide +kernel), List.mem_of_getElem? (i := 1956) (by decide +kernel)⟩
theorem lw_p130 : lw_okq (⟨"BearerKinModel", "goesLots", "(IIIJ)V"⟩, 36) := ⟨⟨by decide +kernel, by decide +kernel⟩, List.mem_of_getElem? (i := 1360) (by decide +kernel), List.mem_of_getElem? (i := 1959) (by decide +kernel), List.mem_of_getElem? (i := 1960) (by decide +kernel)⟩
theorem lw_p131 : lw_okq (⟨"BearerKinModel", "sumIn", "(I)I"⟩, 36) := ⟨⟨by decide +kernel, by decide +kernel⟩, List.mem_of_getElem? (i := 1360) (by decide +kernel), List.mem_of_getElem? (i := 1966) (by decide +kernel), List.mem_of_getElem? (i := 1967) (by decide +kernel)⟩
def lw_privs_9 : List (MethodName × Nat) := [(⟨"BearerKinModel", "noChance", "(II)I"⟩, 36), (⟨"BearerKinModel", "laysLots", "(I)V"⟩, 36), (⟨"BearerKinModel", "goesLots", "(IIIJ)V"⟩, 36), (⟨"BearerKinModel", "sumIn", "(I)I"⟩, 36)]
theorem lw_r9 : ∀ q ∈ lw_privs_9, lw_okq q := List.forall_mem_cons.mpr ⟨lw_p128, List.forall_mem_cons.mpr ⟨lw_p129, List.forall_mem_cons.mpr ⟨lw_p130, List.forall_mem_cons.mpr ⟨lw_p131, fun _ h => absurd h List.not_mem_nil⟩⟩⟩⟩
def lw_privs : List (MethodName × Nat) := lw_privs_1 ++ (lw_privs_2 ++ (lw_privs_3 ++ (lw_privs_4 ++ (lw_privs_5 ++ (lw_privs_6 ++ (lw_privs_7 ++ (lw_privs_8 ++ (lw_privs_9))))))))
def lw_tbl : List Cond := k2_sels lw_privs ++ tables_1
theorem lw_privs_ok : ∀ q ∈ lw_privs, lw_okq q := by
  show ∀ q ∈ lw_privs_1 ++ (lw_privs_2 ++ (lw_privs_3 ++ (lw_privs_4 ++ (lw_privs_5 ++ (lw_privs_6 ++ (lw_privs_7 ++ (lw_privs_8 ++ (lw_privs_9)))))))), lw_okq q
  exact List.forall_mem_append.mpr ⟨lw_r1, List.forall_mem_append.mpr ⟨lw_r2, List.forall_mem_append.mpr ⟨lw_r3, List.forall_mem_append.mpr ⟨lw_r4, List.forall_mem_append.mpr ⟨lw_r5, List.forall_mem_append.mpr ⟨lw_r6, List.forall_mem_append.mpr ⟨lw_r7, List.forall_mem_append.mpr ⟨lw_r8, lw_r9⟩⟩⟩⟩⟩⟩⟩⟩

def RX0 : String := "BearerKin$Beast"
def TX0 : u_T := fun k => match k with
  | 0 => ("BearerKin$Beast", "desk", "LBearerKin$Desk;", true)
  | 1 => ("BearerKin$Beast", "county", "LBearerKin$County;", false)
  | 2 => ("BearerKin$Beast", "sky", "I", false)
  | 3 => ("BearerKin$Beast", "worths", "[I", false)
  | _ => ("BearerKin$Beast", "met", "I", false)
def tyX0 : Nat → FieldType := fun k => match k with
  | 0 => .object "BearerKin$Desk"
  | 1 => .object "BearerKin$County"
  | 2 => .int
  | 3 => .array .int
  | _ => .int
theorem nmX0 : ∀ a, a < 5 → ∀ b, b < 5 → a ≠ b → (TX0 a).2.1 ≠ (TX0 b).2.1 := by decide +kernel
theorem tyX0_ok : ∀ k, k < 5 → parseFieldDescriptor (TX0 k).2.2.1 = some (tyX0 k) := by decide +kernel
abbrev cX0_init : ByteArray := prog_2_method_1_code
def yX0_init : MethodName := ⟨RX0, "<init>", "(LBearerKin$Desk;LBearerKin$County;)V"⟩
abbrev cX0_longest : ByteArray := prog_2_method_2_code
def yX0_longest : MethodName := ⟨RX0, "longest", "(I)I"⟩
abbrev cX0_firstDeed : ByteArray := prog_2_method_3_code
def yX0_firstDeed : MethodName := ⟨RX0, "firstDeed", "(LBearerKin$Hours;I)I"⟩
abbrev cX0_solve : ByteArray := prog_2_method_4_code
def yX0_solve : MethodName := ⟨RX0, "solve", "(LBearerKin$Hours;I)V"⟩
abbrev cX0_meet : ByteArray := prog_2_method_5_code
def yX0_meet : MethodName := ⟨RX0, "meet", "(I)V"⟩
abbrev cX0_meetAll : ByteArray := prog_2_method_6_code
def yX0_meetAll : MethodName := ⟨RX0, "meetAll", "(LBearerKin$Hours;I)V"⟩
abbrev cX0_holds : ByteArray := prog_2_method_7_code
def yX0_holds : MethodName := ⟨RX0, "holds", "(II)Z"⟩
abbrev cX0_sweep : ByteArray := prog_2_method_8_code
def yX0_sweep : MethodName := ⟨RX0, "sweep", "(LBearerKin$Hours;I)Z"⟩
abbrev cX0_newWitness : ByteArray := prog_2_method_9_code
def yX0_newWitness : MethodName := ⟨RX0, "newWitness", "(LBearerKin$Hours;II)I"⟩
def RX1 : String := "BearerKin$Coming"
def TX1 : u_T := fun k => match k with
  | 0 => ("BearerKin$Coming", "county", "LBearerKin$County;", false)
  | 1 => ("BearerKin$Coming", "sky", "I", false)
  | 2 => ("BearerKin$Coming", "start", "I", false)
  | 3 => ("BearerKin$Coming", "queue", "[I", false)
  | 4 => ("BearerKin$Coming", "origin", "[I", false)
  | 5 => ("BearerKin$Coming", "found", "I", false)
  | _ => ("BearerKin$Coming", "searched", "I", false)
def tyX1 : Nat → FieldType := fun k => match k with
  | 0 => .object "BearerKin$County"
  | 1 => .int
  | 2 => .int
  | 3 => .array .int
  | 4 => .array .int
  | 5 => .int
  | _ => .int
theorem nmX1 : ∀ a, a < 7 → ∀ b, b < 7 → a ≠ b → (TX1 a).2.1 ≠ (TX1 b).2.1 := by decide +kernel
theorem tyX1_ok : ∀ k, k < 7 → parseFieldDescriptor (TX1 k).2.2.1 = some (tyX1 k) := by decide +kernel
abbrev cX1_init : ByteArray := prog_3_method_1_code
def yX1_init : MethodName := ⟨RX1, "<init>", "(LBearerKin$County;)V"⟩
abbrev cX1_start : ByteArray := prog_3_method_2_code
def yX1_start : MethodName := ⟨RX1, "start", "(LBearerKin$Hours;I)V"⟩
abbrev cX1_searchOn : ByteArray := prog_3_method_3_code
def yX1_searchOn : MethodName := ⟨RX1, "searchOn", "(LBearerKin$Hours;I)V"⟩
abbrev cX1_find : ByteArray := prog_3_method_4_code
def yX1_find : MethodName := ⟨RX1, "find", "(LBearerKin$Hours;II)I"⟩
abbrev cX1_bits : ByteArray := prog_3_method_5_code
def yX1_bits : MethodName := ⟨RX1, "bits", "(LBearerKin$Hours;Z)I"⟩
abbrev cX1_all : ByteArray := prog_3_method_6_code
def yX1_all : MethodName := ⟨RX1, "all", "(LBearerKin$Hours;)I"⟩
abbrev cX1_length : ByteArray := prog_3_method_7_code
def yX1_length : MethodName := ⟨RX1, "length", "(I)I"⟩
abbrev cX1_deedAt : ByteArray := prog_3_method_8_code
def yX1_deedAt : MethodName := ⟨RX1, "deedAt", "(II)I"⟩
def RX2 : String := "BearerKin$County"
def TX2 : u_T := fun k => match k with
  | 0 => ("BearerKin$County", "places", "I", true)
  | 1 => ("BearerKin$County", "kin", "I", true)
  | 2 => ("BearerKin$County", "lines", "I", true)
  | 3 => ("BearerKin$County", "sky", "I", true)
  | 4 => ("BearerKin$County", "heights", "[I", true)
  | 5 => ("BearerKin$County", "ways", "[I", true)
  | 6 => ("BearerKin$County", "ages", "[I", true)
  | 7 => ("BearerKin$County", "code", "[I", true)
  | 8 => ("BearerKin$County", "tiresFrom", "I", true)
  | 9 => ("BearerKin$County", "tiresTo", "I", true)
  | 10 => ("BearerKin$County", "mayFrom", "I", true)
  | 11 => ("BearerKin$County", "mayTo", "I", true)
  | 12 => ("BearerKin$County", "bits", "I", true)
  | 13 => ("BearerKin$County", "placings", "I", true)
  | 14 => ("BearerKin$County", "placed", "[I", true)
  | 15 => ("BearerKin$County", "weights", "[I", true)
  | 16 => ("BearerKin$County", "size", "I", true)
  | _ => ("BearerKin$County", "first", "I", true)
def tyX2 : Nat → FieldType := fun k => match k with
  | 0 => .int
  | 1 => .int
  | 2 => .int
  | 3 => .int
  | 4 => .array .int
  | 5 => .array .int
  | 6 => .array .int
  | 7 => .array .int
  | 8 => .int
  | 9 => .int
  | 10 => .int
  | 11 => .int
  | 12 => .int
  | 13 => .int
  | 14 => .array .int
  | 15 => .array .int
  | 16 => .int
  | _ => .int
theorem nmX2 : ∀ a, a < 18 → ∀ b, b < 18 → a ≠ b → (TX2 a).2.1 ≠ (TX2 b).2.1 := by decide +kernel
theorem tyX2_ok : ∀ k, k < 18 → parseFieldDescriptor (TX2 k).2.2.1 = some (tyX2 k) := by decide +kernel
abbrev cX2_init : ByteArray := prog_4_method_1_code
def yX2_init : MethodName := ⟨RX2, "<init>", "(LBearerKin$Reader;)V"⟩
abbrev cX2_stand : ByteArray := prog_4_method_2_code
def yX2_stand : MethodName := ⟨RX2, "stand", "(III)I"⟩
abbrev cX2_bearerOf : ByteArray := prog_4_method_3_code
def yX2_bearerOf : MethodName := ⟨RX2, "bearerOf", "(I)I"⟩
abbrev cX2_placingOf : ByteArray := prog_4_method_4_code
def yX2_placingOf : MethodName := ⟨RX2, "placingOf", "(I)I"⟩
abbrev cX2_placeOf : ByteArray := prog_4_method_5_code
def yX2_placeOf : MethodName := ⟨RX2, "placeOf", "(II)I"⟩
abbrev cX2_strengthOf : ByteArray := prog_4_method_6_code
def yX2_strengthOf : MethodName := ⟨RX2, "strengthOf", "(II)I"⟩
abbrev cX2_strengthsOf : ByteArray := prog_4_method_7_code
def yX2_strengthsOf : MethodName := ⟨RX2, "strengthsOf", "(I)I"⟩
abbrev cX2_bearing : ByteArray := prog_4_method_8_code
def yX2_bearing : MethodName := ⟨RX2, "bearing", "(I)I"⟩
abbrev cX2_isDown : ByteArray := prog_4_method_9_code
def yX2_isDown : MethodName := ⟨RX2, "isDown", "(I)Z"⟩
abbrev cX2_where : ByteArray := prog_4_method_10_code
def yX2_where : MethodName := ⟨RX2, "where", "(I)I"⟩
abbrev cX2_kinAt : ByteArray := prog_4_method_11_code
def yX2_kinAt : MethodName := ⟨RX2, "kinAt", "(II)I"⟩
abbrev cX2_together : ByteArray := prog_4_method_12_code
def yX2_together : MethodName := ⟨RX2, "together", "(I)I"⟩
abbrev cX2_fed : ByteArray := prog_4_method_13_code
def yX2_fed : MethodName := ⟨RX2, "fed", "(II)I"⟩
abbrev cX2_weakened : ByteArray := prog_4_method_14_code
def yX2_weakened : MethodName := ⟨RX2, "weakened", "(II)I"⟩
def RX3 : String := "BearerKin$Desk"
def TX3 : u_T := fun k => match k with
  | 0 => ("BearerKin$Desk", "list", "[I", false)
  | 1 => ("BearerKin$Desk", "other", "[I", false)
  | _ => ("BearerKin$Desk", "marks", "[I", false)
def tyX3 : Nat → FieldType := fun k => match k with
  | 0 => .array .int
  | 1 => .array .int
  | _ => .array .int
theorem nmX3 : ∀ a, a < 3 → ∀ b, b < 3 → a ≠ b → (TX3 a).2.1 ≠ (TX3 b).2.1 := by decide +kernel
theorem tyX3_ok : ∀ k, k < 3 → parseFieldDescriptor (TX3 k).2.2.1 = some (tyX3 k) := by decide +kernel
abbrev cX3_init : ByteArray := prog_5_method_1_code
def yX3_init : MethodName := ⟨RX3, "<init>", "()V"⟩
abbrev cX3_fit : ByteArray := prog_5_method_2_code
def yX3_fit : MethodName := ⟨RX3, "fit", "(I)V"⟩
abbrev cX3_turn : ByteArray := prog_5_method_3_code
def yX3_turn : MethodName := ⟨RX3, "turn", "()V"⟩
abbrev cX3_clearMarks : ByteArray := prog_5_method_4_code
def yX3_clearMarks : MethodName := ⟨RX3, "clearMarks", "(I)V"⟩
def RX4 : String := "BearerKin$Hours"
def TX4 : u_T := fun k => match k with
  | 0 => ("BearerKin$Hours", "county", "LBearerKin$County;", false)
  | 1 => ("BearerKin$Hours", "sky", "I", false)
  | 2 => ("BearerKin$Hours", "edition", "I", false)
  | 3 => ("BearerKin$Hours", "tiring", "[I", true)
  | 4 => ("BearerKin$Hours", "going", "[I", true)
  | 5 => ("BearerKin$Hours", "facts", "[I", true)
  | 6 => ("BearerKin$Hours", "stack", "[I", true)
  | 7 => ("BearerKin$Hours", "deeds", "[I", true)
  | 8 => ("BearerKin$Hours", "behind", "[I", true)
  | _ => ("BearerKin$Hours", "many", "I", false)
def tyX4 : Nat → FieldType := fun k => match k with
  | 0 => .object "BearerKin$County"
  | 1 => .int
  | 2 => .int
  | 3 => .array .int
  | 4 => .array .int
  | 5 => .array .int
  | 6 => .array .int
  | 7 => .array .int
  | 8 => .array .int
  | _ => .int
theorem nmX4 : ∀ a, a < 10 → ∀ b, b < 10 → a ≠ b → (TX4 a).2.1 ≠ (TX4 b).2.1 := by decide +kernel
theorem tyX4_ok : ∀ k, k < 10 → parseFieldDescriptor (TX4 k).2.2.1 = some (tyX4 k) := by decide +kernel
abbrev cX4_init : ByteArray := prog_6_method_1_code
def yX4_init : MethodName := ⟨RX4, "<init>", "(LBearerKin$County;)V"⟩
abbrev cX4_use : ByteArray := prog_6_method_2_code
def yX4_use : MethodName := ⟨RX4, "use", "(LBearerKin$County;I)V"⟩
abbrev cX4_tells : ByteArray := prog_6_method_3_code
def yX4_tells : MethodName := ⟨RX4, "tells", "(J)Z"⟩
abbrev cX4_whyNot : ByteArray := prog_6_method_4_code
def yX4_whyNot : MethodName := ⟨RX4, "whyNot", "(IJ)I"⟩
abbrev cX4_after : ByteArray := prog_6_method_5_code
def yX4_after : MethodName := ⟨RX4, "after", "(IJ)I"⟩
abbrev cX4_spread : ByteArray := prog_6_method_6_code
def yX4_spread : MethodName := ⟨RX4, "spread", "(I)V"⟩
abbrev cX4_add : ByteArray := prog_6_method_7_code
def yX4_add : MethodName := ⟨RX4, "add", "(II)V"⟩
abbrev cX4_with : ByteArray := prog_6_method_8_code
def yX4_with : MethodName := ⟨RX4, "with", "(III)I"⟩
abbrev cX4_tire : ByteArray := prog_6_method_9_code
def yX4_tire : MethodName := ⟨RX4, "tire", "(IIIII)I"⟩
abbrev cX4_mayGo : ByteArray := prog_6_method_10_code
def yX4_mayGo : MethodName := ⟨RX4, "mayGo", "(IIIII)Z"⟩
abbrev cX4_setFacts : ByteArray := prog_6_method_11_code
def yX4_setFacts : MethodName := ⟨RX4, "setFacts", "(IIIII)V"⟩
abbrev cX4_tell : ByteArray := prog_6_method_12_code
def yX4_tell : MethodName := ⟨RX4, "tell", "(II)I"⟩
abbrev cX4_join : ByteArray := prog_6_method_13_code
def yX4_join : MethodName := ⟨RX4, "join", "(IJJ)I"⟩
def RX5 : String := "BearerKin$Keeping"
def TX5 : u_T := fun k => match k with
  | 0 => ("BearerKin$Keeping", "desk", "LBearerKin$Desk;", true)
  | 1 => ("BearerKin$Keeping", "county", "LBearerKin$County;", false)
  | 2 => ("BearerKin$Keeping", "sky", "I", false)
  | 3 => ("BearerKin$Keeping", "worths", "[I", false)
  | 4 => ("BearerKin$Keeping", "unknown", "I", false)
  | 5 => ("BearerKin$Keeping", "deeds", "[I", true)
  | _ => ("BearerKin$Keeping", "behind", "[I", true)
def tyX5 : Nat → FieldType := fun k => match k with
  | 0 => .object "BearerKin$Desk"
  | 1 => .object "BearerKin$County"
  | 2 => .int
  | 3 => .array .int
  | 4 => .int
  | 5 => .array .int
  | _ => .array .int
theorem nmX5 : ∀ a, a < 7 → ∀ b, b < 7 → a ≠ b → (TX5 a).2.1 ≠ (TX5 b).2.1 := by decide +kernel
theorem tyX5_ok : ∀ k, k < 7 → parseFieldDescriptor (TX5 k).2.2.1 = some (tyX5 k) := by decide +kernel
abbrev cX5_init : ByteArray := prog_7_method_1_code
def yX5_init : MethodName := ⟨RX5, "<init>", "(LBearerKin$Desk;LBearerKin$County;)V"⟩
abbrev cX5_prepare : ByteArray := prog_7_method_2_code
def yX5_prepare : MethodName := ⟨RX5, "prepare", "(LBearerKin$Hours;)V"⟩
abbrev cX5_longest : ByteArray := prog_7_method_3_code
def yX5_longest : MethodName := ⟨RX5, "longest", "(LBearerKin$Hours;I)I"⟩
abbrev cX5_longestWithout : ByteArray := prog_7_method_4_code
def yX5_longestWithout : MethodName := ⟨RX5, "longestWithout", "(LBearerKin$Hours;II)I"⟩
abbrev cX5_deedAt : ByteArray := prog_7_method_5_code
def yX5_deedAt : MethodName := ⟨RX5, "deedAt", "(LBearerKin$Hours;II)I"⟩
abbrev cX5_solve : ByteArray := prog_7_method_6_code
def yX5_solve : MethodName := ⟨RX5, "solve", "(LBearerKin$Hours;[III)V"⟩
abbrev cX5_look : ByteArray := prog_7_method_7_code
def yX5_look : MethodName := ⟨RX5, "look", "(LBearerKin$Hours;[III)I"⟩
abbrev cX5_needs : ByteArray := prog_7_method_8_code
def yX5_needs : MethodName := ⟨RX5, "needs", "(II)Z"⟩
def RX6 : String := "BearerKin$Moment"
def TX6 : u_T := fun k => match k with
  | 0 => ("BearerKin$Moment", "county", "LBearerKin$County;", false)
  | 1 => ("BearerKin$Moment", "stand", "I", false)
  | 2 => ("BearerKin$Moment", "sky", "I", false)
  | _ => ("BearerKin$Moment", "hours", "I", false)
def tyX6 : Nat → FieldType := fun k => match k with
  | 0 => .object "BearerKin$County"
  | 1 => .int
  | 2 => .int
  | _ => .int
theorem nmX6 : ∀ a, a < 4 → ∀ b, b < 4 → a ≠ b → (TX6 a).2.1 ≠ (TX6 b).2.1 := by decide +kernel
theorem tyX6_ok : ∀ k, k < 4 → parseFieldDescriptor (TX6 k).2.2.1 = some (tyX6 k) := by decide +kernel
abbrev cX6_init : ByteArray := prog_8_method_1_code
def yX6_init : MethodName := ⟨RX6, "<init>", "(LBearerKin$County;)V"⟩
abbrev cX6_begin : ByteArray := prog_8_method_2_code
def yX6_begin : MethodName := ⟨RX6, "begin", "(LBearerKin$County;)V"⟩
abbrev cX6_take : ByteArray := prog_8_method_3_code
def yX6_take : MethodName := ⟨RX6, "take", "(LBearerKin$Moment;)V"⟩
abbrev cX6_isDown : ByteArray := prog_8_method_4_code
def yX6_isDown : MethodName := ⟨RX6, "isDown", "()Z"⟩
abbrev cX6_act : ByteArray := prog_8_method_5_code
def yX6_act : MethodName := ⟨RX6, "act", "(LBearerKin$Hours;J)I"⟩
def RX7 : String := "BearerKin$Reader"
def TX7 : u_T := fun k => match k with
  | 0 => ("BearerKin$Reader", "tokens", "LBearerKin$Tokens;", true)
  | 1 => ("BearerKin$Reader", "code", "[I", true)
  | 2 => ("BearerKin$Reader", "used", "I", false)
  | 3 => ("BearerKin$Reader", "places", "I", false)
  | 4 => ("BearerKin$Reader", "kin", "I", false)
  | 5 => ("BearerKin$Reader", "heights", "[I", true)
  | 6 => ("BearerKin$Reader", "ways", "[I", true)
  | 7 => ("BearerKin$Reader", "homes", "[I", true)
  | 8 => ("BearerKin$Reader", "ages", "[I", true)
  | 9 => ("BearerKin$Reader", "strengths", "[I", true)
  | 10 => ("BearerKin$Reader", "bearer", "I", false)
  | 11 => ("BearerKin$Reader", "sky", "I", false)
  | 12 => ("BearerKin$Reader", "lines", "I", false)
  | 13 => ("BearerKin$Reader", "tiresFrom", "I", false)
  | 14 => ("BearerKin$Reader", "tiresTo", "I", false)
  | 15 => ("BearerKin$Reader", "mayFrom", "I", false)
  | 16 => ("BearerKin$Reader", "mayTo", "I", false)
  | _ => ("BearerKin$Reader", "lastFact", "I", false)
def tyX7 : Nat → FieldType := fun k => match k with
  | 0 => .object "BearerKin$Tokens"
  | 1 => .array .int
  | 2 => .int
  | 3 => .int
  | 4 => .int
  | 5 => .array .int
  | 6 => .array .int
  | 7 => .array .int
  | 8 => .array .int
  | 9 => .array .int
  | 10 => .int
  | 11 => .int
  | 12 => .int
  | 13 => .int
  | 14 => .int
  | 15 => .int
  | 16 => .int
  | _ => .int
theorem nmX7 : ∀ a, a < 18 → ∀ b, b < 18 → a ≠ b → (TX7 a).2.1 ≠ (TX7 b).2.1 := by decide +kernel
theorem tyX7_ok : ∀ k, k < 18 → parseFieldDescriptor (TX7 k).2.2.1 = some (tyX7 k) := by decide +kernel
abbrev cX7_init : ByteArray := prog_9_method_1_code
def yX7_init : MethodName := ⟨RX7, "<init>", "(LBearerKin$Tokens;)V"⟩
abbrev cX7_read : ByteArray := prog_9_method_2_code
def yX7_read : MethodName := ⟨RX7, "read", "(I)I"⟩
abbrev cX7_clear : ByteArray := prog_9_method_3_code
def yX7_clear : MethodName := ⟨RX7, "clear", "()V"⟩
abbrev cX7_line : ByteArray := prog_9_method_4_code
def yX7_line : MethodName := ⟨RX7, "line", "()V"⟩
abbrev cX7_kinLine : ByteArray := prog_9_method_5_code
def yX7_kinLine : MethodName := ⟨RX7, "kinLine", "()V"⟩
abbrev cX7_law : ByteArray := prog_9_method_6_code
def yX7_law : MethodName := ⟨RX7, "law", "(I)V"⟩
abbrev cX7_number : ByteArray := prog_9_method_7_code
def yX7_number : MethodName := ⟨RX7, "number", "(III)I"⟩
abbrev cX7_emit : ByteArray := prog_9_method_8_code
def yX7_emit : MethodName := ⟨RX7, "emit", "(I)V"⟩
abbrev cX7_goesDeeper : ByteArray := prog_9_method_9_code
def yX7_goesDeeper : MethodName := ⟨RX7, "goesDeeper", "(I)Z"⟩
abbrev cX7_truth : ByteArray := prog_9_method_10_code
def yX7_truth : MethodName := ⟨RX7, "truth", "(I)V"⟩
abbrev cX7_both : ByteArray := prog_9_method_11_code
def yX7_both : MethodName := ⟨RX7, "both", "(I)V"⟩
abbrev cX7_unit : ByteArray := prog_9_method_12_code
def yX7_unit : MethodName := ⟨RX7, "unit", "(I)V"⟩
abbrev cX7_sum : ByteArray := prog_9_method_13_code
def yX7_sum : MethodName := ⟨RX7, "sum", "(I)V"⟩
abbrev cX7_term : ByteArray := prog_9_method_14_code
def yX7_term : MethodName := ⟨RX7, "term", "(I)V"⟩
abbrev cX7_atom : ByteArray := prog_9_method_15_code
def yX7_atom : MethodName := ⟨RX7, "atom", "(I)V"⟩
abbrev cX7_factOf : ByteArray := prog_9_method_16_code
def yX7_factOf : MethodName := ⟨RX7, "factOf", "(I)I"⟩
def RX8 : String := "BearerKin$Rows"
def TX8 : u_T := fun k => match k with
  | 0 => ("BearerKin$Rows", "desk", "LBearerKin$Desk;", true)
  | 1 => ("BearerKin$Rows", "counts", "[J", false)
  | 2 => ("BearerKin$Rows", "sums", "[J", false)
  | 3 => ("BearerKin$Rows", "wanted", "[I", true)
  | 4 => ("BearerKin$Rows", "length", "I", false)
  | 5 => ("BearerKin$Rows", "ahead", "[[I", true)
  | _ => ("BearerKin$Rows", "deeds", "[I", true)
def tyX8 : Nat → FieldType := fun k => match k with
  | 0 => .object "BearerKin$Desk"
  | 1 => .array .long
  | 2 => .array .long
  | 3 => .array .int
  | 4 => .int
  | 5 => .array (.array .int)
  | _ => .array .int
theorem nmX8 : ∀ a, a < 7 → ∀ b, b < 7 → a ≠ b → (TX8 a).2.1 ≠ (TX8 b).2.1 := by decide +kernel
theorem tyX8_ok : ∀ k, k < 7 → parseFieldDescriptor (TX8 k).2.2.1 = some (tyX8 k) := by decide +kernel
abbrev cX8_init : ByteArray := prog_10_method_1_code
def yX8_init : MethodName := ⟨RX8, "<init>", "(LBearerKin$Desk;)V"⟩
abbrev cX8_expectAny : ByteArray := prog_10_method_2_code
def yX8_expectAny : MethodName := ⟨RX8, "expectAny", "(I)V"⟩
abbrev cX8_expect : ByteArray := prog_10_method_3_code
def yX8_expect : MethodName := ⟨RX8, "expect", "(II)V"⟩
abbrev cX8_fits : ByteArray := prog_10_method_4_code
def yX8_fits : MethodName := ⟨RX8, "fits", "(LBearerKin$County;II)Z"⟩
abbrev cX8_total : ByteArray := prog_10_method_5_code
def yX8_total : MethodName := ⟨RX8, "total", "(LBearerKin$Hours;I)J"⟩
abbrev cX8_forget : ByteArray := prog_10_method_6_code
def yX8_forget : MethodName := ⟨RX8, "forget", "(I)V"⟩
abbrev cX8_goOn : ByteArray := prog_10_method_7_code
def yX8_goOn : MethodName := ⟨RX8, "goOn", "(LBearerKin$Hours;II)I"⟩
abbrev cX8_goOneHour : ByteArray := prog_10_method_8_code
def yX8_goOneHour : MethodName := ⟨RX8, "goOneHour", "(LBearerKin$Hours;II)I"⟩
abbrev cX8_deedAt : ByteArray := prog_10_method_9_code
def yX8_deedAt : MethodName := ⟨RX8, "deedAt", "(LBearerKin$Hours;II)I"⟩
abbrev cX8_firstStep : ByteArray := prog_10_method_10_code
def yX8_firstStep : MethodName := ⟨RX8, "firstStep", "(LBearerKin$Hours;II)I"⟩
abbrev cX8_canGoOn : ByteArray := prog_10_method_11_code
def yX8_canGoOn : MethodName := ⟨RX8, "canGoOn", "(LBearerKin$Hours;II)Z"⟩
abbrev cX8_bearersAt : ByteArray := prog_10_method_12_code
def yX8_bearersAt : MethodName := ⟨RX8, "bearersAt", "(LBearerKin$Hours;II)I"⟩
def RX9 : String := "BearerKin$Tokens"
def TX9 : u_T := fun k => match k with
  | 0 => ("BearerKin$Tokens", "tape", "[B", true)
  | 1 => ("BearerKin$Tokens", "taped", "I", false)
  | 2 => ("BearerKin$Tokens", "length", "I", false)
  | 3 => ("BearerKin$Tokens", "begin", "I", false)
  | 4 => ("BearerKin$Tokens", "behind", "I", false)
  | 5 => ("BearerKin$Tokens", "kind", "I", false)
  | 6 => ("BearerKin$Tokens", "value", "I", false)
  | 7 => ("BearerKin$Tokens", "fault", "I", false)
  | _ => ("BearerKin$Tokens", "faultAt", "I", false)
def tyX9 : Nat → FieldType := fun k => match k with
  | 0 => .array .byte
  | 1 => .int
  | 2 => .int
  | 3 => .int
  | 4 => .int
  | 5 => .int
  | 6 => .int
  | 7 => .int
  | _ => .int
theorem nmX9 : ∀ a, a < 9 → ∀ b, b < 9 → a ≠ b → (TX9 a).2.1 ≠ (TX9 b).2.1 := by decide +kernel
theorem tyX9_ok : ∀ k, k < 9 → parseFieldDescriptor (TX9 k).2.2.1 = some (tyX9 k) := by decide +kernel
abbrev cX9_init : ByteArray := prog_11_method_1_code
def yX9_init : MethodName := ⟨RX9, "<init>", "()V"⟩
abbrev cX9_hasRoom : ByteArray := prog_11_method_2_code
def yX9_hasRoom : MethodName := ⟨RX9, "hasRoom", "(I)Z"⟩
abbrev cX9_put : ByteArray := prog_11_method_3_code
def yX9_put : MethodName := ⟨RX9, "put", "(I)V"⟩
abbrev cX9_open : ByteArray := prog_11_method_4_code
def yX9_open : MethodName := ⟨RX9, "open", "(I)V"⟩
abbrev cX9_refuse : ByteArray := prog_11_method_5_code
def yX9_refuse : MethodName := ⟨RX9, "refuse", "(I)V"⟩
abbrev cX9_expect : ByteArray := prog_11_method_6_code
def yX9_expect : MethodName := ⟨RX9, "expect", "(I)V"⟩
abbrev cX9_step : ByteArray := prog_11_method_7_code
def yX9_step : MethodName := ⟨RX9, "step", "()V"⟩
abbrev cX9_takeNumber : ByteArray := prog_11_method_8_code
def yX9_takeNumber : MethodName := ⟨RX9, "takeNumber", "()V"⟩
abbrev cX9_takeWord : ByteArray := prog_11_method_9_code
def yX9_takeWord : MethodName := ⟨RX9, "takeWord", "()V"⟩
def RX10 : String := "BearerKin$Told"
def TX10 : u_T := fun k => match k with
  | 0 => ("BearerKin$Told", "numbers", "[I", true)
  | 1 => ("BearerKin$Told", "length", "I", false)
  | 2 => ("BearerKin$Told", "upWeight", "J", false)
  | 3 => ("BearerKin$Told", "strengthWeight", "J", false)
  | 4 => ("BearerKin$Told", "whole", "I", false)
  | 5 => ("BearerKin$Told", "outcomes", "[I", true)
  | _ => ("BearerKin$Told", "seed", "I", false)
def tyX10 : Nat → FieldType := fun k => match k with
  | 0 => .array .int
  | 1 => .int
  | 2 => .long
  | 3 => .long
  | 4 => .int
  | 5 => .array .int
  | _ => .int
theorem nmX10 : ∀ a, a < 7 → ∀ b, b < 7 → a ≠ b → (TX10 a).2.1 ≠ (TX10 b).2.1 := by decide +kernel
theorem tyX10_ok : ∀ k, k < 7 → parseFieldDescriptor (TX10 k).2.2.1 = some (tyX10 k) := by decide +kernel
abbrev cX10_init : ByteArray := prog_12_method_1_code
def yX10_init : MethodName := ⟨RX10, "<init>", "()V"⟩
abbrev cX10_expectMany : ByteArray := prog_12_method_2_code
def yX10_expectMany : MethodName := ⟨RX10, "expectMany", "(I)V"⟩
abbrev cX10_expect : ByteArray := prog_12_method_3_code
def yX10_expect : MethodName := ⟨RX10, "expect", "(II)V"⟩
abbrev cX10_sow : ByteArray := prog_12_method_4_code
def yX10_sow : MethodName := ⟨RX10, "sow", "(I)V"⟩
abbrev cX10_draw : ByteArray := prog_12_method_5_code
def yX10_draw : MethodName := ⟨RX10, "draw", "(I)I"⟩
abbrev cX10_drawDeed : ByteArray := prog_12_method_6_code
def yX10_drawDeed : MethodName := ⟨RX10, "drawDeed", "()I"⟩
abbrev cX10_skies : ByteArray := prog_12_method_7_code
def yX10_skies : MethodName := ⟨RX10, "skies", "(LBearerKin$Hours;I)I"⟩
abbrev cX10_tiresSo : ByteArray := prog_12_method_8_code
def yX10_tiresSo : MethodName := ⟨RX10, "tiresSo", "(LBearerKin$Hours;I)Z"⟩
abbrev cX10_bestTrial : ByteArray := prog_12_method_9_code
def yX10_bestTrial : MethodName := ⟨RX10, "bestTrial", "(LBearerKin$Hours;II)I"⟩
abbrev cX10_mostAlike : ByteArray := prog_12_method_10_code
def yX10_mostAlike : MethodName := ⟨RX10, "mostAlike", "(LBearerKin$Hours;III)I"⟩
abbrev cX10_drawAll : ByteArray := prog_12_method_11_code
def yX10_drawAll : MethodName := ⟨RX10, "drawAll", "(LBearerKin$Hours;I)V"⟩
abbrev cX10_weigh : ByteArray := prog_12_method_12_code
def yX10_weigh : MethodName := ⟨RX10, "weigh", "(LBearerKin$Hours;III)V"⟩
abbrev cX10_settle : ByteArray := prog_12_method_13_code
def yX10_settle : MethodName := ⟨RX10, "settle", "(LBearerKin$County;II)V"⟩
abbrev cX10_inLowestTerms : ByteArray := prog_12_method_14_code
def yX10_inLowestTerms : MethodName := ⟨RX10, "inLowestTerms", "(JI)I"⟩
def RX11 : String := "BearerKin"
def TX11 : u_T := fun k => match k with
  | 0 => ("BearerKin", "tokens", "LBearerKin$Tokens;", true)
  | 1 => ("BearerKin", "reader", "LBearerKin$Reader;", true)
  | 2 => ("BearerKin", "hours", "LBearerKin$Hours;", true)
  | 3 => ("BearerKin", "coming", "LBearerKin$Coming;", true)
  | 4 => ("BearerKin", "keeper", "LBearerKin$Keeping;", true)
  | 5 => ("BearerKin", "paths", "LBearerKin$Rows;", true)
  | 6 => ("BearerKin", "beast", "LBearerKin$Beast;", true)
  | 7 => ("BearerKin", "told", "LBearerKin$Told;", true)
  | 8 => ("BearerKin", "now", "LBearerKin$Moment;", true)
  | 9 => ("BearerKin", "trial", "LBearerKin$Moment;", true)
  | 10 => ("BearerKin", "images", "[LBearerKin$Moment;", true)
  | 11 => ("BearerKin", "past", "[I", true)
  | 12 => ("BearerKin", "undoable", "I", false)
  | 13 => ("BearerKin", "trayNumbers", "[J", true)
  | 14 => ("BearerKin", "traySizes", "[I", true)
  | 15 => ("BearerKin", "traySorts", "[I", true)
  | 16 => ("BearerKin", "faultKind", "I", false)
  | _ => ("BearerKin", "faultAt", "I", false)
def tyX11 : Nat → FieldType := fun k => match k with
  | 0 => .object "BearerKin$Tokens"
  | 1 => .object "BearerKin$Reader"
  | 2 => .object "BearerKin$Hours"
  | 3 => .object "BearerKin$Coming"
  | 4 => .object "BearerKin$Keeping"
  | 5 => .object "BearerKin$Rows"
  | 6 => .object "BearerKin$Beast"
  | 7 => .object "BearerKin$Told"
  | 8 => .object "BearerKin$Moment"
  | 9 => .object "BearerKin$Moment"
  | 10 => .array (.object "BearerKin$Moment")
  | 11 => .array .int
  | 12 => .int
  | 13 => .array .long
  | 14 => .array .int
  | 15 => .array .int
  | 16 => .int
  | _ => .int
theorem nmX11 : ∀ a, a < 18 → ∀ b, b < 18 → a ≠ b → (TX11 a).2.1 ≠ (TX11 b).2.1 := by decide +kernel
theorem tyX11_ok : ∀ k, k < 18 → parseFieldDescriptor (TX11 k).2.2.1 = some (tyX11 k) := by decide +kernel
abbrev cX11_init : ByteArray := prog_1_method_1_code
def yX11_init : MethodName := ⟨RX11, "<init>", "()V"⟩
abbrev cX11_feed : ByteArray := prog_1_method_2_code
def yX11_feed : MethodName := ⟨RX11, "feed", "(IIIII)I"⟩
abbrev cX11_county : ByteArray := prog_1_method_3_code
def yX11_county : MethodName := ⟨RX11, "county", "(I)I"⟩
abbrev cX11_fault : ByteArray := prog_1_method_4_code
def yX11_fault : MethodName := ⟨RX11, "fault", "(I)I"⟩
abbrev cX11_place : ByteArray := prog_1_method_5_code
def yX11_place : MethodName := ⟨RX11, "place", "(II)I"⟩
abbrev cX11_kin : ByteArray := prog_1_method_6_code
def yX11_kin : MethodName := ⟨RX11, "kin", "(II)I"⟩
abbrev cX11_why : ByteArray := prog_1_method_7_code
def yX11_why : MethodName := ⟨RX11, "why", "(I)I"⟩
abbrev cX11_by : ByteArray := prog_1_method_8_code
def yX11_by : MethodName := ⟨RX11, "by", "(II)I"⟩
abbrev cX11_hour : ByteArray := prog_1_method_9_code
def yX11_hour : MethodName := ⟨RX11, "hour", "(I)I"⟩
abbrev cX11_meal : ByteArray := prog_1_method_10_code
def yX11_meal : MethodName := ⟨RX11, "meal", "(I)I"⟩
abbrev cX11_weather : ByteArray := prog_1_method_11_code
def yX11_weather : MethodName := ⟨RX11, "weather", "(I)I"⟩
abbrev cX11_undo : ByteArray := prog_1_method_12_code
def yX11_undo : MethodName := ⟨RX11, "undo", "(I)I"⟩
abbrev cX11_judge : ByteArray := prog_1_method_13_code
def yX11_judge : MethodName := ⟨RX11, "judge", "(II)I"⟩
abbrev cX11_perform : ByteArray := prog_1_method_14_code
def yX11_perform : MethodName := ⟨RX11, "perform", "(I)I"⟩
abbrev cX11_century : ByteArray := prog_1_method_15_code
def yX11_century : MethodName := ⟨RX11, "century", "(II)I"⟩
abbrev cX11_up : ByteArray := prog_1_method_16_code
def yX11_up : MethodName := ⟨RX11, "up", "()I"⟩
abbrev cX11_keeping : ByteArray := prog_1_method_17_code
def yX11_keeping : MethodName := ⟨RX11, "keeping", "(I)I"⟩
abbrev cX11_rows : ByteArray := prog_1_method_18_code
def yX11_rows : MethodName := ⟨RX11, "rows", "(I)J"⟩
abbrev cX11_needed : ByteArray := prog_1_method_19_code
def yX11_needed : MethodName := ⟨RX11, "needed", "(I)I"⟩
abbrev cX11_soonest : ByteArray := prog_1_method_20_code
def yX11_soonest : MethodName := ⟨RX11, "soonest", "(II)I"⟩
abbrev cX11_way : ByteArray := prog_1_method_21_code
def yX11_way : MethodName := ⟨RX11, "way", "(III)I"⟩
abbrev cX11_reach : ByteArray := prog_1_method_22_code
def yX11_reach : MethodName := ⟨RX11, "reach", "()I"⟩
abbrev cX11_bearers : ByteArray := prog_1_method_23_code
def yX11_bearers : MethodName := ⟨RX11, "bearers", "()I"⟩
abbrev cX11_stands : ByteArray := prog_1_method_24_code
def yX11_stands : MethodName := ⟨RX11, "stands", "()I"⟩
abbrev cX11_seen : ByteArray := prog_1_method_25_code
def yX11_seen : MethodName := ⟨RX11, "seen", "(I)J"⟩
abbrev cX11_seenBy : ByteArray := prog_1_method_26_code
def yX11_seenBy : MethodName := ⟨RX11, "seenBy", "(II)I"⟩
abbrev cX11_suspects : ByteArray := prog_1_method_27_code
def yX11_suspects : MethodName := ⟨RX11, "suspects", "(II)I"⟩
abbrev cX11_weathers : ByteArray := prog_1_method_28_code
def yX11_weathers : MethodName := ⟨RX11, "weathers", "(I)I"⟩
abbrev cX11_attempt : ByteArray := prog_1_method_29_code
def yX11_attempt : MethodName := ⟨RX11, "attempt", "(I)I"⟩
abbrev cX11_lasts : ByteArray := prog_1_method_30_code
def yX11_lasts : MethodName := ⟨RX11, "lasts", "()I"⟩
abbrev cX11_best : ByteArray := prog_1_method_31_code
def yX11_best : MethodName := ⟨RX11, "best", "()I"⟩
abbrev cX11_chance : ByteArray := prog_1_method_32_code
def yX11_chance : MethodName := ⟨RX11, "chance", "(II)I"⟩
abbrev cX11_mean : ByteArray := prog_1_method_33_code
def yX11_mean : MethodName := ⟨RX11, "mean", "(II)I"⟩
abbrev cX11_numbers : ByteArray := prog_1_method_34_code
def yX11_numbers : MethodName := ⟨RX11, "numbers", "(III)I"⟩
abbrev cX11_write : ByteArray := prog_1_method_35_code
def yX11_write : MethodName := ⟨RX11, "write", "(IIJ)J"⟩
abbrev cX11_lists : ByteArray := prog_1_method_36_code
def yX11_lists : MethodName := ⟨RX11, "lists", "(III)I"⟩
abbrev cX11_image : ByteArray := prog_1_method_37_code
def yX11_image : MethodName := ⟨RX11, "image", "(I)I"⟩
abbrev cX11_restore : ByteArray := prog_1_method_38_code
def yX11_restore : MethodName := ⟨RX11, "restore", "(I)I"⟩
abbrev cX11_count : ByteArray := prog_1_method_39_code
def yX11_count : MethodName := ⟨RX11, "count", "(I)I"⟩
abbrev cX11_isPlace : ByteArray := prog_1_method_40_code
def yX11_isPlace : MethodName := ⟨RX11, "isPlace", "(I)Z"⟩
abbrev cX11_isKin : ByteArray := prog_1_method_41_code
def yX11_isKin : MethodName := ⟨RX11, "isKin", "(I)Z"⟩
abbrev cX11_isTray : ByteArray := prog_1_method_42_code
def yX11_isTray : MethodName := ⟨RX11, "isTray", "(I)Z"⟩
abbrev cX11_isAim : ByteArray := prog_1_method_43_code
def yX11_isAim : MethodName := ⟨RX11, "isAim", "(II)Z"⟩
abbrev cX11_come : ByteArray := prog_1_method_44_code
def yX11_come : MethodName := ⟨RX11, "come", "(II)I"⟩
abbrev cX11_numberOf : ByteArray := prog_1_method_45_code
def yX11_numberOf : MethodName := ⟨RX11, "numberOf", "(II)J"⟩
abbrev cX11_store : ByteArray := prog_1_method_46_code
def yX11_store : MethodName := ⟨RX11, "store", "(IIJ)J"⟩
abbrev cX11_actAll : ByteArray := prog_1_method_47_code
def yX11_actAll : MethodName := ⟨RX11, "actAll", "(LBearerKin$Moment;I)I"⟩
abbrev cX11_remember : ByteArray := prog_1_method_48_code
def yX11_remember : MethodName := ⟨RX11, "remember", "(LBearerKin$Moment;)V"⟩
abbrev cX11_refuseTray : ByteArray := prog_1_method_49_code
def yX11_refuseTray : MethodName := ⟨RX11, "refuseTray", "(IIII)I"⟩
abbrev cX11_expectSeen : ByteArray := prog_1_method_50_code
def yX11_expectSeen : MethodName := ⟨RX11, "expectSeen", "(II)I"⟩
abbrev cX11_expectTired : ByteArray := prog_1_method_51_code
def yX11_expectTired : MethodName := ⟨RX11, "expectTired", "(I)I"⟩
abbrev cX11_expectLots : ByteArray := prog_1_method_52_code
def yX11_expectLots : MethodName := ⟨RX11, "expectLots", "(II)I"⟩
def RX12 : String := "BearerKinModel"
def TX12 : u_T := fun k => match k with
  | 0 => ("BearerKinModel", "thrown", "I", false)
  | 1 => ("BearerKinModel", "all", "[I", true)
  | 2 => ("BearerKinModel", "hasImage", "[Z", true)
  | 3 => ("BearerKinModel", "tape", "[I", true)
  | 4 => ("BearerKinModel", "fresh", "[I", true)
  | 5 => ("BearerKinModel", "taped", "I", false)
  | 6 => ("BearerKinModel", "at", "I", false)
  | 7 => ("BearerKinModel", "behind", "I", false)
  | 8 => ("BearerKinModel", "size", "I", false)
  | 9 => ("BearerKinModel", "kind", "I", false)
  | 10 => ("BearerKinModel", "number", "I", false)
  | 11 => ("BearerKinModel", "wrong", "I", false)
  | 12 => ("BearerKinModel", "wrongAt", "I", false)
  | 13 => ("BearerKinModel", "faultKind", "I", false)
  | 14 => ("BearerKinModel", "faultPlace", "I", false)
  | 15 => ("BearerKinModel", "reading", "I", false)
  | 16 => ("BearerKinModel", "reckoned", "[I", true)
  | 17 => ("BearerKinModel", "words", "[I", true)
  | 18 => ("BearerKinModel", "was", "[I", true)
  | 19 => ("BearerKinModel", "toldWhy", "I", false)
  | 20 => ("BearerKinModel", "x", "I", false)
  | 21 => ("BearerKinModel", "stand", "[I", true)
  | 22 => ("BearerKinModel", "then", "[I", true)
  | 23 => ("BearerKinModel", "far", "[I", true)
  | 24 => ("BearerKinModel", "indexOf", "[I", true)
  | 25 => ("BearerKinModel", "standMany", "I", false)
  | 26 => ("BearerKinModel", "round", "I", false)
  | 27 => ("BearerKinModel", "many", "[J", true)
  | 28 => ("BearerKinModel", "manyThen", "[J", true)
  | 29 => ("BearerKinModel", "on", "[J", true)
  | 30 => ("BearerKinModel", "strongBy", "[I", true)
  | 31 => ("BearerKinModel", "upSum", "J", false)
  | 32 => ("BearerKinModel", "strongSum", "J", false)
  | 33 => ("BearerKinModel", "rowSort", "[I", true)
  | 34 => ("BearerKinModel", "rowMany", "[I", true)
  | _ => ("BearerKinModel", "numbers", "[J", true)
def tyX12 : Nat → FieldType := fun k => match k with
  | 0 => .int
  | 1 => .array .int
  | 2 => .array .boolean
  | 3 => .array .int
  | 4 => .array .int
  | 5 => .int
  | 6 => .int
  | 7 => .int
  | 8 => .int
  | 9 => .int
  | 10 => .int
  | 11 => .int
  | 12 => .int
  | 13 => .int
  | 14 => .int
  | 15 => .int
  | 16 => .array .int
  | 17 => .array .int
  | 18 => .array .int
  | 19 => .int
  | 20 => .int
  | 21 => .array .int
  | 22 => .array .int
  | 23 => .array .int
  | 24 => .array .int
  | 25 => .int
  | 26 => .int
  | 27 => .array .long
  | 28 => .array .long
  | 29 => .array .long
  | 30 => .array .int
  | 31 => .long
  | 32 => .long
  | 33 => .array .int
  | 34 => .array .int
  | _ => .array .long
theorem nmX12 : ∀ a, a < 36 → ∀ b, b < 36 → a ≠ b → (TX12 a).2.1 ≠ (TX12 b).2.1 := by decide +kernel
theorem tyX12_ok : ∀ k, k < 36 → parseFieldDescriptor (TX12 k).2.2.1 = some (tyX12 k) := by decide +kernel
abbrev cX12_within : ByteArray := prog_14_method_2_code
def yX12_within : MethodName := ⟨RX12, "within", "(JJJ)Z"⟩
abbrev cX12_init : ByteArray := prog_14_method_3_code
def yX12_init : MethodName := ⟨RX12, "<init>", "()V"⟩
abbrev cX12_plain : ByteArray := prog_14_method_4_code
def yX12_plain : MethodName := ⟨RX12, "plain", "([I)V"⟩
abbrev cX12_feed : ByteArray := prog_14_method_5_code
def yX12_feed : MethodName := ⟨RX12, "feed", "(IIIII)I"⟩
abbrev cX12_see : ByteArray := prog_14_method_6_code
def yX12_see : MethodName := ⟨RX12, "see", "(I)I"⟩
abbrev cX12_isSmall : ByteArray := prog_14_method_7_code
def yX12_isSmall : MethodName := ⟨RX12, "isSmall", "(I)Z"⟩
abbrev cX12_isDigit : ByteArray := prog_14_method_8_code
def yX12_isDigit : MethodName := ⟨RX12, "isDigit", "(I)Z"⟩
abbrev cX12_keyAt : ByteArray := prog_14_method_9_code
def yX12_keyAt : MethodName := ⟨RX12, "keyAt", "()I"⟩
abbrev cX12_next : ByteArray := prog_14_method_10_code
def yX12_next : MethodName := ⟨RX12, "next", "()V"⟩
abbrev cX12_fails : ByteArray := prog_14_method_11_code
def yX12_fails : MethodName := ⟨RX12, "fails", "(I)V"⟩
abbrev cX12_is : ByteArray := prog_14_method_12_code
def yX12_is : MethodName := ⟨RX12, "is", "(I)Z"⟩
abbrev cX12_eats : ByteArray := prog_14_method_13_code
def yX12_eats : MethodName := ⟨RX12, "eats", "(I)Z"⟩
abbrev cX12_takes : ByteArray := prog_14_method_14_code
def yX12_takes : MethodName := ⟨RX12, "takes", "(II)I"⟩
abbrev cX12_isIn : ByteArray := prog_14_method_15_code
def yX12_isIn : MethodName := ⟨RX12, "isIn", "(JI)Z"⟩
abbrev cX12_wordOf : ByteArray := prog_14_method_16_code
def yX12_wordOf : MethodName := ⟨RX12, "wordOf", "(I)I"⟩
abbrev cX12_codes : ByteArray := prog_14_method_17_code
def yX12_codes : MethodName := ⟨RX12, "codes", "(I)V"⟩
abbrev cX12_goesIn : ByteArray := prog_14_method_18_code
def yX12_goesIn : MethodName := ⟨RX12, "goesIn", "(I)Z"⟩
abbrev cX12_readAtom : ByteArray := prog_14_method_19_code
def yX12_readAtom : MethodName := ⟨RX12, "readAtom", "(I)V"⟩
abbrev cX12_readIf : ByteArray := prog_14_method_20_code
def yX12_readIf : MethodName := ⟨RX12, "readIf", "(I)V"⟩
abbrev cX12_readTerm : ByteArray := prog_14_method_21_code
def yX12_readTerm : MethodName := ⟨RX12, "readTerm", "(I)V"⟩
abbrev cX12_readSum : ByteArray := prog_14_method_22_code
def yX12_readSum : MethodName := ⟨RX12, "readSum", "(I)V"⟩
abbrev cX12_readUnit : ByteArray := prog_14_method_23_code
def yX12_readUnit : MethodName := ⟨RX12, "readUnit", "(I)V"⟩
abbrev cX12_readBoth : ByteArray := prog_14_method_24_code
def yX12_readBoth : MethodName := ⟨RX12, "readBoth", "(I)V"⟩
abbrev cX12_readTruth : ByteArray := prog_14_method_25_code
def yX12_readTruth : MethodName := ⟨RX12, "readTruth", "(I)V"⟩
abbrev cX12_readHeight : ByteArray := prog_14_method_26_code
def yX12_readHeight : MethodName := ⟨RX12, "readHeight", "()V"⟩
abbrev cX12_readWay : ByteArray := prog_14_method_27_code
def yX12_readWay : MethodName := ⟨RX12, "readWay", "()V"⟩
abbrev cX12_readFlag : ByteArray := prog_14_method_28_code
def yX12_readFlag : MethodName := ⟨RX12, "readFlag", "(I)Z"⟩
abbrev cX12_readKin : ByteArray := prog_14_method_29_code
def yX12_readKin : MethodName := ⟨RX12, "readKin", "()V"⟩
abbrev cX12_readLaw : ByteArray := prog_14_method_30_code
def yX12_readLaw : MethodName := ⟨RX12, "readLaw", "(I)V"⟩
abbrev cX12_readLine : ByteArray := prog_14_method_31_code
def yX12_readLine : MethodName := ⟨RX12, "readLine", "()V"⟩
abbrev cX12_ends : ByteArray := prog_14_method_32_code
def yX12_ends : MethodName := ⟨RX12, "ends", "()V"⟩
abbrev cX12_county : ByteArray := prog_14_method_33_code
def yX12_county : MethodName := ⟨RX12, "county", "(I)I"⟩
abbrev cX12_fault : ByteArray := prog_14_method_34_code
def yX12_fault : MethodName := ⟨RX12, "fault", "(I)I"⟩
abbrev cX12_isKin : ByteArray := prog_14_method_35_code
def yX12_isKin : MethodName := ⟨RX12, "isKin", "(J)Z"⟩
abbrev cX12_isPlace : ByteArray := prog_14_method_36_code
def yX12_isPlace : MethodName := ⟨RX12, "isPlace", "(J)Z"⟩
abbrev cX12_placeIn : ByteArray := prog_14_method_37_code
def yX12_placeIn : MethodName := ⟨RX12, "placeIn", "(II)I"⟩
abbrev cX12_strengthIn : ByteArray := prog_14_method_38_code
def yX12_strengthIn : MethodName := ⟨RX12, "strengthIn", "(II)I"⟩
abbrev cX12_bearerIn : ByteArray := prog_14_method_39_code
def yX12_bearerIn : MethodName := ⟨RX12, "bearerIn", "(I)I"⟩
abbrev cX12_withStrength : ByteArray := prog_14_method_40_code
def yX12_withStrength : MethodName := ⟨RX12, "withStrength", "(III)I"⟩
abbrev cX12_withPlace : ByteArray := prog_14_method_41_code
def yX12_withPlace : MethodName := ⟨RX12, "withPlace", "(III)I"⟩
abbrev cX12_standNow : ByteArray := prog_14_method_42_code
def yX12_standNow : MethodName := ⟨RX12, "standNow", "()I"⟩
abbrev cX12_isStand : ByteArray := prog_14_method_43_code
def yX12_isStand : MethodName := ⟨RX12, "isStand", "(I)V"⟩
abbrev cX12_isDown : ByteArray := prog_14_method_44_code
def yX12_isDown : MethodName := ⟨RX12, "isDown", "(I)Z"⟩
abbrev cX12_sumIn : ByteArray := prog_14_method_45_code
def yX12_sumIn : MethodName := ⟨RX12, "sumIn", "(I)I"⟩
abbrev cX12_between : ByteArray := prog_14_method_46_code
def yX12_between : MethodName := ⟨RX12, "between", "(III)I"⟩
abbrev cX12_reckons : ByteArray := prog_14_method_47_code
def yX12_reckons : MethodName := ⟨RX12, "reckons", "(IIIIII)I"⟩
abbrev cX12_mayGo : ByteArray := prog_14_method_48_code
def yX12_mayGo : MethodName := ⟨RX12, "mayGo", "(IIII)Z"⟩
abbrev cX12_tiredTo : ByteArray := prog_14_method_49_code
def yX12_tiredTo : MethodName := ⟨RX12, "tiredTo", "(IIII)I"⟩
abbrev cX12_toldMove : ByteArray := prog_14_method_50_code
def yX12_toldMove : MethodName := ⟨RX12, "toldMove", "(I)I"⟩
abbrev cX12_moveOf : ByteArray := prog_14_method_51_code
def yX12_moveOf : MethodName := ⟨RX12, "moveOf", "(J)I"⟩
abbrev cX12_isMove : ByteArray := prog_14_method_52_code
def yX12_isMove : MethodName := ⟨RX12, "isMove", "(I)Z"⟩
abbrev cX12_whyBy : ByteArray := prog_14_method_53_code
def yX12_whyBy : MethodName := ⟨RX12, "whyBy", "(III)I"⟩
abbrev cX12_hourTo : ByteArray := prog_14_method_54_code
def yX12_hourTo : MethodName := ⟨RX12, "hourTo", "(III)I"⟩
abbrev cX12_place : ByteArray := prog_14_method_55_code
def yX12_place : MethodName := ⟨RX12, "place", "(II)I"⟩
abbrev cX12_kin : ByteArray := prog_14_method_56_code
def yX12_kin : MethodName := ⟨RX12, "kin", "(II)I"⟩
abbrev cX12_whyHour : ByteArray := prog_14_method_57_code
def yX12_whyHour : MethodName := ⟨RX12, "whyHour", "(J)I"⟩
abbrev cX12_why : ByteArray := prog_14_method_58_code
def yX12_why : MethodName := ⟨RX12, "why", "(I)I"⟩
abbrev cX12_by : ByteArray := prog_14_method_59_code
def yX12_by : MethodName := ⟨RX12, "by", "(II)I"⟩
abbrev cX12_keeps : ByteArray := prog_14_method_60_code
def yX12_keeps : MethodName := ⟨RX12, "keeps", "()V"⟩
abbrev cX12_isAgain : ByteArray := prog_14_method_61_code
def yX12_isAgain : MethodName := ⟨RX12, "isAgain", "()V"⟩
abbrev cX12_notes : ByteArray := prog_14_method_62_code
def yX12_notes : MethodName := ⟨RX12, "notes", "()V"⟩
abbrev cX12_goesHour : ByteArray := prog_14_method_63_code
def yX12_goesHour : MethodName := ⟨RX12, "goesHour", "(I)V"⟩
abbrev cX12_hour : ByteArray := prog_14_method_64_code
def yX12_hour : MethodName := ⟨RX12, "hour", "(I)I"⟩
abbrev cX12_meal : ByteArray := prog_14_method_65_code
def yX12_meal : MethodName := ⟨RX12, "meal", "(I)I"⟩
abbrev cX12_weather : ByteArray := prog_14_method_66_code
def yX12_weather : MethodName := ⟨RX12, "weather", "(I)I"⟩
abbrev cX12_undo : ByteArray := prog_14_method_67_code
def yX12_undo : MethodName := ⟨RX12, "undo", "(I)I"⟩
abbrev cX12_whyNot : ByteArray := prog_14_method_68_code
def yX12_whyNot : MethodName := ⟨RX12, "whyNot", "(J)I"⟩
abbrev cX12_does : ByteArray := prog_14_method_69_code
def yX12_does : MethodName := ⟨RX12, "does", "(I)V"⟩
abbrev cX12_tells : ByteArray := prog_14_method_70_code
def yX12_tells : MethodName := ⟨RX12, "tells", "(I)I"⟩
abbrev cX12_noTray : ByteArray := prog_14_method_71_code
def yX12_noTray : MethodName := ⟨RX12, "noTray", "(I)I"⟩
abbrev cX12_whereNow : ByteArray := prog_14_method_72_code
def yX12_whereNow : MethodName := ⟨RX12, "whereNow", "()I"⟩
abbrev cX12_judge : ByteArray := prog_14_method_73_code
def yX12_judge : MethodName := ⟨RX12, "judge", "(II)I"⟩
abbrev cX12_perform : ByteArray := prog_14_method_74_code
def yX12_perform : MethodName := ⟨RX12, "perform", "(I)I"⟩
abbrev cX12_draw : ByteArray := prog_14_method_75_code
def yX12_draw : MethodName := ⟨RX12, "draw", "(I)I"⟩
abbrev cX12_drawn : ByteArray := prog_14_method_76_code
def yX12_drawn : MethodName := ⟨RX12, "drawn", "()I"⟩
abbrev cX12_century : ByteArray := prog_14_method_77_code
def yX12_century : MethodName := ⟨RX12, "century", "(II)I"⟩
abbrev cX12_adds : ByteArray := prog_14_method_78_code
def yX12_adds : MethodName := ⟨RX12, "adds", "(I)I"⟩
abbrev cX12_weaker : ByteArray := prog_14_method_79_code
def yX12_weaker : MethodName := ⟨RX12, "weaker", "(II)I"⟩
abbrev cX12_laysStands : ByteArray := prog_14_method_80_code
def yX12_laysStands : MethodName := ⟨RX12, "laysStands", "(IZ)V"⟩
abbrev cX12_isUp : ByteArray := prog_14_method_81_code
def yX12_isUp : MethodName := ⟨RX12, "isUp", "(I)Z"⟩
abbrev cX12_downNow : ByteArray := prog_14_method_82_code
def yX12_downNow : MethodName := ⟨RX12, "downNow", "()Z"⟩
abbrev cX12_farNow : ByteArray := prog_14_method_83_code
def yX12_farNow : MethodName := ⟨RX12, "farNow", "(I)I"⟩
abbrev cX12_upBy : ByteArray := prog_14_method_84_code
def yX12_upBy : MethodName := ⟨RX12, "upBy", "(IIZ)I"⟩
abbrev cX12_laysUp : ByteArray := prog_14_method_85_code
def yX12_laysUp : MethodName := ⟨RX12, "laysUp", "(Z)I"⟩
abbrev cX12_toldFar : ByteArray := prog_14_method_86_code
def yX12_toldFar : MethodName := ⟨RX12, "toldFar", "(I)I"⟩
abbrev cX12_up : ByteArray := prog_14_method_87_code
def yX12_up : MethodName := ⟨RX12, "up", "()I"⟩
abbrev cX12_keeping : ByteArray := prog_14_method_88_code
def yX12_keeping : MethodName := ⟨RX12, "keeping", "(I)I"⟩
abbrev cX12_beginsMany : ByteArray := prog_14_method_89_code
def yX12_beginsMany : MethodName := ⟨RX12, "beginsMany", "()V"⟩
abbrev cX12_isThen : ByteArray := prog_14_method_90_code
def yX12_isThen : MethodName := ⟨RX12, "isThen", "()V"⟩
abbrev cX12_rows : ByteArray := prog_14_method_91_code
def yX12_rows : MethodName := ⟨RX12, "rows", "(I)J"⟩
abbrev cX12_canKeep : ByteArray := prog_14_method_92_code
def yX12_canKeep : MethodName := ⟨RX12, "canKeep", "(II)Z"⟩
abbrev cX12_needed : ByteArray := prog_14_method_93_code
def yX12_needed : MethodName := ⟨RX12, "needed", "(I)I"⟩
abbrev cX12_isGoal : ByteArray := prog_14_method_94_code
def yX12_isGoal : MethodName := ⟨RX12, "isGoal", "(III)Z"⟩
abbrev cX12_farBy : ByteArray := prog_14_method_95_code
def yX12_farBy : MethodName := ⟨RX12, "farBy", "(II)I"⟩
abbrev cX12_laysFar : ByteArray := prog_14_method_96_code
def yX12_laysFar : MethodName := ⟨RX12, "laysFar", "(II)I"⟩
abbrev cX12_isAim : ByteArray := prog_14_method_97_code
def yX12_isAim : MethodName := ⟨RX12, "isAim", "(II)Z"⟩
abbrev cX12_deedAt : ByteArray := prog_14_method_98_code
def yX12_deedAt : MethodName := ⟨RX12, "deedAt", "(I)I"⟩
abbrev cX12_soonest : ByteArray := prog_14_method_99_code
def yX12_soonest : MethodName := ⟨RX12, "soonest", "(II)I"⟩
abbrev cX12_way : ByteArray := prog_14_method_100_code
def yX12_way : MethodName := ⟨RX12, "way", "(III)I"⟩
abbrev cX12_reach : ByteArray := prog_14_method_101_code
def yX12_reach : MethodName := ⟨RX12, "reach", "()I"⟩
abbrev cX12_bearers : ByteArray := prog_14_method_102_code
def yX12_bearers : MethodName := ⟨RX12, "bearers", "()I"⟩
abbrev cX12_stands : ByteArray := prog_14_method_103_code
def yX12_stands : MethodName := ⟨RX12, "stands", "()I"⟩
abbrev cX12_noSeen : ByteArray := prog_14_method_104_code
def yX12_noSeen : MethodName := ⟨RX12, "noSeen", "(I)I"⟩
abbrev cX12_isSeen : ByteArray := prog_14_method_105_code
def yX12_isSeen : MethodName := ⟨RX12, "isSeen", "(III)Z"⟩
abbrev cX12_laysSeen : ByteArray := prog_14_method_106_code
def yX12_laysSeen : MethodName := ⟨RX12, "laysSeen", "(I)J"⟩
abbrev cX12_seen : ByteArray := prog_14_method_107_code
def yX12_seen : MethodName := ⟨RX12, "seen", "(I)J"⟩
abbrev cX12_seenBy : ByteArray := prog_14_method_108_code
def yX12_seenBy : MethodName := ⟨RX12, "seenBy", "(II)I"⟩
abbrev cX12_suspects : ByteArray := prog_14_method_109_code
def yX12_suspects : MethodName := ⟨RX12, "suspects", "(II)I"⟩
abbrev cX12_noTired : ByteArray := prog_14_method_110_code
def yX12_noTired : MethodName := ⟨RX12, "noTired", "(I)I"⟩
abbrev cX12_weathersOf : ByteArray := prog_14_method_111_code
def yX12_weathersOf : MethodName := ⟨RX12, "weathersOf", "(I)I"⟩
abbrev cX12_weathers : ByteArray := prog_14_method_112_code
def yX12_weathers : MethodName := ⟨RX12, "weathers", "(I)I"⟩
abbrev cX12_strengthsIn : ByteArray := prog_14_method_113_code
def yX12_strengthsIn : MethodName := ⟨RX12, "strengthsIn", "(I)I"⟩
abbrev cX12_mostAlike : ByteArray := prog_14_method_114_code
def yX12_mostAlike : MethodName := ⟨RX12, "mostAlike", "(II)I"⟩
abbrev cX12_attempt : ByteArray := prog_14_method_115_code
def yX12_attempt : MethodName := ⟨RX12, "attempt", "(I)I"⟩
abbrev cX12_lasts : ByteArray := prog_14_method_116_code
def yX12_lasts : MethodName := ⟨RX12, "lasts", "()I"⟩
abbrev cX12_best : ByteArray := prog_14_method_117_code
def yX12_best : MethodName := ⟨RX12, "best", "()I"⟩
abbrev cX12_noChance : ByteArray := prog_14_method_118_code
def yX12_noChance : MethodName := ⟨RX12, "noChance", "(II)I"⟩
abbrev cX12_wholeOf : ByteArray := prog_14_method_119_code
def yX12_wholeOf : MethodName := ⟨RX12, "wholeOf", "(I)J"⟩
abbrev cX12_goesLots : ByteArray := prog_14_method_120_code
def yX12_goesLots : MethodName := ⟨RX12, "goesLots", "(IIIJ)V"⟩
abbrev cX12_common : ByteArray := prog_14_method_121_code
def yX12_common : MethodName := ⟨RX12, "common", "(JJ)J"⟩
abbrev cX12_part : ByteArray := prog_14_method_122_code
def yX12_part : MethodName := ⟨RX12, "part", "(JJI)I"⟩
abbrev cX12_laysLots : ByteArray := prog_14_method_123_code
def yX12_laysLots : MethodName := ⟨RX12, "laysLots", "(I)V"⟩
abbrev cX12_chance : ByteArray := prog_14_method_124_code
def yX12_chance : MethodName := ⟨RX12, "chance", "(II)I"⟩
abbrev cX12_mean : ByteArray := prog_14_method_125_code
def yX12_mean : MethodName := ⟨RX12, "mean", "(II)I"⟩
abbrev cX12_cut : ByteArray := prog_14_method_126_code
def yX12_cut : MethodName := ⟨RX12, "cut", "(JI)J"⟩
abbrev cX12_numbers : ByteArray := prog_14_method_127_code
def yX12_numbers : MethodName := ⟨RX12, "numbers", "(III)I"⟩
abbrev cX12_write : ByteArray := prog_14_method_128_code
def yX12_write : MethodName := ⟨RX12, "write", "(IIJ)J"⟩
abbrev cX12_lists : ByteArray := prog_14_method_129_code
def yX12_lists : MethodName := ⟨RX12, "lists", "(III)I"⟩
abbrev cX12_image : ByteArray := prog_14_method_130_code
def yX12_image : MethodName := ⟨RX12, "image", "(I)I"⟩
abbrev cX12_restore : ByteArray := prog_14_method_131_code
def yX12_restore : MethodName := ⟨RX12, "restore", "(I)I"⟩
abbrev cX12_count : ByteArray := prog_14_method_132_code
def yX12_count : MethodName := ⟨RX12, "count", "(I)I"⟩
def RJx145de : String := "java/io/Serializable"
def TJx145de : u_T := fun k => match k with
  | _ => ("", "", "", false)
def tyJx145de : Nat → FieldType := fun k => match k with
  | _ => .int
theorem nmJx145de : ∀ a, a < 0 → ∀ b, b < 0 → a ≠ b → (TJx145de a).2.1 ≠ (TJx145de b).2.1 := by decide +kernel
theorem tyJx145de_ok : ∀ k, k < 0 → parseFieldDescriptor (TJx145de k).2.2.1 = some (tyJx145de k) := by decide +kernel
def RJx9f9b0 : String := "java/lang/CharSequence"
def TJx9f9b0 : u_T := fun k => match k with
  | _ => ("", "", "", false)
def tyJx9f9b0 : Nat → FieldType := fun k => match k with
  | _ => .int
theorem nmJx9f9b0 : ∀ a, a < 0 → ∀ b, b < 0 → a ≠ b → (TJx9f9b0 a).2.1 ≠ (TJx9f9b0 b).2.1 := by decide +kernel
theorem tyJx9f9b0_ok : ∀ k, k < 0 → parseFieldDescriptor (TJx9f9b0 k).2.2.1 = some (tyJx9f9b0 k) := by decide +kernel
def RJ11 : String := "java/lang/Character"
def TJ11 : u_T := fun k => match k with
  | _ => ("", "", "", false)
def tyJ11 : Nat → FieldType := fun k => match k with
  | _ => .int
theorem nmJ11 : ∀ a, a < 0 → ∀ b, b < 0 → a ≠ b → (TJ11 a).2.1 ≠ (TJ11 b).2.1 := by decide +kernel
theorem tyJ11_ok : ∀ k, k < 0 → parseFieldDescriptor (TJ11 k).2.2.1 = some (tyJ11 k) := by decide +kernel
abbrev cJ11_isValidCodePoint_9a6ad : ByteArray := prog_15_method_11_code
def yJ11_isValidCodePoint_9a6ad : MethodName := ⟨RJ11, "isValidCodePoint", "(I)Z"⟩
abbrev cJ11_highSurrogate_5068e : ByteArray := prog_15_method_28_code
def yJ11_highSurrogate_5068e : MethodName := ⟨RJ11, "highSurrogate", "(I)C"⟩
abbrev cJ11_lowSurrogate_5068e : ByteArray := prog_15_method_29_code
def yJ11_lowSurrogate_5068e : MethodName := ⟨RJ11, "lowSurrogate", "(I)C"⟩
def RJx8e188 : String := "java/lang/Cloneable"
def TJx8e188 : u_T := fun k => match k with
  | _ => ("", "", "", false)
def tyJx8e188 : Nat → FieldType := fun k => match k with
  | _ => .int
theorem nmJx8e188 : ∀ a, a < 0 → ∀ b, b < 0 → a ≠ b → (TJx8e188 a).2.1 ≠ (TJx8e188 b).2.1 := by decide +kernel
theorem tyJx8e188_ok : ∀ k, k < 0 → parseFieldDescriptor (TJx8e188 k).2.2.1 = some (tyJx8e188 k) := by decide +kernel
def RJxb160c : String := "java/lang/Comparable"
def TJxb160c : u_T := fun k => match k with
  | _ => ("", "", "", false)
def tyJxb160c : Nat → FieldType := fun k => match k with
  | _ => .int
theorem nmJxb160c : ∀ a, a < 0 → ∀ b, b < 0 → a ≠ b → (TJxb160c a).2.1 ≠ (TJxb160c b).2.1 := by decide +kernel
theorem tyJxb160c_ok : ∀ k, k < 0 → parseFieldDescriptor (TJxb160c k).2.2.1 = some (tyJxb160c k) := by decide +kernel
def RJ9 : String := "java/lang/Math"
def TJ9 : u_T := fun k => match k with
  | _ => ("", "", "", false)
def tyJ9 : Nat → FieldType := fun k => match k with
  | _ => .int
theorem nmJ9 : ∀ a, a < 0 → ∀ b, b < 0 → a ≠ b → (TJ9 a).2.1 ≠ (TJ9 b).2.1 := by decide +kernel
theorem tyJ9_ok : ∀ k, k < 0 → parseFieldDescriptor (TJ9 k).2.2.1 = some (tyJ9 k) := by decide +kernel
abbrev cJ9_max_7cf53 : ByteArray := prog_17_method_65_code
def yJ9_max_7cf53 : MethodName := ⟨RJ9, "max", "(II)I"⟩
abbrev cJ9_max_f86c9 : ByteArray := prog_17_method_66_code
def yJ9_max_f86c9 : MethodName := ⟨RJ9, "max", "(JJ)J"⟩
abbrev cJ9_min_7cf53 : ByteArray := prog_17_method_69_code
def yJ9_min_7cf53 : MethodName := ⟨RJ9, "min", "(II)I"⟩
abbrev cJ9_min_f86c9 : ByteArray := prog_17_method_70_code
def yJ9_min_f86c9 : MethodName := ⟨RJ9, "min", "(JJ)J"⟩
def RJ0 : String := "java/lang/String"
def TJ0 : u_T := fun k => match k with
  | _ => ("", "", "", false)
def tyJ0 : Nat → FieldType := fun k => match k with
  | _ => .int
theorem nmJ0 : ∀ a, a < 0 → ∀ b, b < 0 → a ≠ b → (TJ0 a).2.1 ≠ (TJ0 b).2.1 := by decide +kernel
theorem tyJ0_ok : ∀ k, k < 0 → parseFieldDescriptor (TJ0 k).2.2.1 = some (tyJ0 k) := by decide +kernel
abbrev cJ0_length_8abf5 : ByteArray := prog_18_method_54_code
def yJ0_length_8abf5 : MethodName := ⟨RJ0, "length", "()I"⟩
abbrev cJ0_charAt_5068e : ByteArray := prog_18_method_56_code
def yJ0_charAt_5068e : MethodName := ⟨RJ0, "charAt", "(I)C"⟩
abbrev cJ0_indexOf_0f7a4 : ByteArray := prog_18_method_79_code
def yJ0_indexOf_0f7a4 : MethodName := ⟨RJ0, "indexOf", "(I)I"⟩
abbrev cJ0_indexOf_7cf53 : ByteArray := prog_18_method_80_code
def yJ0_indexOf_7cf53 : MethodName := ⟨RJ0, "indexOf", "(II)I"⟩
abbrev cJ0_coder_7d493 : ByteArray := prog_18_method_152_code
def yJ0_coder_7d493 : MethodName := ⟨RJ0, "coder", "()B"⟩
abbrev cJ0_isLatin1_aae02 : ByteArray := prog_18_method_154_code
def yJ0_isLatin1_aae02 : MethodName := ⟨RJ0, "isLatin1", "()Z"⟩
abbrev cJ0_checkIndex_df160 : ByteArray := prog_18_method_155_code
def yJ0_checkIndex_df160 : MethodName := ⟨RJ0, "checkIndex", "(II)V"⟩
abbrev cJ0_checkBoundsBeginEnd_23922 : ByteArray := prog_18_method_158_code
def yJ0_checkBoundsBeginEnd_23922 : MethodName := ⟨RJ0, "checkBoundsBeginEnd", "(III)V"⟩
def RJ1 : String := "java/lang/StringLatin1"
def TJ1 : u_T := fun k => match k with
  | _ => ("", "", "", false)
def tyJ1 : Nat → FieldType := fun k => match k with
  | _ => .int
theorem nmJ1 : ∀ a, a < 0 → ∀ b, b < 0 → a ≠ b → (TJ1 a).2.1 ≠ (TJ1 b).2.1 := by decide +kernel
theorem tyJ1_ok : ∀ k, k < 0 → parseFieldDescriptor (TJ1 k).2.2.1 = some (tyJ1 k) := by decide +kernel
abbrev cJ1_charAt_3b067 : ByteArray := prog_19_method_2_code
def yJ1_charAt_3b067 : MethodName := ⟨RJ1, "charAt", "([BI)C"⟩
abbrev cJ1_canEncode_9a6ad : ByteArray := prog_19_method_4_code
def yJ1_canEncode_9a6ad : MethodName := ⟨RJ1, "canEncode", "(I)Z"⟩
abbrev cJ1_indexOf_4cfef : ByteArray := prog_19_method_22_code
def yJ1_indexOf_4cfef : MethodName := ⟨RJ1, "indexOf", "([BIII)I"⟩
abbrev cJ1_indexOfChar_4cfef : ByteArray := prog_19_method_23_code
def yJ1_indexOfChar_4cfef : MethodName := ⟨RJ1, "indexOfChar", "([BIII)I"⟩
def RJ2 : String := "java/lang/StringUTF16"
def TJ2 : u_T := fun k => match k with
  | _ => ("", "", "", false)
def tyJ2 : Nat → FieldType := fun k => match k with
  | _ => .int
theorem nmJ2 : ∀ a, a < 0 → ∀ b, b < 0 → a ≠ b → (TJ2 a).2.1 ≠ (TJ2 b).2.1 := by decide +kernel
theorem tyJ2_ok : ∀ k, k < 0 → parseFieldDescriptor (TJ2 k).2.2.1 = some (tyJ2 k) := by decide +kernel
abbrev cJ2_getChar_3b067 : ByteArray := prog_20_method_5_code
def yJ2_getChar_3b067 : MethodName := ⟨RJ2, "getChar", "([BI)C"⟩
abbrev cJ2_length_9d52b : ByteArray := prog_20_method_6_code
def yJ2_length_9d52b : MethodName := ⟨RJ2, "length", "([B)I"⟩
abbrev cJ2_indexOf_4cfef : ByteArray := prog_20_method_40_code
def yJ2_indexOf_4cfef : MethodName := ⟨RJ2, "indexOf", "([BIII)I"⟩
abbrev cJ2_indexOfChar_4cfef : ByteArray := prog_20_method_47_code
def yJ2_indexOfChar_4cfef : MethodName := ⟨RJ2, "indexOfChar", "([BIII)I"⟩
abbrev cJ2_indexOfCharUnsafe_4cfef : ByteArray := prog_20_method_48_code
def yJ2_indexOfCharUnsafe_4cfef : MethodName := ⟨RJ2, "indexOfCharUnsafe", "([BIII)I"⟩
abbrev cJ2_indexOfSupplementary_4cfef : ByteArray := prog_20_method_49_code
def yJ2_indexOfSupplementary_4cfef : MethodName := ⟨RJ2, "indexOfSupplementary", "([BIII)I"⟩
abbrev cJ2_charAt_3b067 : ByteArray := prog_20_method_83_code
def yJ2_charAt_3b067 : MethodName := ⟨RJ2, "charAt", "([BI)C"⟩
abbrev cJ2_checkIndex_2214a : ByteArray := prog_20_method_91_code
def yJ2_checkIndex_2214a : MethodName := ⟨RJ2, "checkIndex", "(I[B)V"⟩
abbrev cJ2_checkBoundsBeginEnd_d044e : ByteArray := prog_20_method_93_code
def yJ2_checkBoundsBeginEnd_d044e : MethodName := ⟨RJ2, "checkBoundsBeginEnd", "(II[B)V"⟩
def RJ10 : String := "java/lang/System"
def TJ10 : u_T := fun k => match k with
  | _ => ("", "", "", false)
def tyJ10 : Nat → FieldType := fun k => match k with
  | _ => .int
theorem nmJ10 : ∀ a, a < 0 → ∀ b, b < 0 → a ≠ b → (TJ10 a).2.1 ≠ (TJ10 b).2.1 := by decide +kernel
theorem tyJ10_ok : ∀ k, k < 0 → parseFieldDescriptor (TJ10 k).2.2.1 = some (tyJ10 k) := by decide +kernel
def RJxfd54e : String := "java/lang/constant/Constable"
def TJxfd54e : u_T := fun k => match k with
  | _ => ("", "", "", false)
def tyJxfd54e : Nat → FieldType := fun k => match k with
  | _ => .int
theorem nmJxfd54e : ∀ a, a < 0 → ∀ b, b < 0 → a ≠ b → (TJxfd54e a).2.1 ≠ (TJxfd54e b).2.1 := by decide +kernel
theorem tyJxfd54e_ok : ∀ k, k < 0 → parseFieldDescriptor (TJxfd54e k).2.2.1 = some (tyJxfd54e k) := by decide +kernel
def RJx3cf43 : String := "java/lang/constant/ConstantDesc"
def TJx3cf43 : u_T := fun k => match k with
  | _ => ("", "", "", false)
def tyJx3cf43 : Nat → FieldType := fun k => match k with
  | _ => .int
theorem nmJx3cf43 : ∀ a, a < 0 → ∀ b, b < 0 → a ≠ b → (TJx3cf43 a).2.1 ≠ (TJx3cf43 b).2.1 := by decide +kernel
theorem tyJx3cf43_ok : ∀ k, k < 0 → parseFieldDescriptor (TJx3cf43 k).2.2.1 = some (tyJx3cf43 k) := by decide +kernel
def RJ7 : String := "java/util/Arrays"
def TJ7 : u_T := fun k => match k with
  | _ => ("", "", "", false)
def tyJ7 : Nat → FieldType := fun k => match k with
  | _ => .int
theorem nmJ7 : ∀ a, a < 0 → ∀ b, b < 0 → a ≠ b → (TJ7 a).2.1 ≠ (TJ7 b).2.1 := by decide +kernel
theorem tyJ7_ok : ∀ k, k < 0 → parseFieldDescriptor (TJ7 k).2.2.1 = some (tyJ7 k) := by decide +kernel
abbrev cJ7_rangeCheck_23922 : ByteArray := prog_22_method_30_code
def yJ7_rangeCheck_23922 : MethodName := ⟨RJ7, "rangeCheck", "(III)V"⟩
abbrev cJ7_fill_bad5a : ByteArray := prog_22_method_102_code
def yJ7_fill_bad5a : MethodName := ⟨RJ7, "fill", "([JIIJ)V"⟩
abbrev cJ7_fill_53178 : ByteArray := prog_22_method_103_code
def yJ7_fill_53178 : MethodName := ⟨RJ7, "fill", "([II)V"⟩
abbrev cJ7_fill_fda19 : ByteArray := prog_22_method_104_code
def yJ7_fill_fda19 : MethodName := ⟨RJ7, "fill", "([IIII)V"⟩
abbrev cJ7_copyOf_59c91 : ByteArray := prog_22_method_123_code
def yJ7_copyOf_59c91 : MethodName := ⟨RJ7, "copyOf", "([II)[I"⟩
def RJ3 : String := "jdk/internal/util/Preconditions"
def TJ3 : u_T := fun k => match k with
  | _ => ("", "", "", false)
def tyJ3 : Nat → FieldType := fun k => match k with
  | _ => .int
theorem nmJ3 : ∀ a, a < 0 → ∀ b, b < 0 → a ≠ b → (TJ3 a).2.1 ≠ (TJ3 b).2.1 := by decide +kernel
theorem tyJ3_ok : ∀ k, k < 0 → parseFieldDescriptor (TJ3 k).2.2.1 = some (tyJ3 k) := by decide +kernel
abbrev cJ3_checkIndex_8e157 : ByteArray := prog_23_method_11_code
def yJ3_checkIndex_8e157 : MethodName := ⟨RJ3, "checkIndex", "(IILjava/util/function/BiFunction;)I"⟩
abbrev cJ3_checkFromToIndex_8c36e : ByteArray := prog_23_method_12_code
def yJ3_checkFromToIndex_8c36e : MethodName := ⟨RJ3, "checkFromToIndex", "(IIILjava/util/function/BiFunction;)I"⟩
def RL : String := "BearerKinLaw"
abbrev cL_law : ByteArray := code
def yL_law : MethodName := ⟨RL, "law", "([I)Z"⟩
