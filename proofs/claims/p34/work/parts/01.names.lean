-- ===== PART A: goes FIRST, ahead of the names: the tables' words, and 'selects' of the private methods out of them =====
/-- a private method of a class that the tables say can be made, by its rows of tables_1 -/
def lw_okq (q : MethodName × Nat) : Prop := (q.1.cls ≠ "java/lang/invoke/MethodHandle" ∧ q.1.cls ≠ "java/lang/invoke/VarHandle") ∧ Cond.instantiable q.1.cls q.2 ∈ tables_1 ∧ Cond.privateMethod q.1 ∈ tables_1 ∧ Cond.instanceMethod q.1 ∈ tables_1
theorem lw_p0 : lw_okq (⟨"OneLine$Reader", "begin", "()V"⟩, 10) := ⟨⟨by decide +kernel, by decide +kernel⟩, List.mem_of_getElem? (i := 132) (by decide +kernel), List.mem_of_getElem? (i := 497) (by decide +kernel), List.mem_of_getElem? (i := 498) (by decide +kernel)⟩
theorem lw_p1 : lw_okq (⟨"OneLine$Reader", "peek", "()I"⟩, 10) := ⟨⟨by decide +kernel, by decide +kernel⟩, List.mem_of_getElem? (i := 132) (by decide +kernel), List.mem_of_getElem? (i := 505) (by decide +kernel), List.mem_of_getElem? (i := 506) (by decide +kernel)⟩
theorem lw_p2 : lw_okq (⟨"OneLine$Reader", "noteStatement", "(LOneLine$Line;)Z"⟩, 10) := ⟨⟨by decide +kernel, by decide +kernel⟩, List.mem_of_getElem? (i := 132) (by decide +kernel), List.mem_of_getElem? (i := 509) (by decide +kernel), List.mem_of_getElem? (i := 510) (by decide +kernel)⟩
theorem lw_p3 : lw_okq (⟨"OneLine$Reader", "accept", "(I)Z"⟩, 10) := ⟨⟨by decide +kernel, by decide +kernel⟩, List.mem_of_getElem? (i := 132) (by decide +kernel), List.mem_of_getElem? (i := 513) (by decide +kernel), List.mem_of_getElem? (i := 514) (by decide +kernel)⟩
theorem lw_p4 : lw_okq (⟨"OneLine$Reader", "wordAhead", "()I"⟩, 10) := ⟨⟨by decide +kernel, by decide +kernel⟩, List.mem_of_getElem? (i := 132) (by decide +kernel), List.mem_of_getElem? (i := 517) (by decide +kernel), List.mem_of_getElem? (i := 518) (by decide +kernel)⟩
theorem lw_p5 : lw_okq (⟨"OneLine$Reader", "passWord", "()V"⟩, 10) := ⟨⟨by decide +kernel, by decide +kernel⟩, List.mem_of_getElem? (i := 132) (by decide +kernel), List.mem_of_getElem? (i := 577) (by decide +kernel), List.mem_of_getElem? (i := 578) (by decide +kernel)⟩
theorem lw_p6 : lw_okq (⟨"OneLine$Reader", "number", "(II)I"⟩, 10) := ⟨⟨by decide +kernel, by decide +kernel⟩, List.mem_of_getElem? (i := 132) (by decide +kernel), List.mem_of_getElem? (i := 581) (by decide +kernel), List.mem_of_getElem? (i := 582) (by decide +kernel)⟩
theorem lw_p7 : lw_okq (⟨"OneLine$Reader", "fail", "(II)Z"⟩, 10) := ⟨⟨by decide +kernel, by decide +kernel⟩, List.mem_of_getElem? (i := 132) (by decide +kernel), List.mem_of_getElem? (i := 588) (by decide +kernel), List.mem_of_getElem? (i := 589) (by decide +kernel)⟩
theorem lw_p8 : lw_okq (⟨"OneLine$Reader", "expect", "(I)Z"⟩, 10) := ⟨⟨by decide +kernel, by decide +kernel⟩, List.mem_of_getElem? (i := 132) (by decide +kernel), List.mem_of_getElem? (i := 592) (by decide +kernel), List.mem_of_getElem? (i := 593) (by decide +kernel)⟩
theorem lw_p9 : lw_okq (⟨"OneLine$Reader", "expectSign", "(I)Z"⟩, 10) := ⟨⟨by decide +kernel, by decide +kernel⟩, List.mem_of_getElem? (i := 132) (by decide +kernel), List.mem_of_getElem? (i := 603) (by decide +kernel), List.mem_of_getElem? (i := 604) (by decide +kernel)⟩
theorem lw_p10 : lw_okq (⟨"OneLine$Reader", "closing", "(I)I"⟩, 10) := ⟨⟨by decide +kernel, by decide +kernel⟩, List.mem_of_getElem? (i := 132) (by decide +kernel), List.mem_of_getElem? (i := 607) (by decide +kernel), List.mem_of_getElem? (i := 608) (by decide +kernel)⟩
theorem lw_p11 : lw_okq (⟨"OneLine", "takeSpare", "()V"⟩, 18) := ⟨⟨by decide +kernel, by decide +kernel⟩, List.mem_of_getElem? (i := 22) (by decide +kernel), List.mem_of_getElem? (i := 611) (by decide +kernel), List.mem_of_getElem? (i := 612) (by decide +kernel)⟩
theorem lw_p12 : lw_okq (⟨"OneLine", "forget", "()V"⟩, 18) := ⟨⟨by decide +kernel, by decide +kernel⟩, List.mem_of_getElem? (i := 22) (by decide +kernel), List.mem_of_getElem? (i := 615) (by decide +kernel), List.mem_of_getElem? (i := 616) (by decide +kernel)⟩
theorem lw_p13 : lw_okq (⟨"OneLine$Reader", "bookStatement", "()Z"⟩, 10) := ⟨⟨by decide +kernel, by decide +kernel⟩, List.mem_of_getElem? (i := 132) (by decide +kernel), List.mem_of_getElem? (i := 632) (by decide +kernel), List.mem_of_getElem? (i := 633) (by decide +kernel)⟩
theorem lw_p14 : lw_okq (⟨"OneLine$Reader", "measure", "()Z"⟩, 10) := ⟨⟨by decide +kernel, by decide +kernel⟩, List.mem_of_getElem? (i := 132) (by decide +kernel), List.mem_of_getElem? (i := 636) (by decide +kernel), List.mem_of_getElem? (i := 637) (by decide +kernel)⟩
theorem lw_p15 : lw_okq (⟨"OneLine$Reader", "name", "()Z"⟩, 10) := ⟨⟨by decide +kernel, by decide +kernel⟩, List.mem_of_getElem? (i := 132) (by decide +kernel), List.mem_of_getElem? (i := 640) (by decide +kernel), List.mem_of_getElem? (i := 641) (by decide +kernel)⟩
def lw_privs_1 : List (MethodName × Nat) := [(⟨"OneLine$Reader", "begin", "()V"⟩, 10), (⟨"OneLine$Reader", "peek", "()I"⟩, 10), (⟨"OneLine$Reader", "noteStatement", "(LOneLine$Line;)Z"⟩, 10), (⟨"OneLine$Reader", "accept", "(I)Z"⟩, 10), (⟨"OneLine$Reader", "wordAhead", "()I"⟩, 10), (⟨"OneLine$Reader", "passWord", "()V"⟩, 10), (⟨"OneLine$Reader", "number", "(II)I"⟩, 10), (⟨"OneLine$Reader", "fail", "(II)Z"⟩, 10), (⟨"OneLine$Reader", "expect", "(I)Z"⟩, 10), (⟨"OneLine$Reader", "expectSign", "(I)Z"⟩, 10), (⟨"OneLine$Reader", "closing", "(I)I"⟩, 10), (⟨"OneLine", "takeSpare", "()V"⟩, 18), (⟨"OneLine", "forget", "()V"⟩, 18), (⟨"OneLine$Reader", "bookStatement", "()Z"⟩, 10), (⟨"OneLine$Reader", "measure", "()Z"⟩, 10), (⟨"OneLine$Reader", "name", "()Z"⟩, 10)]
theorem lw_r1 : ∀ q ∈ lw_privs_1, lw_okq q := List.forall_mem_cons.mpr ⟨lw_p0, List.forall_mem_cons.mpr ⟨lw_p1, List.forall_mem_cons.mpr ⟨lw_p2, List.forall_mem_cons.mpr ⟨lw_p3, List.forall_mem_cons.mpr ⟨lw_p4, List.forall_mem_cons.mpr ⟨lw_p5, List.forall_mem_cons.mpr ⟨lw_p6, List.forall_mem_cons.mpr ⟨lw_p7, List.forall_mem_cons.mpr ⟨lw_p8, List.forall_mem_cons.mpr ⟨lw_p9, List.forall_mem_cons.mpr ⟨lw_p10, List.forall_mem_cons.mpr ⟨lw_p11, List.forall_mem_cons.mpr ⟨lw_p12, List.forall_mem_cons.mpr ⟨lw_p13, List.forall_mem_cons.mpr ⟨lw_p14, List.forall_mem_cons.mpr ⟨lw_p15, fun _ h => absurd h List.not_mem_nil⟩⟩⟩⟩⟩⟩⟩⟩⟩⟩⟩⟩⟩⟩⟩⟩
theorem lw_p16 : lw_okq (⟨"OneLine$Reader", "test", "()Z"⟩, 10) := ⟨⟨by decide +kernel, by decide +kernel⟩, List.mem_of_getElem? (i := 132) (by decide +kernel), List.mem_of_getElem? (i := 652) (by decide +kernel), List.mem_of_getElem? (i := 653) (by decide +kernel)⟩
theorem lw_p17 : lw_okq (⟨"OneLine$Reader", "both", "()Z"⟩, 10) := ⟨⟨by decide +kernel, by decide +kernel⟩, List.mem_of_getElem? (i := 132) (by decide +kernel), List.mem_of_getElem? (i := 656) (by decide +kernel), List.mem_of_getElem? (i := 657) (by decide +kernel)⟩
theorem lw_p18 : lw_okq (⟨"OneLine$Reader", "fact", "()Z"⟩, 10) := ⟨⟨by decide +kernel, by decide +kernel⟩, List.mem_of_getElem? (i := 132) (by decide +kernel), List.mem_of_getElem? (i := 660) (by decide +kernel), List.mem_of_getElem? (i := 661) (by decide +kernel)⟩
theorem lw_p19 : lw_okq (⟨"OneLine$Reader", "opens", "()Z"⟩, 10) := ⟨⟨by decide +kernel, by decide +kernel⟩, List.mem_of_getElem? (i := 132) (by decide +kernel), List.mem_of_getElem? (i := 664) (by decide +kernel), List.mem_of_getElem? (i := 665) (by decide +kernel)⟩
theorem lw_p20 : lw_okq (⟨"OneLine$Reader", "closes", "()Z"⟩, 10) := ⟨⟨by decide +kernel, by decide +kernel⟩, List.mem_of_getElem? (i := 132) (by decide +kernel), List.mem_of_getElem? (i := 668) (by decide +kernel), List.mem_of_getElem? (i := 669) (by decide +kernel)⟩
theorem lw_p21 : lw_okq (⟨"OneLine$Reader", "sum", "()Z"⟩, 10) := ⟨⟨by decide +kernel, by decide +kernel⟩, List.mem_of_getElem? (i := 132) (by decide +kernel), List.mem_of_getElem? (i := 676) (by decide +kernel), List.mem_of_getElem? (i := 677) (by decide +kernel)⟩
theorem lw_p22 : lw_okq (⟨"OneLine$Reader", "product", "()Z"⟩, 10) := ⟨⟨by decide +kernel, by decide +kernel⟩, List.mem_of_getElem? (i := 132) (by decide +kernel), List.mem_of_getElem? (i := 680) (by decide +kernel), List.mem_of_getElem? (i := 681) (by decide +kernel)⟩
theorem lw_p23 : lw_okq (⟨"OneLine$Reader", "part", "()Z"⟩, 10) := ⟨⟨by decide +kernel, by decide +kernel⟩, List.mem_of_getElem? (i := 132) (by decide +kernel), List.mem_of_getElem? (i := 684) (by decide +kernel), List.mem_of_getElem? (i := 685) (by decide +kernel)⟩
theorem lw_p24 : lw_okq (⟨"OneLine$Reader", "choice", "(I)Z"⟩, 10) := ⟨⟨by decide +kernel, by decide +kernel⟩, List.mem_of_getElem? (i := 132) (by decide +kernel), List.mem_of_getElem? (i := 688) (by decide +kernel), List.mem_of_getElem? (i := 689) (by decide +kernel)⟩
theorem lw_p25 : lw_okq (⟨"OneLine$Line", "holds", "(I)Z"⟩, 8) := ⟨⟨by decide +kernel, by decide +kernel⟩, List.mem_of_getElem? (i := 47) (by decide +kernel), List.mem_of_getElem? (i := 713) (by decide +kernel), List.mem_of_getElem? (i := 714) (by decide +kernel)⟩
theorem lw_p26 : lw_okq (⟨"OneLine", "hearTwo", "(II)Z"⟩, 18) := ⟨⟨by decide +kernel, by decide +kernel⟩, List.mem_of_getElem? (i := 22) (by decide +kernel), List.mem_of_getElem? (i := 802) (by decide +kernel), List.mem_of_getElem? (i := 803) (by decide +kernel)⟩
theorem lw_p27 : lw_okq (⟨"OneLine$Duet", "begin", "(II)V"⟩, 9) := ⟨⟨by decide +kernel, by decide +kernel⟩, List.mem_of_getElem? (i := 197) (by decide +kernel), List.mem_of_getElem? (i := 810) (by decide +kernel), List.mem_of_getElem? (i := 811) (by decide +kernel)⟩
theorem lw_p28 : lw_okq (⟨"OneLine$Duet", "apartAt", "(LOneLine$Line;II)I"⟩, 9) := ⟨⟨by decide +kernel, by decide +kernel⟩, List.mem_of_getElem? (i := 197) (by decide +kernel), List.mem_of_getElem? (i := 821) (by decide +kernel), List.mem_of_getElem? (i := 822) (by decide +kernel)⟩
theorem lw_p29 : lw_okq (⟨"OneLine$Duet", "mark", "(III)V"⟩, 9) := ⟨⟨by decide +kernel, by decide +kernel⟩, List.mem_of_getElem? (i := 197) (by decide +kernel), List.mem_of_getElem? (i := 830) (by decide +kernel), List.mem_of_getElem? (i := 831) (by decide +kernel)⟩
theorem lw_p30 : lw_okq (⟨"OneLine$Duet", "moved", "(IIII)V"⟩, 9) := ⟨⟨by decide +kernel, by decide +kernel⟩, List.mem_of_getElem? (i := 197) (by decide +kernel), List.mem_of_getElem? (i := 840) (by decide +kernel), List.mem_of_getElem? (i := 841) (by decide +kernel)⟩
theorem lw_p31 : lw_okq (⟨"OneLine$Judge", "setFacts", "(III)V"⟩, 4) := ⟨⟨by decide +kernel, by decide +kernel⟩, List.mem_of_getElem? (i := 171) (by decide +kernel), List.mem_of_getElem? (i := 858) (by decide +kernel), List.mem_of_getElem? (i := 859) (by decide +kernel)⟩
def lw_privs_2 : List (MethodName × Nat) := [(⟨"OneLine$Reader", "test", "()Z"⟩, 10), (⟨"OneLine$Reader", "both", "()Z"⟩, 10), (⟨"OneLine$Reader", "fact", "()Z"⟩, 10), (⟨"OneLine$Reader", "opens", "()Z"⟩, 10), (⟨"OneLine$Reader", "closes", "()Z"⟩, 10), (⟨"OneLine$Reader", "sum", "()Z"⟩, 10), (⟨"OneLine$Reader", "product", "()Z"⟩, 10), (⟨"OneLine$Reader", "part", "()Z"⟩, 10), (⟨"OneLine$Reader", "choice", "(I)Z"⟩, 10), (⟨"OneLine$Line", "holds", "(I)Z"⟩, 8), (⟨"OneLine", "hearTwo", "(II)Z"⟩, 18), (⟨"OneLine$Duet", "begin", "(II)V"⟩, 9), (⟨"OneLine$Duet", "apartAt", "(LOneLine$Line;II)I"⟩, 9), (⟨"OneLine$Duet", "mark", "(III)V"⟩, 9), (⟨"OneLine$Duet", "moved", "(IIII)V"⟩, 9), (⟨"OneLine$Judge", "setFacts", "(III)V"⟩, 4)]
theorem lw_r2 : ∀ q ∈ lw_privs_2, lw_okq q := List.forall_mem_cons.mpr ⟨lw_p16, List.forall_mem_cons.mpr ⟨lw_p17, List.forall_mem_cons.mpr ⟨lw_p18, List.forall_mem_cons.mpr ⟨lw_p19, List.forall_mem_cons.mpr ⟨lw_p20, List.forall_mem_cons.mpr ⟨lw_p21, List.forall_mem_cons.mpr ⟨lw_p22, List.forall_mem_cons.mpr ⟨lw_p23, List.forall_mem_cons.mpr ⟨lw_p24, List.forall_mem_cons.mpr ⟨lw_p25, List.forall_mem_cons.mpr ⟨lw_p26, List.forall_mem_cons.mpr ⟨lw_p27, List.forall_mem_cons.mpr ⟨lw_p28, List.forall_mem_cons.mpr ⟨lw_p29, List.forall_mem_cons.mpr ⟨lw_p30, List.forall_mem_cons.mpr ⟨lw_p31, fun _ h => absurd h List.not_mem_nil⟩⟩⟩⟩⟩⟩⟩⟩⟩⟩⟩⟩⟩⟩⟩⟩
theorem lw_p32 : lw_okq (⟨"OneLine", "prepare", "(I)V"⟩, 18) := ⟨⟨by decide +kernel, by decide +kernel⟩, List.mem_of_getElem? (i := 22) (by decide +kernel), List.mem_of_getElem? (i := 921) (by decide +kernel), List.mem_of_getElem? (i := 922) (by decide +kernel)⟩
theorem lw_p33 : lw_okq (⟨"OneLine$Ways", "tryOne", "(LOneLine$Judge;LOneLine$Duet;II)V"⟩, 13) := ⟨⟨by decide +kernel, by decide +kernel⟩, List.mem_of_getElem? (i := 275) (by decide +kernel), List.mem_of_getElem? (i := 934) (by decide +kernel), List.mem_of_getElem? (i := 935) (by decide +kernel)⟩
theorem lw_p34 : lw_okq (⟨"OneLine$Ways", "gather", "(I)V"⟩, 13) := ⟨⟨by decide +kernel, by decide +kernel⟩, List.mem_of_getElem? (i := 275) (by decide +kernel), List.mem_of_getElem? (i := 944) (by decide +kernel), List.mem_of_getElem? (i := 945) (by decide +kernel)⟩
theorem lw_p35 : lw_okq (⟨"OneLine$Ways", "senseOf", "(LOneLine$Book;)I"⟩, 13) := ⟨⟨by decide +kernel, by decide +kernel⟩, List.mem_of_getElem? (i := 275) (by decide +kernel), List.mem_of_getElem? (i := 953) (by decide +kernel), List.mem_of_getElem? (i := 954) (by decide +kernel)⟩
theorem lw_p36 : lw_okq (⟨"OneLine$Ways", "holds", "(I)Z"⟩, 13) := ⟨⟨by decide +kernel, by decide +kernel⟩, List.mem_of_getElem? (i := 275) (by decide +kernel), List.mem_of_getElem? (i := 967) (by decide +kernel), List.mem_of_getElem? (i := 968) (by decide +kernel)⟩
theorem lw_p37 : lw_okq (⟨"OneLine$Sets", "addPair", "(III)V"⟩, 6) := ⟨⟨by decide +kernel, by decide +kernel⟩, List.mem_of_getElem? (i := 329) (by decide +kernel), List.mem_of_getElem? (i := 973) (by decide +kernel), List.mem_of_getElem? (i := 974) (by decide +kernel)⟩
theorem lw_p38 : lw_okq (⟨"OneLine", "howMany", "(I)I"⟩, 18) := ⟨⟨by decide +kernel, by decide +kernel⟩, List.mem_of_getElem? (i := 22) (by decide +kernel), List.mem_of_getElem? (i := 977) (by decide +kernel), List.mem_of_getElem? (i := 978) (by decide +kernel)⟩
theorem lw_p39 : lw_okq (⟨"OneLine", "member", "(III)I"⟩, 18) := ⟨⟨by decide +kernel, by decide +kernel⟩, List.mem_of_getElem? (i := 22) (by decide +kernel), List.mem_of_getElem? (i := 985) (by decide +kernel), List.mem_of_getElem? (i := 986) (by decide +kernel)⟩
theorem lw_p40 : lw_okq (⟨"OneLine$Ways", "fewest", "(I)I"⟩, 13) := ⟨⟨by decide +kernel, by decide +kernel⟩, List.mem_of_getElem? (i := 275) (by decide +kernel), List.mem_of_getElem? (i := 1005) (by decide +kernel), List.mem_of_getElem? (i := 1006) (by decide +kernel)⟩
theorem lw_p41 : lw_okq (⟨"OneLine$Ways", "countHaving", "(I)I"⟩, 13) := ⟨⟨by decide +kernel, by decide +kernel⟩, List.mem_of_getElem? (i := 275) (by decide +kernel), List.mem_of_getElem? (i := 1009) (by decide +kernel), List.mem_of_getElem? (i := 1010) (by decide +kernel)⟩
theorem lw_p42 : lw_okq (⟨"OneLine", "prepareLikeness", "()V"⟩, 18) := ⟨⟨by decide +kernel, by decide +kernel⟩, List.mem_of_getElem? (i := 22) (by decide +kernel), List.mem_of_getElem? (i := 1066) (by decide +kernel), List.mem_of_getElem? (i := 1067) (by decide +kernel)⟩
theorem lw_p43 : lw_okq (⟨"OneLine$Score", "put", "(II)V"⟩, 4) := ⟨⟨by decide +kernel, by decide +kernel⟩, List.mem_of_getElem? (i := 363) (by decide +kernel), List.mem_of_getElem? (i := 1083) (by decide +kernel), List.mem_of_getElem? (i := 1084) (by decide +kernel)⟩
theorem lw_p44 : lw_okq (⟨"OneLine$Likeness", "search", "(LOneLine$Line;LOneLine$Ways;II)I"⟩, 9) := ⟨⟨by decide +kernel, by decide +kernel⟩, List.mem_of_getElem? (i := 357) (by decide +kernel), List.mem_of_getElem? (i := 1093) (by decide +kernel), List.mem_of_getElem? (i := 1094) (by decide +kernel)⟩
theorem lw_p45 : lw_okq (⟨"OneLine", "madeInSpare", "(III)Z"⟩, 18) := ⟨⟨by decide +kernel, by decide +kernel⟩, List.mem_of_getElem? (i := 22) (by decide +kernel), List.mem_of_getElem? (i := 1143) (by decide +kernel), List.mem_of_getElem? (i := 1144) (by decide +kernel)⟩
theorem lw_p46 : lw_okq (⟨"OneLine$Line", "fillMade", "(II)Z"⟩, 8) := ⟨⟨by decide +kernel, by decide +kernel⟩, List.mem_of_getElem? (i := 47) (by decide +kernel), List.mem_of_getElem? (i := 1153) (by decide +kernel), List.mem_of_getElem? (i := 1154) (by decide +kernel)⟩
theorem lw_p47 : lw_okq (⟨"OneLine", "agrees", "(LOneLine$Line;I)Z"⟩, 18) := ⟨⟨by decide +kernel, by decide +kernel⟩, List.mem_of_getElem? (i := 22) (by decide +kernel), List.mem_of_getElem? (i := 1161) (by decide +kernel), List.mem_of_getElem? (i := 1162) (by decide +kernel)⟩
def lw_privs_3 : List (MethodName × Nat) := [(⟨"OneLine", "prepare", "(I)V"⟩, 18), (⟨"OneLine$Ways", "tryOne", "(LOneLine$Judge;LOneLine$Duet;II)V"⟩, 13), (⟨"OneLine$Ways", "gather", "(I)V"⟩, 13), (⟨"OneLine$Ways", "senseOf", "(LOneLine$Book;)I"⟩, 13), (⟨"OneLine$Ways", "holds", "(I)Z"⟩, 13), (⟨"OneLine$Sets", "addPair", "(III)V"⟩, 6), (⟨"OneLine", "howMany", "(I)I"⟩, 18), (⟨"OneLine", "member", "(III)I"⟩, 18), (⟨"OneLine$Ways", "fewest", "(I)I"⟩, 13), (⟨"OneLine$Ways", "countHaving", "(I)I"⟩, 13), (⟨"OneLine", "prepareLikeness", "()V"⟩, 18), (⟨"OneLine$Score", "put", "(II)V"⟩, 4), (⟨"OneLine$Likeness", "search", "(LOneLine$Line;LOneLine$Ways;II)I"⟩, 9), (⟨"OneLine", "madeInSpare", "(III)Z"⟩, 18), (⟨"OneLine$Line", "fillMade", "(II)Z"⟩, 8), (⟨"OneLine", "agrees", "(LOneLine$Line;I)Z"⟩, 18)]
theorem lw_r3 : ∀ q ∈ lw_privs_3, lw_okq q := List.forall_mem_cons.mpr ⟨lw_p32, List.forall_mem_cons.mpr ⟨lw_p33, List.forall_mem_cons.mpr ⟨lw_p34, List.forall_mem_cons.mpr ⟨lw_p35, List.forall_mem_cons.mpr ⟨lw_p36, List.forall_mem_cons.mpr ⟨lw_p37, List.forall_mem_cons.mpr ⟨lw_p38, List.forall_mem_cons.mpr ⟨lw_p39, List.forall_mem_cons.mpr ⟨lw_p40, List.forall_mem_cons.mpr ⟨lw_p41, List.forall_mem_cons.mpr ⟨lw_p42, List.forall_mem_cons.mpr ⟨lw_p43, List.forall_mem_cons.mpr ⟨lw_p44, List.forall_mem_cons.mpr ⟨lw_p45, List.forall_mem_cons.mpr ⟨lw_p46, List.forall_mem_cons.mpr ⟨lw_p47, fun _ h => absurd h List.not_mem_nil⟩⟩⟩⟩⟩⟩⟩⟩⟩⟩⟩⟩⟩⟩⟩⟩
theorem lw_p48 : lw_okq (⟨"OneLine", "seekWrongs", "(I)Z"⟩, 18) := ⟨⟨by decide +kernel, by decide +kernel⟩, List.mem_of_getElem? (i := 22) (by decide +kernel), List.mem_of_getElem? (i := 1186) (by decide +kernel), List.mem_of_getElem? (i := 1187) (by decide +kernel)⟩
theorem lw_p49 : lw_okq (⟨"OneLine", "keepWrong", "(I)V"⟩, 18) := ⟨⟨by decide +kernel, by decide +kernel⟩, List.mem_of_getElem? (i := 22) (by decide +kernel), List.mem_of_getElem? (i := 1191) (by decide +kernel), List.mem_of_getElem? (i := 1192) (by decide +kernel)⟩
theorem lw_p50 : lw_okq (⟨"OneLine", "imageInSpare", "()Z"⟩, 18) := ⟨⟨by decide +kernel, by decide +kernel⟩, List.mem_of_getElem? (i := 22) (by decide +kernel), List.mem_of_getElem? (i := 1225) (by decide +kernel), List.mem_of_getElem? (i := 1226) (by decide +kernel)⟩
theorem lw_p51 : lw_okq (⟨"OneLineModel", "begins", "()V"⟩, 82) := ⟨⟨by decide +kernel, by decide +kernel⟩, List.mem_of_getElem? (i := 1230) (by decide +kernel), List.mem_of_getElem? (i := 1497) (by decide +kernel), List.mem_of_getElem? (i := 1498) (by decide +kernel)⟩
theorem lw_p52 : lw_okq (⟨"OneLineModel", "look", "()I"⟩, 82) := ⟨⟨by decide +kernel, by decide +kernel⟩, List.mem_of_getElem? (i := 1230) (by decide +kernel), List.mem_of_getElem? (i := 1501) (by decide +kernel), List.mem_of_getElem? (i := 1502) (by decide +kernel)⟩
theorem lw_p53 : lw_okq (⟨"OneLineModel", "noteTold", "()V"⟩, 82) := ⟨⟨by decide +kernel, by decide +kernel⟩, List.mem_of_getElem? (i := 1230) (by decide +kernel), List.mem_of_getElem? (i := 1505) (by decide +kernel), List.mem_of_getElem? (i := 1506) (by decide +kernel)⟩
theorem lw_p54 : lw_okq (⟨"OneLineModel", "fail", "(II)V"⟩, 82) := ⟨⟨by decide +kernel, by decide +kernel⟩, List.mem_of_getElem? (i := 1230) (by decide +kernel), List.mem_of_getElem? (i := 1509) (by decide +kernel), List.mem_of_getElem? (i := 1510) (by decide +kernel)⟩
theorem lw_p55 : lw_okq (⟨"OneLineModel", "takes", "([C)Z"⟩, 82) := ⟨⟨by decide +kernel, by decide +kernel⟩, List.mem_of_getElem? (i := 1230) (by decide +kernel), List.mem_of_getElem? (i := 1513) (by decide +kernel), List.mem_of_getElem? (i := 1514) (by decide +kernel)⟩
theorem lw_p56 : lw_okq (⟨"OneLineModel", "isHere", "([C)Z"⟩, 82) := ⟨⟨by decide +kernel, by decide +kernel⟩, List.mem_of_getElem? (i := 1230) (by decide +kernel), List.mem_of_getElem? (i := 1517) (by decide +kernel), List.mem_of_getElem? (i := 1518) (by decide +kernel)⟩
theorem lw_p57 : lw_okq (⟨"OneLineModel", "asks", "([C)V"⟩, 82) := ⟨⟨by decide +kernel, by decide +kernel⟩, List.mem_of_getElem? (i := 1230) (by decide +kernel), List.mem_of_getElem? (i := 1524) (by decide +kernel), List.mem_of_getElem? (i := 1525) (by decide +kernel)⟩
theorem lw_p58 : lw_okq (⟨"OneLineModel", "number", "(II)I"⟩, 82) := ⟨⟨by decide +kernel, by decide +kernel⟩, List.mem_of_getElem? (i := 1230) (by decide +kernel), List.mem_of_getElem? (i := 1528) (by decide +kernel), List.mem_of_getElem? (i := 1529) (by decide +kernel)⟩
theorem lw_p59 : lw_okq (⟨"OneLineModel", "asksSign", "(I)V"⟩, 82) := ⟨⟨by decide +kernel, by decide +kernel⟩, List.mem_of_getElem? (i := 1230) (by decide +kernel), List.mem_of_getElem? (i := 1538) (by decide +kernel), List.mem_of_getElem? (i := 1539) (by decide +kernel)⟩
theorem lw_p60 : lw_okq (⟨"OneLineModel", "takesSign", "(I)Z"⟩, 82) := ⟨⟨by decide +kernel, by decide +kernel⟩, List.mem_of_getElem? (i := 1230) (by decide +kernel), List.mem_of_getElem? (i := 1542) (by decide +kernel), List.mem_of_getElem? (i := 1543) (by decide +kernel)⟩
theorem lw_p61 : lw_okq (⟨"OneLineModel", "isTaken", "()Z"⟩, 82) := ⟨⟨by decide +kernel, by decide +kernel⟩, List.mem_of_getElem? (i := 1230) (by decide +kernel), List.mem_of_getElem? (i := 1546) (by decide +kernel), List.mem_of_getElem? (i := 1547) (by decide +kernel)⟩
theorem lw_p62 : lw_okq (⟨"OneLineModel", "lies", "()V"⟩, 82) := ⟨⟨by decide +kernel, by decide +kernel⟩, List.mem_of_getElem? (i := 1230) (by decide +kernel), List.mem_of_getElem? (i := 1550) (by decide +kernel), List.mem_of_getElem? (i := 1551) (by decide +kernel)⟩
theorem lw_p63 : lw_okq (⟨"OneLineModel", "bookTold", "()V"⟩, 82) := ⟨⟨by decide +kernel, by decide +kernel⟩, List.mem_of_getElem? (i := 1230) (by decide +kernel), List.mem_of_getElem? (i := 1558) (by decide +kernel), List.mem_of_getElem? (i := 1559) (by decide +kernel)⟩
def lw_privs_4 : List (MethodName × Nat) := [(⟨"OneLine", "seekWrongs", "(I)Z"⟩, 18), (⟨"OneLine", "keepWrong", "(I)V"⟩, 18), (⟨"OneLine", "imageInSpare", "()Z"⟩, 18), (⟨"OneLineModel", "begins", "()V"⟩, 82), (⟨"OneLineModel", "look", "()I"⟩, 82), (⟨"OneLineModel", "noteTold", "()V"⟩, 82), (⟨"OneLineModel", "fail", "(II)V"⟩, 82), (⟨"OneLineModel", "takes", "([C)Z"⟩, 82), (⟨"OneLineModel", "isHere", "([C)Z"⟩, 82), (⟨"OneLineModel", "asks", "([C)V"⟩, 82), (⟨"OneLineModel", "number", "(II)I"⟩, 82), (⟨"OneLineModel", "asksSign", "(I)V"⟩, 82), (⟨"OneLineModel", "takesSign", "(I)Z"⟩, 82), (⟨"OneLineModel", "isTaken", "()Z"⟩, 82), (⟨"OneLineModel", "lies", "()V"⟩, 82), (⟨"OneLineModel", "bookTold", "()V"⟩, 82)]
theorem lw_r4 : ∀ q ∈ lw_privs_4, lw_okq q := List.forall_mem_cons.mpr ⟨lw_p48, List.forall_mem_cons.mpr ⟨lw_p49, List.forall_mem_cons.mpr ⟨lw_p50, List.forall_mem_cons.mpr ⟨lw_p51, List.forall_mem_cons.mpr ⟨lw_p52, List.forall_mem_cons.mpr ⟨lw_p53, List.forall_mem_cons.mpr ⟨lw_p54, List.forall_mem_cons.mpr ⟨lw_p55, List.forall_mem_cons.mpr ⟨lw_p56, List.forall_mem_cons.mpr ⟨lw_p57, List.forall_mem_cons.mpr ⟨lw_p58, List.forall_mem_cons.mpr ⟨lw_p59, List.forall_mem_cons.mpr ⟨lw_p60, List.forall_mem_cons.mpr ⟨lw_p61, List.forall_mem_cons.mpr ⟨lw_p62, List.forall_mem_cons.mpr ⟨lw_p63, fun _ h => absurd h List.not_mem_nil⟩⟩⟩⟩⟩⟩⟩⟩⟩⟩⟩⟩⟩⟩⟩⟩
theorem lw_p64 : lw_okq (⟨"OneLineModel", "ruleTold", "(I)V"⟩, 82) := ⟨⟨by decide +kernel, by decide +kernel⟩, List.mem_of_getElem? (i := 1230) (by decide +kernel), List.mem_of_getElem? (i := 1562) (by decide +kernel), List.mem_of_getElem? (i := 1563) (by decide +kernel)⟩
theorem lw_p65 : lw_okq (⟨"OneLineModel", "testTold", "(I)V"⟩, 82) := ⟨⟨by decide +kernel, by decide +kernel⟩, List.mem_of_getElem? (i := 1230) (by decide +kernel), List.mem_of_getElem? (i := 1566) (by decide +kernel), List.mem_of_getElem? (i := 1567) (by decide +kernel)⟩
theorem lw_p66 : lw_okq (⟨"OneLineModel", "test", "()V"⟩, 82) := ⟨⟨by decide +kernel, by decide +kernel⟩, List.mem_of_getElem? (i := 1230) (by decide +kernel), List.mem_of_getElem? (i := 1570) (by decide +kernel), List.mem_of_getElem? (i := 1571) (by decide +kernel)⟩
theorem lw_p67 : lw_okq (⟨"OneLineModel", "opens", "(II)V"⟩, 82) := ⟨⟨by decide +kernel, by decide +kernel⟩, List.mem_of_getElem? (i := 1230) (by decide +kernel), List.mem_of_getElem? (i := 1574) (by decide +kernel), List.mem_of_getElem? (i := 1575) (by decide +kernel)⟩
theorem lw_p68 : lw_okq (⟨"OneLineModel", "fact", "()V"⟩, 82) := ⟨⟨by decide +kernel, by decide +kernel⟩, List.mem_of_getElem? (i := 1230) (by decide +kernel), List.mem_of_getElem? (i := 1578) (by decide +kernel), List.mem_of_getElem? (i := 1579) (by decide +kernel)⟩
theorem lw_p69 : lw_okq (⟨"OneLineModel", "lay", "(I)V"⟩, 82) := ⟨⟨by decide +kernel, by decide +kernel⟩, List.mem_of_getElem? (i := 1230) (by decide +kernel), List.mem_of_getElem? (i := 1582) (by decide +kernel), List.mem_of_getElem? (i := 1583) (by decide +kernel)⟩
theorem lw_p70 : lw_okq (⟨"OneLineModel", "sums", "()V"⟩, 82) := ⟨⟨by decide +kernel, by decide +kernel⟩, List.mem_of_getElem? (i := 1230) (by decide +kernel), List.mem_of_getElem? (i := 1586) (by decide +kernel), List.mem_of_getElem? (i := 1587) (by decide +kernel)⟩
theorem lw_p71 : lw_okq (⟨"OneLineModel", "onePart", "()V"⟩, 82) := ⟨⟨by decide +kernel, by decide +kernel⟩, List.mem_of_getElem? (i := 1230) (by decide +kernel), List.mem_of_getElem? (i := 1590) (by decide +kernel), List.mem_of_getElem? (i := 1591) (by decide +kernel)⟩
theorem lw_p72 : lw_okq (⟨"OneLineModel", "mottoPart", "()I"⟩, 82) := ⟨⟨by decide +kernel, by decide +kernel⟩, List.mem_of_getElem? (i := 1230) (by decide +kernel), List.mem_of_getElem? (i := 1594) (by decide +kernel), List.mem_of_getElem? (i := 1595) (by decide +kernel)⟩
theorem lw_p73 : lw_okq (⟨"OneLineModel", "rulePart", "()I"⟩, 82) := ⟨⟨by decide +kernel, by decide +kernel⟩, List.mem_of_getElem? (i := 1230) (by decide +kernel), List.mem_of_getElem? (i := 1598) (by decide +kernel), List.mem_of_getElem? (i := 1599) (by decide +kernel)⟩
theorem lw_p74 : lw_okq (⟨"OneLineModel", "goesOn", "()Z"⟩, 82) := ⟨⟨by decide +kernel, by decide +kernel⟩, List.mem_of_getElem? (i := 1230) (by decide +kernel), List.mem_of_getElem? (i := 1602) (by decide +kernel), List.mem_of_getElem? (i := 1603) (by decide +kernel)⟩
theorem lw_p75 : lw_okq (⟨"OneLineModel", "mark", "()I"⟩, 82) := ⟨⟨by decide +kernel, by decide +kernel⟩, List.mem_of_getElem? (i := 1230) (by decide +kernel), List.mem_of_getElem? (i := 1606) (by decide +kernel), List.mem_of_getElem? (i := 1607) (by decide +kernel)⟩
theorem lw_p76 : lw_okq (⟨"OneLineModel", "isMark", "(I)Z"⟩, 82) := ⟨⟨by decide +kernel, by decide +kernel⟩, List.mem_of_getElem? (i := 1230) (by decide +kernel), List.mem_of_getElem? (i := 1610) (by decide +kernel), List.mem_of_getElem? (i := 1611) (by decide +kernel)⟩
theorem lw_p77 : lw_okq (⟨"OneLineModel", "dropsToMark", "()V"⟩, 82) := ⟨⟨by decide +kernel, by decide +kernel⟩, List.mem_of_getElem? (i := 1230) (by decide +kernel), List.mem_of_getElem? (i := 1614) (by decide +kernel), List.mem_of_getElem? (i := 1615) (by decide +kernel)⟩
theorem lw_p78 : lw_okq (⟨"OneLineModel", "drops", "()V"⟩, 82) := ⟨⟨by decide +kernel, by decide +kernel⟩, List.mem_of_getElem? (i := 1230) (by decide +kernel), List.mem_of_getElem? (i := 1618) (by decide +kernel), List.mem_of_getElem? (i := 1619) (by decide +kernel)⟩
theorem lw_p79 : lw_okq (⟨"OneLineModel", "isOn", "(I)Z"⟩, 82) := ⟨⟨by decide +kernel, by decide +kernel⟩, List.mem_of_getElem? (i := 1230) (by decide +kernel), List.mem_of_getElem? (i := 1622) (by decide +kernel), List.mem_of_getElem? (i := 1623) (by decide +kernel)⟩
def lw_privs_5 : List (MethodName × Nat) := [(⟨"OneLineModel", "ruleTold", "(I)V"⟩, 82), (⟨"OneLineModel", "testTold", "(I)V"⟩, 82), (⟨"OneLineModel", "test", "()V"⟩, 82), (⟨"OneLineModel", "opens", "(II)V"⟩, 82), (⟨"OneLineModel", "fact", "()V"⟩, 82), (⟨"OneLineModel", "lay", "(I)V"⟩, 82), (⟨"OneLineModel", "sums", "()V"⟩, 82), (⟨"OneLineModel", "onePart", "()V"⟩, 82), (⟨"OneLineModel", "mottoPart", "()I"⟩, 82), (⟨"OneLineModel", "rulePart", "()I"⟩, 82), (⟨"OneLineModel", "goesOn", "()Z"⟩, 82), (⟨"OneLineModel", "mark", "()I"⟩, 82), (⟨"OneLineModel", "isMark", "(I)Z"⟩, 82), (⟨"OneLineModel", "dropsToMark", "()V"⟩, 82), (⟨"OneLineModel", "drops", "()V"⟩, 82), (⟨"OneLineModel", "isOn", "(I)Z"⟩, 82)]
theorem lw_r5 : ∀ q ∈ lw_privs_5, lw_okq q := List.forall_mem_cons.mpr ⟨lw_p64, List.forall_mem_cons.mpr ⟨lw_p65, List.forall_mem_cons.mpr ⟨lw_p66, List.forall_mem_cons.mpr ⟨lw_p67, List.forall_mem_cons.mpr ⟨lw_p68, List.forall_mem_cons.mpr ⟨lw_p69, List.forall_mem_cons.mpr ⟨lw_p70, List.forall_mem_cons.mpr ⟨lw_p71, List.forall_mem_cons.mpr ⟨lw_p72, List.forall_mem_cons.mpr ⟨lw_p73, List.forall_mem_cons.mpr ⟨lw_p74, List.forall_mem_cons.mpr ⟨lw_p75, List.forall_mem_cons.mpr ⟨lw_p76, List.forall_mem_cons.mpr ⟨lw_p77, List.forall_mem_cons.mpr ⟨lw_p78, List.forall_mem_cons.mpr ⟨lw_p79, fun _ h => absurd h List.not_mem_nil⟩⟩⟩⟩⟩⟩⟩⟩⟩⟩⟩⟩⟩⟩⟩⟩
theorem lw_p80 : lw_okq (⟨"OneLineModel", "dropsNots", "()V"⟩, 82) := ⟨⟨by decide +kernel, by decide +kernel⟩, List.mem_of_getElem? (i := 1230) (by decide +kernel), List.mem_of_getElem? (i := 1626) (by decide +kernel), List.mem_of_getElem? (i := 1627) (by decide +kernel)⟩
theorem lw_p81 : lw_okq (⟨"OneLineModel", "goesOnTest", "()Z"⟩, 82) := ⟨⟨by decide +kernel, by decide +kernel⟩, List.mem_of_getElem? (i := 1230) (by decide +kernel), List.mem_of_getElem? (i := 1630) (by decide +kernel), List.mem_of_getElem? (i := 1631) (by decide +kernel)⟩
theorem lw_p82 : lw_okq (⟨"OneLineModel", "hasSquare", "()Z"⟩, 82) := ⟨⟨by decide +kernel, by decide +kernel⟩, List.mem_of_getElem? (i := 1230) (by decide +kernel), List.mem_of_getElem? (i := 1634) (by decide +kernel), List.mem_of_getElem? (i := 1635) (by decide +kernel)⟩
theorem lw_p83 : lw_okq (⟨"OneLineModel", "mottoTold", "(I)V"⟩, 82) := ⟨⟨by decide +kernel, by decide +kernel⟩, List.mem_of_getElem? (i := 1230) (by decide +kernel), List.mem_of_getElem? (i := 1638) (by decide +kernel), List.mem_of_getElem? (i := 1639) (by decide +kernel)⟩
theorem lw_p84 : lw_okq (⟨"OneLineModel", "name", "()J"⟩, 82) := ⟨⟨by decide +kernel, by decide +kernel⟩, List.mem_of_getElem? (i := 1230) (by decide +kernel), List.mem_of_getElem? (i := 1642) (by decide +kernel), List.mem_of_getElem? (i := 1643) (by decide +kernel)⟩
theorem lw_p85 : lw_okq (⟨"OneLineModel", "isOwnHere", "()Z"⟩, 82) := ⟨⟨by decide +kernel, by decide +kernel⟩, List.mem_of_getElem? (i := 1230) (by decide +kernel), List.mem_of_getElem? (i := 1646) (by decide +kernel), List.mem_of_getElem? (i := 1647) (by decide +kernel)⟩
theorem lw_p86 : lw_okq (⟨"OneLineModel", "canBe", "(I)Z"⟩, 82) := ⟨⟨by decide +kernel, by decide +kernel⟩, List.mem_of_getElem? (i := 1230) (by decide +kernel), List.mem_of_getElem? (i := 1704) (by decide +kernel), List.mem_of_getElem? (i := 1705) (by decide +kernel)⟩
theorem lw_p87 : lw_okq (⟨"OneLineModel", "overAt", "(I)I"⟩, 82) := ⟨⟨by decide +kernel, by decide +kernel⟩, List.mem_of_getElem? (i := 1230) (by decide +kernel), List.mem_of_getElem? (i := 1708) (by decide +kernel), List.mem_of_getElem? (i := 1709) (by decide +kernel)⟩
theorem lw_p88 : lw_okq (⟨"OneLineModel", "singsIn", "(II)I"⟩, 82) := ⟨⟨by decide +kernel, by decide +kernel⟩, List.mem_of_getElem? (i := 1230) (by decide +kernel), List.mem_of_getElem? (i := 1717) (by decide +kernel), List.mem_of_getElem? (i := 1718) (by decide +kernel)⟩
theorem lw_p89 : lw_okq (⟨"OneLineModel", "noteAt", "(II)I"⟩, 82) := ⟨⟨by decide +kernel, by decide +kernel⟩, List.mem_of_getElem? (i := 1230) (by decide +kernel), List.mem_of_getElem? (i := 1721) (by decide +kernel), List.mem_of_getElem? (i := 1722) (by decide +kernel)⟩
theorem lw_p90 : lw_okq (⟨"OneLineModel", "stepBy", "(II)I"⟩, 82) := ⟨⟨by decide +kernel, by decide +kernel⟩, List.mem_of_getElem? (i := 1230) (by decide +kernel), List.mem_of_getElem? (i := 1725) (by decide +kernel), List.mem_of_getElem? (i := 1726) (by decide +kernel)⟩
theorem lw_p91 : lw_okq (⟨"OneLineModel", "areTwo", "(II)Z"⟩, 82) := ⟨⟨by decide +kernel, by decide +kernel⟩, List.mem_of_getElem? (i := 1230) (by decide +kernel), List.mem_of_getElem? (i := 1733) (by decide +kernel), List.mem_of_getElem? (i := 1734) (by decide +kernel)⟩
theorem lw_p92 : lw_okq (⟨"OneLineModel", "breachOf", "(II)I"⟩, 82) := ⟨⟨by decide +kernel, by decide +kernel⟩, List.mem_of_getElem? (i := 1230) (by decide +kernel), List.mem_of_getElem? (i := 1737) (by decide +kernel), List.mem_of_getElem? (i := 1738) (by decide +kernel)⟩
theorem lw_p93 : lw_okq (⟨"OneLineModel", "brokenBy", "(III)I"⟩, 82) := ⟨⟨by decide +kernel, by decide +kernel⟩, List.mem_of_getElem? (i := 1230) (by decide +kernel), List.mem_of_getElem? (i := 1744) (by decide +kernel), List.mem_of_getElem? (i := 1745) (by decide +kernel)⟩
theorem lw_p94 : lw_okq (⟨"OneLineModel", "asksAll", "(IZ)V"⟩, 82) := ⟨⟨by decide +kernel, by decide +kernel⟩, List.mem_of_getElem? (i := 1230) (by decide +kernel), List.mem_of_getElem? (i := 1748) (by decide +kernel), List.mem_of_getElem? (i := 1749) (by decide +kernel)⟩
theorem lw_p95 : lw_okq (⟨"OneLineModel", "firstRule", "()I"⟩, 82) := ⟨⟨by decide +kernel, by decide +kernel⟩, List.mem_of_getElem? (i := 1230) (by decide +kernel), List.mem_of_getElem? (i := 1755) (by decide +kernel), List.mem_of_getElem? (i := 1756) (by decide +kernel)⟩
def lw_privs_6 : List (MethodName × Nat) := [(⟨"OneLineModel", "dropsNots", "()V"⟩, 82), (⟨"OneLineModel", "goesOnTest", "()Z"⟩, 82), (⟨"OneLineModel", "hasSquare", "()Z"⟩, 82), (⟨"OneLineModel", "mottoTold", "(I)V"⟩, 82), (⟨"OneLineModel", "name", "()J"⟩, 82), (⟨"OneLineModel", "isOwnHere", "()Z"⟩, 82), (⟨"OneLineModel", "canBe", "(I)Z"⟩, 82), (⟨"OneLineModel", "overAt", "(I)I"⟩, 82), (⟨"OneLineModel", "singsIn", "(II)I"⟩, 82), (⟨"OneLineModel", "noteAt", "(II)I"⟩, 82), (⟨"OneLineModel", "stepBy", "(II)I"⟩, 82), (⟨"OneLineModel", "areTwo", "(II)Z"⟩, 82), (⟨"OneLineModel", "breachOf", "(II)I"⟩, 82), (⟨"OneLineModel", "brokenBy", "(III)I"⟩, 82), (⟨"OneLineModel", "asksAll", "(IZ)V"⟩, 82), (⟨"OneLineModel", "firstRule", "()I"⟩, 82)]
theorem lw_r6 : ∀ q ∈ lw_privs_6, lw_okq q := List.forall_mem_cons.mpr ⟨lw_p80, List.forall_mem_cons.mpr ⟨lw_p81, List.forall_mem_cons.mpr ⟨lw_p82, List.forall_mem_cons.mpr ⟨lw_p83, List.forall_mem_cons.mpr ⟨lw_p84, List.forall_mem_cons.mpr ⟨lw_p85, List.forall_mem_cons.mpr ⟨lw_p86, List.forall_mem_cons.mpr ⟨lw_p87, List.forall_mem_cons.mpr ⟨lw_p88, List.forall_mem_cons.mpr ⟨lw_p89, List.forall_mem_cons.mpr ⟨lw_p90, List.forall_mem_cons.mpr ⟨lw_p91, List.forall_mem_cons.mpr ⟨lw_p92, List.forall_mem_cons.mpr ⟨lw_p93, List.forall_mem_cons.mpr ⟨lw_p94, List.forall_mem_cons.mpr ⟨lw_p95, fun _ h => absurd h List.not_mem_nil⟩⟩⟩⟩⟩⟩⟩⟩⟩⟩⟩⟩⟩⟩⟩⟩
theorem lw_p96 : lw_okq (⟨"OneLineModel", "holds", "(II)Z"⟩, 82) := ⟨⟨by decide +kernel, by decide +kernel⟩, List.mem_of_getElem? (i := 1230) (by decide +kernel), List.mem_of_getElem? (i := 1759) (by decide +kernel), List.mem_of_getElem? (i := 1760) (by decide +kernel)⟩
theorem lw_p97 : lw_okq (⟨"OneLineModel", "puts", "(J)V"⟩, 82) := ⟨⟨by decide +kernel, by decide +kernel⟩, List.mem_of_getElem? (i := 1230) (by decide +kernel), List.mem_of_getElem? (i := 1763) (by decide +kernel), List.mem_of_getElem? (i := 1764) (by decide +kernel)⟩
theorem lw_p98 : lw_okq (⟨"OneLineModel", "joins", "(I)V"⟩, 82) := ⟨⟨by decide +kernel, by decide +kernel⟩, List.mem_of_getElem? (i := 1230) (by decide +kernel), List.mem_of_getElem? (i := 1767) (by decide +kernel), List.mem_of_getElem? (i := 1768) (by decide +kernel)⟩
theorem lw_p99 : lw_okq (⟨"OneLineModel", "isBound", "(I)Z"⟩, 82) := ⟨⟨by decide +kernel, by decide +kernel⟩, List.mem_of_getElem? (i := 1230) (by decide +kernel), List.mem_of_getElem? (i := 1796) (by decide +kernel), List.mem_of_getElem? (i := 1797) (by decide +kernel)⟩
theorem lw_p100 : lw_okq (⟨"OneLineModel", "picks", "(II)I"⟩, 82) := ⟨⟨by decide +kernel, by decide +kernel⟩, List.mem_of_getElem? (i := 1230) (by decide +kernel), List.mem_of_getElem? (i := 1805) (by decide +kernel), List.mem_of_getElem? (i := 1806) (by decide +kernel)⟩
theorem lw_p101 : lw_okq (⟨"OneLineModel", "knows", "()V"⟩, 82) := ⟨⟨by decide +kernel, by decide +kernel⟩, List.mem_of_getElem? (i := 1230) (by decide +kernel), List.mem_of_getElem? (i := 1809) (by decide +kernel), List.mem_of_getElem? (i := 1810) (by decide +kernel)⟩
theorem lw_p102 : lw_okq (⟨"OneLineModel", "waysNow", "()I"⟩, 82) := ⟨⟨by decide +kernel, by decide +kernel⟩, List.mem_of_getElem? (i := 1230) (by decide +kernel), List.mem_of_getElem? (i := 1813) (by decide +kernel), List.mem_of_getElem? (i := 1814) (by decide +kernel)⟩
theorem lw_p103 : lw_okq (⟨"OneLineModel", "chosen", "()I"⟩, 82) := ⟨⟨by decide +kernel, by decide +kernel⟩, List.mem_of_getElem? (i := 1230) (by decide +kernel), List.mem_of_getElem? (i := 1817) (by decide +kernel), List.mem_of_getElem? (i := 1818) (by decide +kernel)⟩
theorem lw_p104 : lw_okq (⟨"OneLineModel", "isWayOf", "(II)Z"⟩, 82) := ⟨⟨by decide +kernel, by decide +kernel⟩, List.mem_of_getElem? (i := 1230) (by decide +kernel), List.mem_of_getElem? (i := 1825) (by decide +kernel), List.mem_of_getElem? (i := 1826) (by decide +kernel)⟩
theorem lw_p105 : lw_okq (⟨"OneLineModel", "isWay", "(I)Z"⟩, 82) := ⟨⟨by decide +kernel, by decide +kernel⟩, List.mem_of_getElem? (i := 1230) (by decide +kernel), List.mem_of_getElem? (i := 1833) (by decide +kernel), List.mem_of_getElem? (i := 1834) (by decide +kernel)⟩
theorem lw_p106 : lw_okq (⟨"OneLineModel", "likeMany", "(II)I"⟩, 82) := ⟨⟨by decide +kernel, by decide +kernel⟩, List.mem_of_getElem? (i := 1230) (by decide +kernel), List.mem_of_getElem? (i := 1840) (by decide +kernel), List.mem_of_getElem? (i := 1841) (by decide +kernel)⟩
theorem lw_p107 : lw_okq (⟨"OneLineModel", "isOfMottos", "(I)Z"⟩, 82) := ⟨⟨by decide +kernel, by decide +kernel⟩, List.mem_of_getElem? (i := 1230) (by decide +kernel), List.mem_of_getElem? (i := 1856) (by decide +kernel), List.mem_of_getElem? (i := 1857) (by decide +kernel)⟩
theorem lw_p108 : lw_okq (⟨"OneLineModel", "isMeant", "(II)Z"⟩, 82) := ⟨⟨by decide +kernel, by decide +kernel⟩, List.mem_of_getElem? (i := 1230) (by decide +kernel), List.mem_of_getElem? (i := 1860) (by decide +kernel), List.mem_of_getElem? (i := 1861) (by decide +kernel)⟩
theorem lw_p109 : lw_okq (⟨"OneLineModel", "meanMany", "(I)I"⟩, 82) := ⟨⟨by decide +kernel, by decide +kernel⟩, List.mem_of_getElem? (i := 1230) (by decide +kernel), List.mem_of_getElem? (i := 1868) (by decide +kernel), List.mem_of_getElem? (i := 1869) (by decide +kernel)⟩
theorem lw_p110 : lw_okq (⟨"OneLineModel", "isMeantByAll", "(II)Z"⟩, 82) := ⟨⟨by decide +kernel, by decide +kernel⟩, List.mem_of_getElem? (i := 1230) (by decide +kernel), List.mem_of_getElem? (i := 1872) (by decide +kernel), List.mem_of_getElem? (i := 1873) (by decide +kernel)⟩
theorem lw_p111 : lw_okq (⟨"OneLineModel", "alikeTo", "(I)I"⟩, 82) := ⟨⟨by decide +kernel, by decide +kernel⟩, List.mem_of_getElem? (i := 1230) (by decide +kernel), List.mem_of_getElem? (i := 1893) (by decide +kernel), List.mem_of_getElem? (i := 1894) (by decide +kernel)⟩
def lw_privs_7 : List (MethodName × Nat) := [(⟨"OneLineModel", "holds", "(II)Z"⟩, 82), (⟨"OneLineModel", "puts", "(J)V"⟩, 82), (⟨"OneLineModel", "joins", "(I)V"⟩, 82), (⟨"OneLineModel", "isBound", "(I)Z"⟩, 82), (⟨"OneLineModel", "picks", "(II)I"⟩, 82), (⟨"OneLineModel", "knows", "()V"⟩, 82), (⟨"OneLineModel", "waysNow", "()I"⟩, 82), (⟨"OneLineModel", "chosen", "()I"⟩, 82), (⟨"OneLineModel", "isWayOf", "(II)Z"⟩, 82), (⟨"OneLineModel", "isWay", "(I)Z"⟩, 82), (⟨"OneLineModel", "likeMany", "(II)I"⟩, 82), (⟨"OneLineModel", "isOfMottos", "(I)Z"⟩, 82), (⟨"OneLineModel", "isMeant", "(II)Z"⟩, 82), (⟨"OneLineModel", "meanMany", "(I)I"⟩, 82), (⟨"OneLineModel", "isMeantByAll", "(II)Z"⟩, 82), (⟨"OneLineModel", "alikeTo", "(I)I"⟩, 82)]
theorem lw_r7 : ∀ q ∈ lw_privs_7, lw_okq q := List.forall_mem_cons.mpr ⟨lw_p96, List.forall_mem_cons.mpr ⟨lw_p97, List.forall_mem_cons.mpr ⟨lw_p98, List.forall_mem_cons.mpr ⟨lw_p99, List.forall_mem_cons.mpr ⟨lw_p100, List.forall_mem_cons.mpr ⟨lw_p101, List.forall_mem_cons.mpr ⟨lw_p102, List.forall_mem_cons.mpr ⟨lw_p103, List.forall_mem_cons.mpr ⟨lw_p104, List.forall_mem_cons.mpr ⟨lw_p105, List.forall_mem_cons.mpr ⟨lw_p106, List.forall_mem_cons.mpr ⟨lw_p107, List.forall_mem_cons.mpr ⟨lw_p108, List.forall_mem_cons.mpr ⟨lw_p109, List.forall_mem_cons.mpr ⟨lw_p110, List.forall_mem_cons.mpr ⟨lw_p111, fun _ h => absurd h List.not_mem_nil⟩⟩⟩⟩⟩⟩⟩⟩⟩⟩⟩⟩⟩⟩⟩⟩
theorem lw_p112 : lw_okq (⟨"OneLineModel", "areAlike", "(II)Z"⟩, 82) := ⟨⟨by decide +kernel, by decide +kernel⟩, List.mem_of_getElem? (i := 1230) (by decide +kernel), List.mem_of_getElem? (i := 1897) (by decide +kernel), List.mem_of_getElem? (i := 1898) (by decide +kernel)⟩
theorem lw_p113 : lw_okq (⟨"OneLineModel", "roundNote", "(II)I"⟩, 82) := ⟨⟨by decide +kernel, by decide +kernel⟩, List.mem_of_getElem? (i := 1230) (by decide +kernel), List.mem_of_getElem? (i := 1918) (by decide +kernel), List.mem_of_getElem? (i := 1919) (by decide +kernel)⟩
theorem lw_p114 : lw_okq (⟨"OneLineModel", "putsAside", "()V"⟩, 82) := ⟨⟨by decide +kernel, by decide +kernel⟩, List.mem_of_getElem? (i := 1230) (by decide +kernel), List.mem_of_getElem? (i := 1933) (by decide +kernel), List.mem_of_getElem? (i := 1934) (by decide +kernel)⟩
theorem lw_p115 : lw_okq (⟨"OneLineModel", "makes", "(III)Z"⟩, 82) := ⟨⟨by decide +kernel, by decide +kernel⟩, List.mem_of_getElem? (i := 1230) (by decide +kernel), List.mem_of_getElem? (i := 1937) (by decide +kernel), List.mem_of_getElem? (i := 1938) (by decide +kernel)⟩
theorem lw_p116 : lw_okq (⟨"OneLineModel", "firstLine", "(II)Z"⟩, 82) := ⟨⟨by decide +kernel, by decide +kernel⟩, List.mem_of_getElem? (i := 1230) (by decide +kernel), List.mem_of_getElem? (i := 1941) (by decide +kernel), List.mem_of_getElem? (i := 1942) (by decide +kernel)⟩
theorem lw_p117 : lw_okq (⟨"OneLineModel", "nextLine", "(I)Z"⟩, 82) := ⟨⟨by decide +kernel, by decide +kernel⟩, List.mem_of_getElem? (i := 1230) (by decide +kernel), List.mem_of_getElem? (i := 1945) (by decide +kernel), List.mem_of_getElem? (i := 1946) (by decide +kernel)⟩
theorem lw_p118 : lw_okq (⟨"OneLineModel", "takesBack", "()V"⟩, 82) := ⟨⟨by decide +kernel, by decide +kernel⟩, List.mem_of_getElem? (i := 1230) (by decide +kernel), List.mem_of_getElem? (i := 1949) (by decide +kernel), List.mem_of_getElem? (i := 1950) (by decide +kernel)⟩
theorem lw_p119 : lw_okq (⟨"OneLineModel", "drawOf", "(I)I"⟩, 82) := ⟨⟨by decide +kernel, by decide +kernel⟩, List.mem_of_getElem? (i := 1230) (by decide +kernel), List.mem_of_getElem? (i := 1974) (by decide +kernel), List.mem_of_getElem? (i := 1975) (by decide +kernel)⟩
theorem lw_p120 : lw_okq (⟨"OneLineModel", "writes", "(I)V"⟩, 82) := ⟨⟨by decide +kernel, by decide +kernel⟩, List.mem_of_getElem? (i := 1230) (by decide +kernel), List.mem_of_getElem? (i := 1986) (by decide +kernel), List.mem_of_getElem? (i := 1987) (by decide +kernel)⟩
theorem lw_p121 : lw_okq (⟨"OneLineModel", "isTold", "(I)Z"⟩, 82) := ⟨⟨by decide +kernel, by decide +kernel⟩, List.mem_of_getElem? (i := 1230) (by decide +kernel), List.mem_of_getElem? (i := 2001) (by decide +kernel), List.mem_of_getElem? (i := 2002) (by decide +kernel)⟩
def lw_privs_8 : List (MethodName × Nat) := [(⟨"OneLineModel", "areAlike", "(II)Z"⟩, 82), (⟨"OneLineModel", "roundNote", "(II)I"⟩, 82), (⟨"OneLineModel", "putsAside", "()V"⟩, 82), (⟨"OneLineModel", "makes", "(III)Z"⟩, 82), (⟨"OneLineModel", "firstLine", "(II)Z"⟩, 82), (⟨"OneLineModel", "nextLine", "(I)Z"⟩, 82), (⟨"OneLineModel", "takesBack", "()V"⟩, 82), (⟨"OneLineModel", "drawOf", "(I)I"⟩, 82), (⟨"OneLineModel", "writes", "(I)V"⟩, 82), (⟨"OneLineModel", "isTold", "(I)Z"⟩, 82)]
theorem lw_r8 : ∀ q ∈ lw_privs_8, lw_okq q := List.forall_mem_cons.mpr ⟨lw_p112, List.forall_mem_cons.mpr ⟨lw_p113, List.forall_mem_cons.mpr ⟨lw_p114, List.forall_mem_cons.mpr ⟨lw_p115, List.forall_mem_cons.mpr ⟨lw_p116, List.forall_mem_cons.mpr ⟨lw_p117, List.forall_mem_cons.mpr ⟨lw_p118, List.forall_mem_cons.mpr ⟨lw_p119, List.forall_mem_cons.mpr ⟨lw_p120, List.forall_mem_cons.mpr ⟨lw_p121, fun _ h => absurd h List.not_mem_nil⟩⟩⟩⟩⟩⟩⟩⟩⟩⟩
def lw_privs : List (MethodName × Nat) := lw_privs_1 ++ (lw_privs_2 ++ (lw_privs_3 ++ (lw_privs_4 ++ (lw_privs_5 ++ (lw_privs_6 ++ (lw_privs_7 ++ (lw_privs_8)))))))
def lw_tbl : List Cond := k2_sels lw_privs ++ tables_1
theorem lw_privs_ok : ∀ q ∈ lw_privs, lw_okq q := by
  show ∀ q ∈ lw_privs_1 ++ (lw_privs_2 ++ (lw_privs_3 ++ (lw_privs_4 ++ (lw_privs_5 ++ (lw_privs_6 ++ (lw_privs_7 ++ (lw_privs_8))))))), lw_okq q
  exact List.forall_mem_append.mpr ⟨lw_r1, List.forall_mem_append.mpr ⟨lw_r2, List.forall_mem_append.mpr ⟨lw_r3, List.forall_mem_append.mpr ⟨lw_r4, List.forall_mem_append.mpr ⟨lw_r5, List.forall_mem_append.mpr ⟨lw_r6, List.forall_mem_append.mpr ⟨lw_r7, lw_r8⟩⟩⟩⟩⟩⟩⟩
def RX0 : String := "OneLine$Book"
def TX0 : u_T := fun k => match k with
  | 0 => ("OneLine$Book", "words", "[I", true)
  | 1 => ("OneLine$Book", "length", "I", false)
  | 2 => ("OneLine$Book", "starts", "[I", true)
  | 3 => ("OneLine$Book", "stops", "[I", true)
  | 4 => ("OneLine$Book", "letters", "[I", true)
  | 5 => ("OneLine$Book", "stack", "[I", true)
  | 6 => ("OneLine$Book", "measure", "I", false)
  | 7 => ("OneLine$Book", "rules", "I", false)
  | _ => ("OneLine$Book", "mottos", "I", false)
def tyX0 : Nat → FieldType := fun k => match k with
  | 0 => .array .int
  | 1 => .int
  | 2 => .array .int
  | 3 => .array .int
  | 4 => .array .int
  | 5 => .array .int
  | 6 => .int
  | 7 => .int
  | _ => .int
abbrev wsX00 : List Cond := u_ws RX0 TX0 9
theorem nmX0 : ∀ a, a < 9 → ∀ b, b < 9 → a ≠ b → (TX0 a).2.1 ≠ (TX0 b).2.1 := by decide +kernel
theorem tyX0_ok : ∀ k, k < 9 → parseFieldDescriptor (TX0 k).2.2.1 = some (tyX0 k) := by decide +kernel
abbrev cX0_init : ByteArray := prog_2_method_1_code
def yX0_init : MethodName := ⟨RX0, "<init>", "()V"⟩
abbrev cX0_clear : ByteArray := prog_2_method_2_code
def yX0_clear : MethodName := ⟨RX0, "clear", "()V"⟩
abbrev cX0_emit : ByteArray := prog_2_method_3_code
def yX0_emit : MethodName := ⟨RX0, "emit", "(I)V"⟩
abbrev cX0_close : ByteArray := prog_2_method_4_code
def yX0_close : MethodName := ⟨RX0, "close", "(ZI)V"⟩
abbrev cX0_spell : ByteArray := prog_2_method_5_code
def yX0_spell : MethodName := ⟨RX0, "spell", "(II)V"⟩
abbrev cX0_isNameTaken : ByteArray := prog_2_method_6_code
def yX0_isNameTaken : MethodName := ⟨RX0, "isNameTaken", "()Z"⟩
abbrev cX0_letterOf : ByteArray := prog_2_method_7_code
def yX0_letterOf : MethodName := ⟨RX0, "letterOf", "(II)I"⟩
abbrev cX0_holds : ByteArray := prog_2_method_8_code
def yX0_holds : MethodName := ⟨RX0, "holds", "(I[I)Z"⟩
abbrev cX0_factAt : ByteArray := prog_2_method_9_code
def yX0_factAt : MethodName := ⟨RX0, "factAt", "([II)I"⟩
abbrev cX0_join : ByteArray := prog_2_method_10_code
def yX0_join : MethodName := ⟨RX0, "join", "(III)I"⟩
abbrev cX0_limited : ByteArray := prog_2_method_11_code
def yX0_limited : MethodName := ⟨RX0, "limited", "(J)I"⟩
def RX1 : String := "OneLine$Duet"
def TX1 : u_T := fun k => match k with
  | 0 => ("OneLine$Duet", "ticks", "[I", true)
  | 1 => ("OneLine$Duet", "aparts", "[I", true)
  | 2 => ("OneLine$Duet", "befores", "[I", true)
  | 3 => ("OneLine$Duet", "moves", "[I", true)
  | 4 => ("OneLine$Duet", "first", "LOneLine$Voice;", true)
  | 5 => ("OneLine$Duet", "second", "LOneLine$Voice;", true)
  | 6 => ("OneLine$Duet", "count", "I", false)
  | 7 => ("OneLine$Duet", "both", "I", false)
  | _ => ("OneLine$Duet", "widest", "I", false)
def tyX1 : Nat → FieldType := fun k => match k with
  | 0 => .array .int
  | 1 => .array .int
  | 2 => .array .int
  | 3 => .array .int
  | 4 => .object "OneLine$Voice"
  | 5 => .object "OneLine$Voice"
  | 6 => .int
  | 7 => .int
  | _ => .int
abbrev wsX10 : List Cond := u_ws RX1 TX1 9
theorem nmX1 : ∀ a, a < 9 → ∀ b, b < 9 → a ≠ b → (TX1 a).2.1 ≠ (TX1 b).2.1 := by decide +kernel
theorem tyX1_ok : ∀ k, k < 9 → parseFieldDescriptor (TX1 k).2.2.1 = some (tyX1 k) := by decide +kernel
abbrev cX1_init : ByteArray := prog_3_method_1_code
def yX1_init : MethodName := ⟨RX1, "<init>", "()V"⟩
abbrev cX1_hear : ByteArray := prog_3_method_2_code
def yX1_hear : MethodName := ⟨RX1, "hear", "(LOneLine$Line;III)V"⟩
abbrev cX1_hearRound : ByteArray := prog_3_method_3_code
def yX1_hearRound : MethodName := ⟨RX1, "hearRound", "(LOneLine$Line;II)V"⟩
abbrev cX1_begin : ByteArray := prog_3_method_4_code
def yX1_begin : MethodName := ⟨RX1, "begin", "(II)V"⟩
abbrev cX1_beatOf : ByteArray := prog_3_method_5_code
def yX1_beatOf : MethodName := ⟨RX1, "beatOf", "(II)I"⟩
abbrev cX1_apartAt : ByteArray := prog_3_method_6_code
def yX1_apartAt : MethodName := ⟨RX1, "apartAt", "(LOneLine$Line;II)I"⟩
abbrev cX1_rise : ByteArray := prog_3_method_7_code
def yX1_rise : MethodName := ⟨RX1, "rise", "(LOneLine$Voice;LOneLine$Line;II)I"⟩
abbrev cX1_mark : ByteArray := prog_3_method_8_code
def yX1_mark : MethodName := ⟨RX1, "mark", "(III)V"⟩
abbrev cX1_moved : ByteArray := prog_3_method_9_code
def yX1_moved : MethodName := ⟨RX1, "moved", "(IIII)V"⟩
abbrev cX1_tickOf : ByteArray := prog_3_method_10_code
def yX1_tickOf : MethodName := ⟨RX1, "tickOf", "(I)I"⟩
def RX2 : String := "OneLine$Judge"
def TX2 : u_T := fun k => match k with
  | 0 => ("OneLine$Judge", "keys", "[I", true)
  | 1 => ("OneLine$Judge", "verdicts", "[I", true)
  | 2 => ("OneLine$Judge", "facts", "[I", true)
  | _ => ("OneLine$Judge", "book", "LOneLine$Book;", false)
def tyX2 : Nat → FieldType := fun k => match k with
  | 0 => .array .int
  | 1 => .array .int
  | 2 => .array .int
  | _ => .object "OneLine$Book"
abbrev wsX20 : List Cond := u_ws RX2 TX2 4
theorem nmX2 : ∀ a, a < 4 → ∀ b, b < 4 → a ≠ b → (TX2 a).2.1 ≠ (TX2 b).2.1 := by decide +kernel
theorem tyX2_ok : ∀ k, k < 4 → parseFieldDescriptor (TX2 k).2.2.1 = some (tyX2 k) := by decide +kernel
abbrev cX2_init : ByteArray := prog_4_method_1_code
def yX2_init : MethodName := ⟨RX2, "<init>", "(LOneLine$Book;)V"⟩
abbrev cX2_follow : ByteArray := prog_4_method_2_code
def yX2_follow : MethodName := ⟨RX2, "follow", "(LOneLine$Book;)V"⟩
abbrev cX2_packMoves : ByteArray := prog_4_method_3_code
def yX2_packMoves : MethodName := ⟨RX2, "packMoves", "(IIII)I"⟩
abbrev cX2_verdict : ByteArray := prog_4_method_4_code
def yX2_verdict : MethodName := ⟨RX2, "verdict", "(LOneLine$Duet;II)I"⟩
abbrev cX2_setFacts : ByteArray := prog_4_method_5_code
def yX2_setFacts : MethodName := ⟨RX2, "setFacts", "(III)V"⟩
abbrev cX2_nextBroken : ByteArray := prog_4_method_6_code
def yX2_nextBroken : MethodName := ⟨RX2, "nextBroken", "(LOneLine$Duet;I)I"⟩
abbrev cX2_countBroken : ByteArray := prog_4_method_7_code
def yX2_countBroken : MethodName := ⟨RX2, "countBroken", "(LOneLine$Duet;)I"⟩
abbrev cX2_ruleAt : ByteArray := prog_4_method_8_code
def yX2_ruleAt : MethodName := ⟨RX2, "ruleAt", "(LOneLine$Duet;I)I"⟩
def RX3 : String := "OneLine$Likeness"
def TX3 : u_T := fun k => match k with
  | 0 => ("OneLine$Likeness", "ready", "Z", false)
  | 1 => ("OneLine$Likeness", "unlikes", "I", false)
  | 2 => ("OneLine$Likeness", "count", "I", false)
  | 3 => ("OneLine$Likeness", "firsts", "[I", true)
  | 4 => ("OneLine$Likeness", "prints", "[I", true)
  | 5 => ("OneLine$Likeness", "heads", "[I", true)
  | 6 => ("OneLine$Likeness", "nexts", "[I", true)
  | 7 => ("OneLine$Likeness", "score", "LOneLine$Score;", true)
  | _ => ("OneLine$Likeness", "other", "LOneLine$Score;", true)
def tyX3 : Nat → FieldType := fun k => match k with
  | 0 => .boolean
  | 1 => .int
  | 2 => .int
  | 3 => .array .int
  | 4 => .array .int
  | 5 => .array .int
  | 6 => .array .int
  | 7 => .object "OneLine$Score"
  | _ => .object "OneLine$Score"
abbrev wsX30 : List Cond := u_ws RX3 TX3 9
theorem nmX3 : ∀ a, a < 9 → ∀ b, b < 9 → a ≠ b → (TX3 a).2.1 ≠ (TX3 b).2.1 := by decide +kernel
theorem tyX3_ok : ∀ k, k < 9 → parseFieldDescriptor (TX3 k).2.2.1 = some (tyX3 k) := by decide +kernel
abbrev cX3_init : ByteArray := prog_5_method_1_code
def yX3_init : MethodName := ⟨RX3, "<init>", "()V"⟩
abbrev cX3_build : ByteArray := prog_5_method_2_code
def yX3_build : MethodName := ⟨RX3, "build", "(LOneLine$Line;LOneLine$Ways;)V"⟩
abbrev cX3_search : ByteArray := prog_5_method_3_code
def yX3_search : MethodName := ⟨RX3, "search", "(LOneLine$Line;LOneLine$Ways;II)I"⟩
abbrev cX3_firstOf : ByteArray := prog_5_method_4_code
def yX3_firstOf : MethodName := ⟨RX3, "firstOf", "(I)I"⟩
def RX4 : String := "OneLine$Line"
def TX4 : u_T := fun k => match k with
  | 0 => ("OneLine$Line", "steps", "[I", true)
  | 1 => ("OneLine$Line", "lengths", "[I", true)
  | 2 => ("OneLine$Line", "starts", "[I", true)
  | 3 => ("OneLine$Line", "owners", "[I", true)
  | 4 => ("OneLine$Line", "count", "I", false)
  | 5 => ("OneLine$Line", "total", "I", false)
  | 6 => ("OneLine$Line", "opening", "I", false)
  | _ => ("OneLine$Line", "odd", "Z", false)
def tyX4 : Nat → FieldType := fun k => match k with
  | 0 => .array .int
  | 1 => .array .int
  | 2 => .array .int
  | 3 => .array .int
  | 4 => .int
  | 5 => .int
  | 6 => .int
  | _ => .boolean
abbrev wsX40 : List Cond := u_ws RX4 TX4 8
theorem nmX4 : ∀ a, a < 8 → ∀ b, b < 8 → a ≠ b → (TX4 a).2.1 ≠ (TX4 b).2.1 := by decide +kernel
theorem tyX4_ok : ∀ k, k < 8 → parseFieldDescriptor (TX4 k).2.2.1 = some (tyX4 k) := by decide +kernel
abbrev cX4_init : ByteArray := prog_6_method_1_code
def yX4_init : MethodName := ⟨RX4, "<init>", "()V"⟩
abbrev cX4_clear : ByteArray := prog_6_method_2_code
def yX4_clear : MethodName := ⟨RX4, "clear", "()V"⟩
abbrev cX4_add : ByteArray := prog_6_method_3_code
def yX4_add : MethodName := ⟨RX4, "add", "(II)Z"⟩
abbrev cX4_copyFrom : ByteArray := prog_6_method_4_code
def yX4_copyFrom : MethodName := ⟨RX4, "copyFrom", "(LOneLine$Line;)V"⟩
abbrev cX4_holds : ByteArray := prog_6_method_5_code
def yX4_holds : MethodName := ⟨RX4, "holds", "(I)Z"⟩
abbrev cX4_stepOf : ByteArray := prog_6_method_6_code
def yX4_stepOf : MethodName := ⟨RX4, "stepOf", "(I)I"⟩
abbrev cX4_lengthOf : ByteArray := prog_6_method_7_code
def yX4_lengthOf : MethodName := ⟨RX4, "lengthOf", "(I)I"⟩
abbrev cX4_startOf : ByteArray := prog_6_method_8_code
def yX4_startOf : MethodName := ⟨RX4, "startOf", "(I)I"⟩
abbrev cX4_ownerOf : ByteArray := prog_6_method_9_code
def yX4_ownerOf : MethodName := ⟨RX4, "ownerOf", "(I)I"⟩
abbrev cX4_rests : ByteArray := prog_6_method_10_code
def yX4_rests : MethodName := ⟨RX4, "rests", "()I"⟩
abbrev cX4_setStep : ByteArray := prog_6_method_11_code
def yX4_setStep : MethodName := ⟨RX4, "setStep", "(II)V"⟩
abbrev cX4_beginMade : ByteArray := prog_6_method_12_code
def yX4_beginMade : MethodName := ⟨RX4, "beginMade", "(II)Z"⟩
abbrev cX4_advanceMade : ByteArray := prog_6_method_13_code
def yX4_advanceMade : MethodName := ⟨RX4, "advanceMade", "(I)Z"⟩
abbrev cX4_fillMade : ByteArray := prog_6_method_14_code
def yX4_fillMade : MethodName := ⟨RX4, "fillMade", "(II)Z"⟩
def RX5 : String := "OneLine$Reader"
def TX5 : u_T := fun k => match k with
  | 0 => ("OneLine$Reader", "tape", "LOneLine$Tape;", true)
  | 1 => ("OneLine$Reader", "book", "LOneLine$Book;", false)
  | 2 => ("OneLine$Reader", "at", "I", false)
  | 3 => ("OneLine$Reader", "glue", "I", false)
  | 4 => ("OneLine$Reader", "wordStop", "I", false)
  | 5 => ("OneLine$Reader", "open", "I", false)
  | 6 => ("OneLine$Reader", "firstFact", "I", false)
  | 7 => ("OneLine$Reader", "factStop", "I", false)
  | 8 => ("OneLine$Reader", "fault", "I", false)
  | _ => ("OneLine$Reader", "place", "I", false)
def tyX5 : Nat → FieldType := fun k => match k with
  | 0 => .object "OneLine$Tape"
  | 1 => .object "OneLine$Book"
  | 2 => .int
  | 3 => .int
  | 4 => .int
  | 5 => .int
  | 6 => .int
  | 7 => .int
  | 8 => .int
  | _ => .int
abbrev wsX50 : List Cond := u_ws RX5 TX5 10
theorem nmX5 : ∀ a, a < 10 → ∀ b, b < 10 → a ≠ b → (TX5 a).2.1 ≠ (TX5 b).2.1 := by decide +kernel
theorem tyX5_ok : ∀ k, k < 10 → parseFieldDescriptor (TX5 k).2.2.1 = some (tyX5 k) := by decide +kernel
abbrev cX5_init : ByteArray := prog_7_method_1_code
def yX5_init : MethodName := ⟨RX5, "<init>", "(LOneLine$Tape;LOneLine$Book;)V"⟩
abbrev cX5_begin : ByteArray := prog_7_method_2_code
def yX5_begin : MethodName := ⟨RX5, "begin", "()V"⟩
abbrev cX5_readLine : ByteArray := prog_7_method_3_code
def yX5_readLine : MethodName := ⟨RX5, "readLine", "(LOneLine$Line;)I"⟩
abbrev cX5_readBook : ByteArray := prog_7_method_4_code
def yX5_readBook : MethodName := ⟨RX5, "readBook", "(LOneLine$Book;)I"⟩
abbrev cX5_closing : ByteArray := prog_7_method_5_code
def yX5_closing : MethodName := ⟨RX5, "closing", "(I)I"⟩
abbrev cX5_noteStatement : ByteArray := prog_7_method_6_code
def yX5_noteStatement : MethodName := ⟨RX5, "noteStatement", "(LOneLine$Line;)Z"⟩
abbrev cX5_bookStatement : ByteArray := prog_7_method_7_code
def yX5_bookStatement : MethodName := ⟨RX5, "bookStatement", "()Z"⟩
abbrev cX5_measure : ByteArray := prog_7_method_8_code
def yX5_measure : MethodName := ⟨RX5, "measure", "()Z"⟩
abbrev cX5_name : ByteArray := prog_7_method_9_code
def yX5_name : MethodName := ⟨RX5, "name", "()Z"⟩
abbrev cX5_test : ByteArray := prog_7_method_10_code
def yX5_test : MethodName := ⟨RX5, "test", "()Z"⟩
abbrev cX5_both : ByteArray := prog_7_method_11_code
def yX5_both : MethodName := ⟨RX5, "both", "()Z"⟩
abbrev cX5_fact : ByteArray := prog_7_method_12_code
def yX5_fact : MethodName := ⟨RX5, "fact", "()Z"⟩
abbrev cX5_sum : ByteArray := prog_7_method_13_code
def yX5_sum : MethodName := ⟨RX5, "sum", "()Z"⟩
abbrev cX5_product : ByteArray := prog_7_method_14_code
def yX5_product : MethodName := ⟨RX5, "product", "()Z"⟩
abbrev cX5_part : ByteArray := prog_7_method_15_code
def yX5_part : MethodName := ⟨RX5, "part", "()Z"⟩
abbrev cX5_choice : ByteArray := prog_7_method_16_code
def yX5_choice : MethodName := ⟨RX5, "choice", "(I)Z"⟩
abbrev cX5_opens : ByteArray := prog_7_method_17_code
def yX5_opens : MethodName := ⟨RX5, "opens", "()Z"⟩
abbrev cX5_closes : ByteArray := prog_7_method_18_code
def yX5_closes : MethodName := ⟨RX5, "closes", "()Z"⟩
abbrev cX5_number : ByteArray := prog_7_method_19_code
def yX5_number : MethodName := ⟨RX5, "number", "(II)I"⟩
abbrev cX5_expect : ByteArray := prog_7_method_20_code
def yX5_expect : MethodName := ⟨RX5, "expect", "(I)Z"⟩
abbrev cX5_accept : ByteArray := prog_7_method_21_code
def yX5_accept : MethodName := ⟨RX5, "accept", "(I)Z"⟩
abbrev cX5_passWord : ByteArray := prog_7_method_22_code
def yX5_passWord : MethodName := ⟨RX5, "passWord", "()V"⟩
abbrev cX5_expectSign : ByteArray := prog_7_method_23_code
def yX5_expectSign : MethodName := ⟨RX5, "expectSign", "(I)Z"⟩
abbrev cX5_wordAhead : ByteArray := prog_7_method_24_code
def yX5_wordAhead : MethodName := ⟨RX5, "wordAhead", "()I"⟩
abbrev cX5_peek : ByteArray := prog_7_method_25_code
def yX5_peek : MethodName := ⟨RX5, "peek", "()I"⟩
abbrev cX5_fail : ByteArray := prog_7_method_26_code
def yX5_fail : MethodName := ⟨RX5, "fail", "(II)Z"⟩
abbrev cX5_isLetter : ByteArray := prog_7_method_27_code
def yX5_isLetter : MethodName := ⟨RX5, "isLetter", "(I)Z"⟩
abbrev cX5_isDigit : ByteArray := prog_7_method_28_code
def yX5_isDigit : MethodName := ⟨RX5, "isDigit", "(I)Z"⟩
def RX6 : String := "OneLine$Score"
def TX6 : u_T := fun k => match k with
  | 0 => ("OneLine$Score", "ticks", "[I", true)
  | 1 => ("OneLine$Score", "tones", "[I", true)
  | 2 => ("OneLine$Score", "count", "I", false)
  | _ => ("OneLine$Score", "voice", "LOneLine$Voice;", true)
def tyX6 : Nat → FieldType := fun k => match k with
  | 0 => .array .int
  | 1 => .array .int
  | 2 => .int
  | _ => .object "OneLine$Voice"
abbrev wsX60 : List Cond := u_ws RX6 TX6 4
theorem nmX6 : ∀ a, a < 4 → ∀ b, b < 4 → a ≠ b → (TX6 a).2.1 ≠ (TX6 b).2.1 := by decide +kernel
theorem tyX6_ok : ∀ k, k < 4 → parseFieldDescriptor (TX6 k).2.2.1 = some (tyX6 k) := by decide +kernel
abbrev cX6_init : ByteArray := prog_8_method_1_code
def yX6_init : MethodName := ⟨RX6, "<init>", "()V"⟩
abbrev cX6_write : ByteArray := prog_8_method_2_code
def yX6_write : MethodName := ⟨RX6, "write", "(LOneLine$Line;I)V"⟩
abbrev cX6_put : ByteArray := prog_8_method_3_code
def yX6_put : MethodName := ⟨RX6, "put", "(II)V"⟩
abbrev cX6_print : ByteArray := prog_8_method_4_code
def yX6_print : MethodName := ⟨RX6, "print", "()I"⟩
abbrev cX6_isSame : ByteArray := prog_8_method_5_code
def yX6_isSame : MethodName := ⟨RX6, "isSame", "(LOneLine$Score;)Z"⟩
def RX7 : String := "OneLine$Sets"
def TX7 : u_T := fun k => match k with
  | 0 => ("OneLine$Sets", "ready", "Z", false)
  | 1 => ("OneLine$Sets", "fits", "[J", true)
  | 2 => ("OneLine$Sets", "pairs", "[I", true)
  | 3 => ("OneLine$Sets", "triples", "[I", true)
  | 4 => ("OneLine$Sets", "trios", "I", false)
  | _ => ("OneLine$Sets", "quartets", "I", false)
def tyX7 : Nat → FieldType := fun k => match k with
  | 0 => .boolean
  | 1 => .array .long
  | 2 => .array .int
  | 3 => .array .int
  | 4 => .int
  | _ => .int
abbrev wsX70 : List Cond := u_ws RX7 TX7 6
theorem nmX7 : ∀ a, a < 6 → ∀ b, b < 6 → a ≠ b → (TX7 a).2.1 ≠ (TX7 b).2.1 := by decide +kernel
theorem tyX7_ok : ∀ k, k < 6 → parseFieldDescriptor (TX7 k).2.2.1 = some (tyX7 k) := by decide +kernel
abbrev cX7_init : ByteArray := prog_9_method_1_code
def yX7_init : MethodName := ⟨RX7, "<init>", "()V"⟩
abbrev cX7_build : ByteArray := prog_9_method_2_code
def yX7_build : MethodName := ⟨RX7, "build", "(LOneLine$Line;LOneLine$Book;LOneLine$Ways;LOneLine$Judge;LOneLine$Duet;)V"⟩
abbrev cX7_addPair : ByteArray := prog_9_method_3_code
def yX7_addPair : MethodName := ⟨RX7, "addPair", "(III)V"⟩
abbrev cX7_memberOf : ByteArray := prog_9_method_4_code
def yX7_memberOf : MethodName := ⟨RX7, "memberOf", "(III)I"⟩
def RX8 : String := "OneLine$Tape"
def TX8 : u_T := fun k => match k with
  | 0 => ("OneLine$Tape", "bytes", "[I", true)
  | _ => ("OneLine$Tape", "length", "I", false)
def tyX8 : Nat → FieldType := fun k => match k with
  | 0 => .array .int
  | _ => .int
abbrev wsX80 : List Cond := u_ws RX8 TX8 2
theorem nmX8 : ∀ a, a < 2 → ∀ b, b < 2 → a ≠ b → (TX8 a).2.1 ≠ (TX8 b).2.1 := by decide +kernel
theorem tyX8_ok : ∀ k, k < 2 → parseFieldDescriptor (TX8 k).2.2.1 = some (tyX8 k) := by decide +kernel
abbrev cX8_init : ByteArray := prog_10_method_1_code
def yX8_init : MethodName := ⟨RX8, "<init>", "()V"⟩
abbrev cX8_hasRoom : ByteArray := prog_10_method_2_code
def yX8_hasRoom : MethodName := ⟨RX8, "hasRoom", "(I)Z"⟩
abbrev cX8_put : ByteArray := prog_10_method_3_code
def yX8_put : MethodName := ⟨RX8, "put", "(I)V"⟩
abbrev cX8_cut : ByteArray := prog_10_method_4_code
def yX8_cut : MethodName := ⟨RX8, "cut", "(I)Z"⟩
abbrev cX8_at : ByteArray := prog_10_method_5_code
def yX8_at : MethodName := ⟨RX8, "at", "(I)I"⟩
def RX9 : String := "OneLine$Voice"
def TX9 : u_T := fun k => match k with
  | 0 => ("OneLine$Voice", "delay", "I", false)
  | 1 => ("OneLine$Voice", "high", "I", false)
  | 2 => ("OneLine$Voice", "mirror", "I", false)
  | 3 => ("OneLine$Voice", "back", "I", false)
  | _ => ("OneLine$Voice", "pace", "I", false)
def tyX9 : Nat → FieldType := fun k => match k with
  | 0 => .int
  | 1 => .int
  | 2 => .int
  | 3 => .int
  | _ => .int
abbrev wsX90 : List Cond := u_ws RX9 TX9 5
theorem nmX9 : ∀ a, a < 5 → ∀ b, b < 5 → a ≠ b → (TX9 a).2.1 ≠ (TX9 b).2.1 := by decide +kernel
theorem tyX9_ok : ∀ k, k < 5 → parseFieldDescriptor (TX9 k).2.2.1 = some (tyX9 k) := by decide +kernel
abbrev cX9_init : ByteArray := prog_11_method_1_code
def yX9_init : MethodName := ⟨RX9, "<init>", "()V"⟩
abbrev cX9_take : ByteArray := prog_11_method_2_code
def yX9_take : MethodName := ⟨RX9, "take", "(I)V"⟩
abbrev cX9_stretch : ByteArray := prog_11_method_3_code
def yX9_stretch : MethodName := ⟨RX9, "stretch", "(I)I"⟩
abbrev cX9_stop : ByteArray := prog_11_method_4_code
def yX9_stop : MethodName := ⟨RX9, "stop", "(LOneLine$Line;)I"⟩
abbrev cX9_number : ByteArray := prog_11_method_5_code
def yX9_number : MethodName := ⟨RX9, "number", "(LOneLine$Line;I)I"⟩
abbrev cX9_turned : ByteArray := prog_11_method_6_code
def yX9_turned : MethodName := ⟨RX9, "turned", "(LOneLine$Line;I)I"⟩
abbrev cX9_tone : ByteArray := prog_11_method_7_code
def yX9_tone : MethodName := ⟨RX9, "tone", "(LOneLine$Line;I)I"⟩
def RX10 : String := "OneLine$Ways"
def TX10 : u_T := fun k => match k with
  | 0 => ("OneLine$Ways", "latest", "I", false)
  | 1 => ("OneLine$Ways", "reach", "I", false)
  | 2 => ("OneLine$Ways", "kinds", "I", false)
  | 3 => ("OneLine$Ways", "ready", "Z", false)
  | 4 => ("OneLine$Ways", "count", "I", false)
  | 5 => ("OneLine$Ways", "codes", "[I", true)
  | 6 => ("OneLine$Ways", "senses", "[I", true)
  | 7 => ("OneLine$Ways", "breaches", "[I", true)
  | 8 => ("OneLine$Ways", "spared", "[I", true)
  | 9 => ("OneLine$Ways", "free", "[I", true)
  | 10 => ("OneLine$Ways", "tally", "[I", true)
  | 11 => ("OneLine$Ways", "facts", "[I", true)
  | _ => ("OneLine$Ways", "voice", "LOneLine$Voice;", true)
def tyX10 : Nat → FieldType := fun k => match k with
  | 0 => .int
  | 1 => .int
  | 2 => .int
  | 3 => .boolean
  | 4 => .int
  | 5 => .array .int
  | 6 => .array .int
  | 7 => .array .int
  | 8 => .array .int
  | 9 => .array .int
  | 10 => .array .int
  | 11 => .array .int
  | _ => .object "OneLine$Voice"
abbrev wsX100 : List Cond := u_ws RX10 TX10 13
theorem nmX10 : ∀ a, a < 13 → ∀ b, b < 13 → a ≠ b → (TX10 a).2.1 ≠ (TX10 b).2.1 := by decide +kernel
theorem tyX10_ok : ∀ k, k < 13 → parseFieldDescriptor (TX10 k).2.2.1 = some (tyX10 k) := by decide +kernel
abbrev cX10_init : ByteArray := prog_12_method_1_code
def yX10_init : MethodName := ⟨RX10, "<init>", "()V"⟩
abbrev cX10_allows : ByteArray := prog_12_method_2_code
def yX10_allows : MethodName := ⟨RX10, "allows", "(I)Z"⟩
abbrev cX10_survey : ByteArray := prog_12_method_3_code
def yX10_survey : MethodName := ⟨RX10, "survey", "(LOneLine$Line;LOneLine$Book;LOneLine$Judge;LOneLine$Duet;)I"⟩
abbrev cX10_tryOne : ByteArray := prog_12_method_4_code
def yX10_tryOne : MethodName := ⟨RX10, "tryOne", "(LOneLine$Judge;LOneLine$Duet;II)V"⟩
abbrev cX10_gather : ByteArray := prog_12_method_5_code
def yX10_gather : MethodName := ⟨RX10, "gather", "(I)V"⟩
abbrev cX10_weigh : ByteArray := prog_12_method_6_code
def yX10_weigh : MethodName := ⟨RX10, "weigh", "(LOneLine$Book;)V"⟩
abbrev cX10_senseOf : ByteArray := prog_12_method_7_code
def yX10_senseOf : MethodName := ⟨RX10, "senseOf", "(LOneLine$Book;)I"⟩
abbrev cX10_holds : ByteArray := prog_12_method_8_code
def yX10_holds : MethodName := ⟨RX10, "holds", "(I)Z"⟩
abbrev cX10_codeOf : ByteArray := prog_12_method_9_code
def yX10_codeOf : MethodName := ⟨RX10, "codeOf", "(I)I"⟩
abbrev cX10_countBroken : ByteArray := prog_12_method_10_code
def yX10_countBroken : MethodName := ⟨RX10, "countBroken", "(I)I"⟩
abbrev cX10_countWithout : ByteArray := prog_12_method_11_code
def yX10_countWithout : MethodName := ⟨RX10, "countWithout", "(I)I"⟩
abbrev cX10_agreement : ByteArray := prog_12_method_12_code
def yX10_agreement : MethodName := ⟨RX10, "agreement", "(II)I"⟩
abbrev cX10_countLike : ByteArray := prog_12_method_13_code
def yX10_countLike : MethodName := ⟨RX10, "countLike", "(II)I"⟩
abbrev cX10_fewestSigns : ByteArray := prog_12_method_14_code
def yX10_fewestSigns : MethodName := ⟨RX10, "fewestSigns", "(I)I"⟩
abbrev cX10_fewestMottos : ByteArray := prog_12_method_15_code
def yX10_fewestMottos : MethodName := ⟨RX10, "fewestMottos", "(I)I"⟩
abbrev cX10_fewest : ByteArray := prog_12_method_16_code
def yX10_fewest : MethodName := ⟨RX10, "fewest", "(I)I"⟩
abbrev cX10_countHaving : ByteArray := prog_12_method_17_code
def yX10_countHaving : MethodName := ⟨RX10, "countHaving", "(I)I"⟩
abbrev cX10_isMeant : ByteArray := prog_12_method_18_code
def yX10_isMeant : MethodName := ⟨RX10, "isMeant", "(II)Z"⟩
abbrev cX10_countMeant : ByteArray := prog_12_method_19_code
def yX10_countMeant : MethodName := ⟨RX10, "countMeant", "(I)I"⟩
abbrev cX10_nthMeant : ByteArray := prog_12_method_20_code
def yX10_nthMeant : MethodName := ⟨RX10, "nthMeant", "(II)I"⟩
abbrev cX10_commonest : ByteArray := prog_12_method_21_code
def yX10_commonest : MethodName := ⟨RX10, "commonest", "(ZZ)I"⟩
def RX11 : String := "OneLine"
def TX11 : u_T := fun k => match k with
  | 0 => ("OneLine", "tape", "LOneLine$Tape;", true)
  | 1 => ("OneLine", "line", "LOneLine$Line;", false)
  | 2 => ("OneLine", "spare", "LOneLine$Line;", false)
  | 3 => ("OneLine", "chosen", "LOneLine$Line;", true)
  | 4 => ("OneLine", "book", "LOneLine$Book;", false)
  | 5 => ("OneLine", "draft", "LOneLine$Book;", false)
  | 6 => ("OneLine", "reader", "LOneLine$Reader;", true)
  | 7 => ("OneLine", "judge", "LOneLine$Judge;", true)
  | 8 => ("OneLine", "duet", "LOneLine$Duet;", true)
  | 9 => ("OneLine", "solo", "LOneLine$Voice;", true)
  | 10 => ("OneLine", "ways", "LOneLine$Ways;", true)
  | 11 => ("OneLine", "sets", "LOneLine$Sets;", true)
  | 12 => ("OneLine", "likeness", "LOneLine$Likeness;", true)
  | 13 => ("OneLine", "octets", "[I", true)
  | 14 => ("OneLine", "octetCount", "I", false)
  | 15 => ("OneLine", "wrongs", "[I", true)
  | 16 => ("OneLine", "wrongCount", "I", false)
  | _ => ("OneLine", "wrongFor", "I", false)
def tyX11 : Nat → FieldType := fun k => match k with
  | 0 => .object "OneLine$Tape"
  | 1 => .object "OneLine$Line"
  | 2 => .object "OneLine$Line"
  | 3 => .object "OneLine$Line"
  | 4 => .object "OneLine$Book"
  | 5 => .object "OneLine$Book"
  | 6 => .object "OneLine$Reader"
  | 7 => .object "OneLine$Judge"
  | 8 => .object "OneLine$Duet"
  | 9 => .object "OneLine$Voice"
  | 10 => .object "OneLine$Ways"
  | 11 => .object "OneLine$Sets"
  | 12 => .object "OneLine$Likeness"
  | 13 => .array .int
  | 14 => .int
  | 15 => .array .int
  | 16 => .int
  | _ => .int
abbrev wsX110 : List Cond := u_ws RX11 TX11 18
theorem nmX11 : ∀ a, a < 18 → ∀ b, b < 18 → a ≠ b → (TX11 a).2.1 ≠ (TX11 b).2.1 := by decide +kernel
theorem tyX11_ok : ∀ k, k < 18 → parseFieldDescriptor (TX11 k).2.2.1 = some (tyX11 k) := by decide +kernel
abbrev cX11_init : ByteArray := prog_1_method_1_code
def yX11_init : MethodName := ⟨RX11, "<init>", "()V"⟩
abbrev cX11_feed : ByteArray := prog_1_method_2_code
def yX11_feed : MethodName := ⟨RX11, "feed", "(IIIII)I"⟩
abbrev cX11_end : ByteArray := prog_1_method_3_code
def yX11_end : MethodName := ⟨RX11, "end", "(I)Z"⟩
abbrev cX11_line : ByteArray := prog_1_method_4_code
def yX11_line : MethodName := ⟨RX11, "line", "()I"⟩
abbrev cX11_book : ByteArray := prog_1_method_5_code
def yX11_book : MethodName := ⟨RX11, "book", "()I"⟩
abbrev cX11_fault : ByteArray := prog_1_method_6_code
def yX11_fault : MethodName := ⟨RX11, "fault", "(I)I"⟩
abbrev cX11_has : ByteArray := prog_1_method_7_code
def yX11_has : MethodName := ⟨RX11, "has", "(I)I"⟩
abbrev cX11_letter : ByteArray := prog_1_method_8_code
def yX11_letter : MethodName := ⟨RX11, "letter", "(II)I"⟩
abbrev cX11_note : ByteArray := prog_1_method_9_code
def yX11_note : MethodName := ⟨RX11, "note", "(II)I"⟩
abbrev cX11_bounds : ByteArray := prog_1_method_10_code
def yX11_bounds : MethodName := ⟨RX11, "bounds", "(III)I"⟩
abbrev cX11_code : ByteArray := prog_1_method_11_code
def yX11_code : MethodName := ⟨RX11, "code", "(IIIII)I"⟩
abbrev cX11_follower : ByteArray := prog_1_method_12_code
def yX11_follower : MethodName := ⟨RX11, "follower", "(II)I"⟩
abbrev cX11_sings : ByteArray := prog_1_method_13_code
def yX11_sings : MethodName := ⟨RX11, "sings", "(II)I"⟩
abbrev cX11_breach : ByteArray := prog_1_method_14_code
def yX11_breach : MethodName := ⟨RX11, "breach", "(III)I"⟩
abbrev cX11_together : ByteArray := prog_1_method_15_code
def yX11_together : MethodName := ⟨RX11, "together", "(III)I"⟩
abbrev cX11_broken : ByteArray := prog_1_method_16_code
def yX11_broken : MethodName := ⟨RX11, "broken", "(III)I"⟩
abbrev cX11_span : ByteArray := prog_1_method_17_code
def yX11_span : MethodName := ⟨RX11, "span", "(IZ)I"⟩
abbrev cX11_ways : ByteArray := prog_1_method_18_code
def yX11_ways : MethodName := ⟨RX11, "ways", "(I)I"⟩
abbrev cX11_way : ByteArray := prog_1_method_19_code
def yX11_way : MethodName := ⟨RX11, "way", "(III)I"⟩
abbrev cX11_signs : ByteArray := prog_1_method_20_code
def yX11_signs : MethodName := ⟨RX11, "signs", "(I)I"⟩
abbrev cX11_like : ByteArray := prog_1_method_21_code
def yX11_like : MethodName := ⟨RX11, "like", "(II)I"⟩
abbrev cX11_means : ByteArray := prog_1_method_22_code
def yX11_means : MethodName := ⟨RX11, "means", "(II)I"⟩
abbrev cX11_mean : ByteArray := prog_1_method_23_code
def yX11_mean : MethodName := ⟨RX11, "mean", "(I)I"⟩
abbrev cX11_mottos : ByteArray := prog_1_method_24_code
def yX11_mottos : MethodName := ⟨RX11, "mottos", "(I)I"⟩
abbrev cX11_common : ByteArray := prog_1_method_25_code
def yX11_common : MethodName := ⟨RX11, "common", "(I)I"⟩
abbrev cX11_over : ByteArray := prog_1_method_26_code
def yX11_over : MethodName := ⟨RX11, "over", "(II)I"⟩
abbrev cX11_alike : ByteArray := prog_1_method_27_code
def yX11_alike : MethodName := ⟨RX11, "alike", "(I)I"⟩
abbrev cX11_unlike : ByteArray := prog_1_method_28_code
def yX11_unlike : MethodName := ⟨RX11, "unlike", "()I"⟩
abbrev cX11_rule : ByteArray := prog_1_method_29_code
def yX11_rule : MethodName := ⟨RX11, "rule", "(IZ)I"⟩
abbrev cX11_meant : ByteArray := prog_1_method_30_code
def yX11_meant : MethodName := ⟨RX11, "meant", "(II)I"⟩
abbrev cX11_round : ByteArray := prog_1_method_31_code
def yX11_round : MethodName := ⟨RX11, "round", "(I)I"⟩
abbrev cX11_make : ByteArray := prog_1_method_32_code
def yX11_make : MethodName := ⟨RX11, "make", "(III)I"⟩
abbrev cX11_shortest : ByteArray := prog_1_method_33_code
def yX11_shortest : MethodName := ⟨RX11, "shortest", "(II)I"⟩
abbrev cX11_richest : ByteArray := prog_1_method_34_code
def yX11_richest : MethodName := ⟨RX11, "richest", "(III)I"⟩
abbrev cX11_wrong : ByteArray := prog_1_method_35_code
def yX11_wrong : MethodName := ⟨RX11, "wrong", "(II)I"⟩
abbrev cX11_change : ByteArray := prog_1_method_36_code
def yX11_change : MethodName := ⟨RX11, "change", "(II)I"⟩
abbrev cX11_draw : ByteArray := prog_1_method_37_code
def yX11_draw : MethodName := ⟨RX11, "draw", "(III)I"⟩
abbrev cX11_image : ByteArray := prog_1_method_38_code
def yX11_image : MethodName := ⟨RX11, "image", "()I"⟩
abbrev cX11_octet : ByteArray := prog_1_method_39_code
def yX11_octet : MethodName := ⟨RX11, "octet", "(I)I"⟩
abbrev cX11_on : ByteArray := prog_1_method_40_code
def yX11_on : MethodName := ⟨RX11, "on", "()Z"⟩
abbrev cX11_isCode : ByteArray := prog_1_method_41_code
def yX11_isCode : MethodName := ⟨RX11, "isCode", "(I)Z"⟩
abbrev cX11_follows : ByteArray := prog_1_method_42_code
def yX11_follows : MethodName := ⟨RX11, "follows", "(I)Z"⟩
abbrev cX11_codeOf : ByteArray := prog_1_method_43_code
def yX11_codeOf : MethodName := ⟨RX11, "codeOf", "(III)I"⟩
abbrev cX11_canBe : ByteArray := prog_1_method_44_code
def yX11_canBe : MethodName := ⟨RX11, "canBe", "(LOneLine$Line;I)Z"⟩
abbrev cX11_lowestBit : ByteArray := prog_1_method_45_code
def yX11_lowestBit : MethodName := ⟨RX11, "lowestBit", "(I)I"⟩
abbrev cX11_nextSeed : ByteArray := prog_1_method_46_code
def yX11_nextSeed : MethodName := ⟨RX11, "nextSeed", "(I)I"⟩
abbrev cX11_nextCheck : ByteArray := prog_1_method_47_code
def yX11_nextCheck : MethodName := ⟨RX11, "nextCheck", "(II)I"⟩
abbrev cX11_takeSpare : ByteArray := prog_1_method_48_code
def yX11_takeSpare : MethodName := ⟨RX11, "takeSpare", "()V"⟩
abbrev cX11_forget : ByteArray := prog_1_method_49_code
def yX11_forget : MethodName := ⟨RX11, "forget", "()V"⟩
abbrev cX11_prepare : ByteArray := prog_1_method_50_code
def yX11_prepare : MethodName := ⟨RX11, "prepare", "(I)V"⟩
abbrev cX11_prepareLikeness : ByteArray := prog_1_method_51_code
def yX11_prepareLikeness : MethodName := ⟨RX11, "prepareLikeness", "()V"⟩
abbrev cX11_howMany : ByteArray := prog_1_method_52_code
def yX11_howMany : MethodName := ⟨RX11, "howMany", "(I)I"⟩
abbrev cX11_member : ByteArray := prog_1_method_53_code
def yX11_member : MethodName := ⟨RX11, "member", "(III)I"⟩
abbrev cX11_hearTwo : ByteArray := prog_1_method_54_code
def yX11_hearTwo : MethodName := ⟨RX11, "hearTwo", "(II)Z"⟩
abbrev cX11_agrees : ByteArray := prog_1_method_55_code
def yX11_agrees : MethodName := ⟨RX11, "agrees", "(LOneLine$Line;I)Z"⟩
abbrev cX11_madeInSpare : ByteArray := prog_1_method_56_code
def yX11_madeInSpare : MethodName := ⟨RX11, "madeInSpare", "(III)Z"⟩
abbrev cX11_seekWrongs : ByteArray := prog_1_method_57_code
def yX11_seekWrongs : MethodName := ⟨RX11, "seekWrongs", "(I)Z"⟩
abbrev cX11_keepWrong : ByteArray := prog_1_method_58_code
def yX11_keepWrong : MethodName := ⟨RX11, "keepWrong", "(I)V"⟩
abbrev cX11_imageInSpare : ByteArray := prog_1_method_59_code
def yX11_imageInSpare : MethodName := ⟨RX11, "imageInSpare", "()Z"⟩
def RX12 : String := "OneLineModel"
def TX12 : u_T := fun k => match k with
  | 0 => ("OneLineModel", "tape", "[I", true)
  | 1 => ("OneLineModel", "taped", "I", false)
  | 2 => ("OneLineModel", "at", "I", false)
  | 3 => ("OneLineModel", "end", "I", false)
  | 4 => ("OneLineModel", "ended", "I", false)
  | 5 => ("OneLineModel", "bad", "I", false)
  | 6 => ("OneLineModel", "badPlace", "I", false)
  | 7 => ("OneLineModel", "fault", "I", false)
  | 8 => ("OneLineModel", "faultPlace", "I", false)
  | 9 => ("OneLineModel", "numberPlace", "I", false)
  | 10 => ("OneLineModel", "stepWord", "[C", true)
  | 11 => ("OneLineModel", "forWord", "[C", true)
  | 12 => ("OneLineModel", "restWord", "[C", true)
  | 13 => ("OneLineModel", "measureWord", "[C", true)
  | 14 => ("OneLineModel", "badWord", "[C", true)
  | 15 => ("OneLineModel", "mottoWord", "[C", true)
  | 16 => ("OneLineModel", "whenWord", "[C", true)
  | 17 => ("OneLineModel", "orWord", "[C", true)
  | 18 => ("OneLineModel", "andWord", "[C", true)
  | 19 => ("OneLineModel", "notWord", "[C", true)
  | 20 => ("OneLineModel", "allWord", "[C", true)
  | 21 => ("OneLineModel", "gapWord", "[C", true)
  | 22 => ("OneLineModel", "sortWord", "[C", true)
  | 23 => ("OneLineModel", "underWord", "[C", true)
  | 24 => ("OneLineModel", "beatWord", "[C", true)
  | 25 => ("OneLineModel", "riseWord", "[C", true)
  | 26 => ("OneLineModel", "climbWord", "[C", true)
  | 27 => ("OneLineModel", "wasWord", "[C", true)
  | 28 => ("OneLineModel", "lastWord", "[C", true)
  | 29 => ("OneLineModel", "delayWord", "[C", true)
  | 30 => ("OneLineModel", "highWord", "[C", true)
  | 31 => ("OneLineModel", "mirrorWord", "[C", true)
  | 32 => ("OneLineModel", "backWord", "[C", true)
  | 33 => ("OneLineModel", "paceWord", "[C", true)
  | 34 => ("OneLineModel", "minWord", "[C", true)
  | 35 => ("OneLineModel", "maxWord", "[C", true)
  | 36 => ("OneLineModel", "namePlace", "I", false)
  | 37 => ("OneLineModel", "statements", "I", false)
  | 38 => ("OneLineModel", "notes", "I", false)
  | 39 => ("OneLineModel", "stepOf", "[I", true)
  | 40 => ("OneLineModel", "ticksOf", "[I", true)
  | 41 => ("OneLineModel", "noteIn", "[I", true)
  | 42 => ("OneLineModel", "length", "I", false)
  | 43 => ("OneLineModel", "firstStep", "I", false)
  | 44 => ("OneLineModel", "codes", "[I", true)
  | 45 => ("OneLineModel", "coded", "I", false)
  | 46 => ("OneLineModel", "wait", "[I", true)
  | 47 => ("OneLineModel", "waits", "I", false)
  | 48 => ("OneLineModel", "open", "I", false)
  | 49 => ("OneLineModel", "many", "[I", true)
  | 50 => ("OneLineModel", "from", "[I", true)
  | 51 => ("OneLineModel", "to", "[I", true)
  | 52 => ("OneLineModel", "names", "[J", true)
  | 53 => ("OneLineModel", "measure", "I", false)
  | 54 => ("OneLineModel", "measureTold", "I", false)
  | 55 => ("OneLineModel", "base", "I", false)
  | 56 => ("OneLineModel", "isMotto", "Z", false)
  | 57 => ("OneLineModel", "pile", "[J", true)
  | 58 => ("OneLineModel", "piled", "I", false)
  | 59 => ("OneLineModel", "ask", "[I", true)
  | 60 => ("OneLineModel", "stepA", "I", false)
  | 61 => ("OneLineModel", "stepB", "I", false)
  | 62 => ("OneLineModel", "wasA", "I", false)
  | 63 => ("OneLineModel", "wasB", "I", false)
  | 64 => ("OneLineModel", "leftOut", "I", false)
  | 65 => ("OneLineModel", "breachRule", "I", false)
  | 66 => ("OneLineModel", "boundDelay", "I", false)
  | 67 => ("OneLineModel", "boundHigh", "I", false)
  | 68 => ("OneLineModel", "boundKinds", "I", false)
  | 69 => ("OneLineModel", "areKnown", "Z", false)
  | 70 => ("OneLineModel", "wayCode", "[I", true)
  | 71 => ("OneLineModel", "wayMany", "I", false)
  | 72 => ("OneLineModel", "goTogether", "[Z", true)
  | 73 => ("OneLineModel", "picked", "[I", true)
  | 74 => ("OneLineModel", "tally", "[I", true)
  | 75 => ("OneLineModel", "stepAside", "[I", true)
  | 76 => ("OneLineModel", "ticksAside", "[I", true)
  | 77 => ("OneLineModel", "notesAside", "I", false)
  | 78 => ("OneLineModel", "richSteps", "[I", true)
  | 79 => ("OneLineModel", "seeded", "J", false)
  | 80 => ("OneLineModel", "octet", "[I", true)
  | _ => ("OneLineModel", "octets", "I", false)
def tyX12 : Nat → FieldType := fun k => match k with
  | 0 => .array .int
  | 1 => .int
  | 2 => .int
  | 3 => .int
  | 4 => .int
  | 5 => .int
  | 6 => .int
  | 7 => .int
  | 8 => .int
  | 9 => .int
  | 10 => .array .char
  | 11 => .array .char
  | 12 => .array .char
  | 13 => .array .char
  | 14 => .array .char
  | 15 => .array .char
  | 16 => .array .char
  | 17 => .array .char
  | 18 => .array .char
  | 19 => .array .char
  | 20 => .array .char
  | 21 => .array .char
  | 22 => .array .char
  | 23 => .array .char
  | 24 => .array .char
  | 25 => .array .char
  | 26 => .array .char
  | 27 => .array .char
  | 28 => .array .char
  | 29 => .array .char
  | 30 => .array .char
  | 31 => .array .char
  | 32 => .array .char
  | 33 => .array .char
  | 34 => .array .char
  | 35 => .array .char
  | 36 => .int
  | 37 => .int
  | 38 => .int
  | 39 => .array .int
  | 40 => .array .int
  | 41 => .array .int
  | 42 => .int
  | 43 => .int
  | 44 => .array .int
  | 45 => .int
  | 46 => .array .int
  | 47 => .int
  | 48 => .int
  | 49 => .array .int
  | 50 => .array .int
  | 51 => .array .int
  | 52 => .array .long
  | 53 => .int
  | 54 => .int
  | 55 => .int
  | 56 => .boolean
  | 57 => .array .long
  | 58 => .int
  | 59 => .array .int
  | 60 => .int
  | 61 => .int
  | 62 => .int
  | 63 => .int
  | 64 => .int
  | 65 => .int
  | 66 => .int
  | 67 => .int
  | 68 => .int
  | 69 => .boolean
  | 70 => .array .int
  | 71 => .int
  | 72 => .array .boolean
  | 73 => .array .int
  | 74 => .array .int
  | 75 => .array .int
  | 76 => .array .int
  | 77 => .int
  | 78 => .array .int
  | 79 => .long
  | 80 => .array .int
  | _ => .int
abbrev wsX120 : List Cond := u_ws RX12 TX12 82
theorem nmX12 : ∀ a, a < 82 → ∀ b, b < 82 → a ≠ b → (TX12 a).2.1 ≠ (TX12 b).2.1 := by decide +kernel
theorem tyX12_ok : ∀ k, k < 82 → parseFieldDescriptor (TX12 k).2.2.1 = some (tyX12 k) := by decide +kernel
abbrev cX12_init : ByteArray := prog_14_method_1_code
def yX12_init : MethodName := ⟨RX12, "<init>", "()V"⟩
abbrev cX12_isIn : ByteArray := prog_14_method_2_code
def yX12_isIn : MethodName := ⟨RX12, "isIn", "(JJJ)Z"⟩
abbrev cX12_feed : ByteArray := prog_14_method_3_code
def yX12_feed : MethodName := ⟨RX12, "feed", "(IIIII)I"⟩
abbrev cX12_end : ByteArray := prog_14_method_4_code
def yX12_end : MethodName := ⟨RX12, "end", "(I)Z"⟩
abbrev cX12_fail : ByteArray := prog_14_method_5_code
def yX12_fail : MethodName := ⟨RX12, "fail", "(II)V"⟩
abbrev cX12_isLetter : ByteArray := prog_14_method_6_code
def yX12_isLetter : MethodName := ⟨RX12, "isLetter", "(I)Z"⟩
abbrev cX12_isDigit : ByteArray := prog_14_method_7_code
def yX12_isDigit : MethodName := ⟨RX12, "isDigit", "(I)Z"⟩
abbrev cX12_look : ByteArray := prog_14_method_8_code
def yX12_look : MethodName := ⟨RX12, "look", "()I"⟩
abbrev cX12_isHere : ByteArray := prog_14_method_9_code
def yX12_isHere : MethodName := ⟨RX12, "isHere", "([C)Z"⟩
abbrev cX12_takes : ByteArray := prog_14_method_10_code
def yX12_takes : MethodName := ⟨RX12, "takes", "([C)Z"⟩
abbrev cX12_asks : ByteArray := prog_14_method_11_code
def yX12_asks : MethodName := ⟨RX12, "asks", "([C)V"⟩
abbrev cX12_takesSign : ByteArray := prog_14_method_12_code
def yX12_takesSign : MethodName := ⟨RX12, "takesSign", "(I)Z"⟩
abbrev cX12_asksSign : ByteArray := prog_14_method_13_code
def yX12_asksSign : MethodName := ⟨RX12, "asksSign", "(I)V"⟩
abbrev cX12_number : ByteArray := prog_14_method_14_code
def yX12_number : MethodName := ⟨RX12, "number", "(II)I"⟩
abbrev cX12_isOwnHere : ByteArray := prog_14_method_15_code
def yX12_isOwnHere : MethodName := ⟨RX12, "isOwnHere", "()Z"⟩
abbrev cX12_name : ByteArray := prog_14_method_16_code
def yX12_name : MethodName := ⟨RX12, "name", "()J"⟩
abbrev cX12_begins : ByteArray := prog_14_method_17_code
def yX12_begins : MethodName := ⟨RX12, "begins", "()V"⟩
abbrev cX12_isTaken : ByteArray := prog_14_method_18_code
def yX12_isTaken : MethodName := ⟨RX12, "isTaken", "()Z"⟩
abbrev cX12_noteTold : ByteArray := prog_14_method_19_code
def yX12_noteTold : MethodName := ⟨RX12, "noteTold", "()V"⟩
abbrev cX12_line : ByteArray := prog_14_method_20_code
def yX12_line : MethodName := ⟨RX12, "line", "()I"⟩
abbrev cX12_lies : ByteArray := prog_14_method_21_code
def yX12_lies : MethodName := ⟨RX12, "lies", "()V"⟩
abbrev cX12_lay : ByteArray := prog_14_method_22_code
def yX12_lay : MethodName := ⟨RX12, "lay", "(I)V"⟩
abbrev cX12_opens : ByteArray := prog_14_method_23_code
def yX12_opens : MethodName := ⟨RX12, "opens", "(II)V"⟩
abbrev cX12_isOn : ByteArray := prog_14_method_24_code
def yX12_isOn : MethodName := ⟨RX12, "isOn", "(I)Z"⟩
abbrev cX12_drops : ByteArray := prog_14_method_25_code
def yX12_drops : MethodName := ⟨RX12, "drops", "()V"⟩
abbrev cX12_isMark : ByteArray := prog_14_method_26_code
def yX12_isMark : MethodName := ⟨RX12, "isMark", "(I)Z"⟩
abbrev cX12_mark : ByteArray := prog_14_method_27_code
def yX12_mark : MethodName := ⟨RX12, "mark", "()I"⟩
abbrev cX12_dropsToMark : ByteArray := prog_14_method_28_code
def yX12_dropsToMark : MethodName := ⟨RX12, "dropsToMark", "()V"⟩
abbrev cX12_onePart : ByteArray := prog_14_method_29_code
def yX12_onePart : MethodName := ⟨RX12, "onePart", "()V"⟩
abbrev cX12_rulePart : ByteArray := prog_14_method_30_code
def yX12_rulePart : MethodName := ⟨RX12, "rulePart", "()I"⟩
abbrev cX12_mottoPart : ByteArray := prog_14_method_31_code
def yX12_mottoPart : MethodName := ⟨RX12, "mottoPart", "()I"⟩
abbrev cX12_goesOn : ByteArray := prog_14_method_32_code
def yX12_goesOn : MethodName := ⟨RX12, "goesOn", "()Z"⟩
abbrev cX12_sums : ByteArray := prog_14_method_33_code
def yX12_sums : MethodName := ⟨RX12, "sums", "()V"⟩
abbrev cX12_fact : ByteArray := prog_14_method_34_code
def yX12_fact : MethodName := ⟨RX12, "fact", "()V"⟩
abbrev cX12_hasSquare : ByteArray := prog_14_method_35_code
def yX12_hasSquare : MethodName := ⟨RX12, "hasSquare", "()Z"⟩
abbrev cX12_dropsNots : ByteArray := prog_14_method_36_code
def yX12_dropsNots : MethodName := ⟨RX12, "dropsNots", "()V"⟩
abbrev cX12_test : ByteArray := prog_14_method_37_code
def yX12_test : MethodName := ⟨RX12, "test", "()V"⟩
abbrev cX12_goesOnTest : ByteArray := prog_14_method_38_code
def yX12_goesOnTest : MethodName := ⟨RX12, "goesOnTest", "()Z"⟩
abbrev cX12_testTold : ByteArray := prog_14_method_39_code
def yX12_testTold : MethodName := ⟨RX12, "testTold", "(I)V"⟩
abbrev cX12_ruleTold : ByteArray := prog_14_method_40_code
def yX12_ruleTold : MethodName := ⟨RX12, "ruleTold", "(I)V"⟩
abbrev cX12_mottoTold : ByteArray := prog_14_method_41_code
def yX12_mottoTold : MethodName := ⟨RX12, "mottoTold", "(I)V"⟩
abbrev cX12_bookTold : ByteArray := prog_14_method_42_code
def yX12_bookTold : MethodName := ⟨RX12, "bookTold", "()V"⟩
abbrev cX12_book : ByteArray := prog_14_method_43_code
def yX12_book : MethodName := ⟨RX12, "book", "()I"⟩
abbrev cX12_fault : ByteArray := prog_14_method_44_code
def yX12_fault : MethodName := ⟨RX12, "fault", "(I)I"⟩
abbrev cX12_clip : ByteArray := prog_14_method_45_code
def yX12_clip : MethodName := ⟨RX12, "clip", "(J)J"⟩
abbrev cX12_floor : ByteArray := prog_14_method_46_code
def yX12_floor : MethodName := ⟨RX12, "floor", "(JJ)J"⟩
abbrev cX12_puts : ByteArray := prog_14_method_47_code
def yX12_puts : MethodName := ⟨RX12, "puts", "(J)V"⟩
abbrev cX12_joins : ByteArray := prog_14_method_48_code
def yX12_joins : MethodName := ⟨RX12, "joins", "(I)V"⟩
abbrev cX12_holds : ByteArray := prog_14_method_49_code
def yX12_holds : MethodName := ⟨RX12, "holds", "(II)Z"⟩
abbrev cX12_has : ByteArray := prog_14_method_50_code
def yX12_has : MethodName := ⟨RX12, "has", "(I)I"⟩
abbrev cX12_letter : ByteArray := prog_14_method_51_code
def yX12_letter : MethodName := ⟨RX12, "letter", "(II)I"⟩
abbrev cX12_note : ByteArray := prog_14_method_52_code
def yX12_note : MethodName := ⟨RX12, "note", "(II)I"⟩
abbrev cX12_isCode : ByteArray := prog_14_method_53_code
def yX12_isCode : MethodName := ⟨RX12, "isCode", "(I)Z"⟩
abbrev cX12_delayOf : ByteArray := prog_14_method_54_code
def yX12_delayOf : MethodName := ⟨RX12, "delayOf", "(I)I"⟩
abbrev cX12_highOf : ByteArray := prog_14_method_55_code
def yX12_highOf : MethodName := ⟨RX12, "highOf", "(I)I"⟩
abbrev cX12_mirrorOf : ByteArray := prog_14_method_56_code
def yX12_mirrorOf : MethodName := ⟨RX12, "mirrorOf", "(I)I"⟩
abbrev cX12_backOf : ByteArray := prog_14_method_57_code
def yX12_backOf : MethodName := ⟨RX12, "backOf", "(I)I"⟩
abbrev cX12_paceOf : ByteArray := prog_14_method_58_code
def yX12_paceOf : MethodName := ⟨RX12, "paceOf", "(I)I"⟩
abbrev cX12_codeOf : ByteArray := prog_14_method_59_code
def yX12_codeOf : MethodName := ⟨RX12, "codeOf", "(IIIII)I"⟩
abbrev cX12_canBe : ByteArray := prog_14_method_60_code
def yX12_canBe : MethodName := ⟨RX12, "canBe", "(I)Z"⟩
abbrev cX12_overAt : ByteArray := prog_14_method_61_code
def yX12_overAt : MethodName := ⟨RX12, "overAt", "(I)I"⟩
abbrev cX12_noteAt : ByteArray := prog_14_method_62_code
def yX12_noteAt : MethodName := ⟨RX12, "noteAt", "(II)I"⟩
abbrev cX12_stepBy : ByteArray := prog_14_method_63_code
def yX12_stepBy : MethodName := ⟨RX12, "stepBy", "(II)I"⟩
abbrev cX12_singsIn : ByteArray := prog_14_method_64_code
def yX12_singsIn : MethodName := ⟨RX12, "singsIn", "(II)I"⟩
abbrev cX12_code : ByteArray := prog_14_method_65_code
def yX12_code : MethodName := ⟨RX12, "code", "(IIIII)I"⟩
abbrev cX12_follower : ByteArray := prog_14_method_66_code
def yX12_follower : MethodName := ⟨RX12, "follower", "(II)I"⟩
abbrev cX12_sings : ByteArray := prog_14_method_67_code
def yX12_sings : MethodName := ⟨RX12, "sings", "(II)I"⟩
abbrev cX12_apart : ByteArray := prog_14_method_68_code
def yX12_apart : MethodName := ⟨RX12, "apart", "(II)I"⟩
abbrev cX12_asksAll : ByteArray := prog_14_method_69_code
def yX12_asksAll : MethodName := ⟨RX12, "asksAll", "(IZ)V"⟩
abbrev cX12_firstRule : ByteArray := prog_14_method_70_code
def yX12_firstRule : MethodName := ⟨RX12, "firstRule", "()I"⟩
abbrev cX12_isFirst : ByteArray := prog_14_method_71_code
def yX12_isFirst : MethodName := ⟨RX12, "isFirst", "(II)Z"⟩
abbrev cX12_brokenBy : ByteArray := prog_14_method_72_code
def yX12_brokenBy : MethodName := ⟨RX12, "brokenBy", "(III)I"⟩
abbrev cX12_breachOf : ByteArray := prog_14_method_73_code
def yX12_breachOf : MethodName := ⟨RX12, "breachOf", "(II)I"⟩
abbrev cX12_areTwo : ByteArray := prog_14_method_74_code
def yX12_areTwo : MethodName := ⟨RX12, "areTwo", "(II)Z"⟩
abbrev cX12_breach : ByteArray := prog_14_method_75_code
def yX12_breach : MethodName := ⟨RX12, "breach", "(III)I"⟩
abbrev cX12_together : ByteArray := prog_14_method_76_code
def yX12_together : MethodName := ⟨RX12, "together", "(III)I"⟩
abbrev cX12_broken : ByteArray := prog_14_method_77_code
def yX12_broken : MethodName := ⟨RX12, "broken", "(III)I"⟩
abbrev cX12_span : ByteArray := prog_14_method_78_code
def yX12_span : MethodName := ⟨RX12, "span", "(IZ)I"⟩
abbrev cX12_isBound : ByteArray := prog_14_method_79_code
def yX12_isBound : MethodName := ⟨RX12, "isBound", "(I)Z"⟩
abbrev cX12_waysNow : ByteArray := prog_14_method_80_code
def yX12_waysNow : MethodName := ⟨RX12, "waysNow", "()I"⟩
abbrev cX12_knows : ByteArray := prog_14_method_81_code
def yX12_knows : MethodName := ⟨RX12, "knows", "()V"⟩
abbrev cX12_chosen : ByteArray := prog_14_method_82_code
def yX12_chosen : MethodName := ⟨RX12, "chosen", "()I"⟩
abbrev cX12_bounds : ByteArray := prog_14_method_83_code
def yX12_bounds : MethodName := ⟨RX12, "bounds", "(III)I"⟩
abbrev cX12_picks : ByteArray := prog_14_method_84_code
def yX12_picks : MethodName := ⟨RX12, "picks", "(II)I"⟩
abbrev cX12_ways : ByteArray := prog_14_method_85_code
def yX12_ways : MethodName := ⟨RX12, "ways", "(I)I"⟩
abbrev cX12_isWayOf : ByteArray := prog_14_method_86_code
def yX12_isWayOf : MethodName := ⟨RX12, "isWayOf", "(II)Z"⟩
abbrev cX12_way : ByteArray := prog_14_method_87_code
def yX12_way : MethodName := ⟨RX12, "way", "(III)I"⟩
abbrev cX12_isWay : ByteArray := prog_14_method_88_code
def yX12_isWay : MethodName := ⟨RX12, "isWay", "(I)Z"⟩
abbrev cX12_isLike : ByteArray := prog_14_method_89_code
def yX12_isLike : MethodName := ⟨RX12, "isLike", "(III)Z"⟩
abbrev cX12_likeMany : ByteArray := prog_14_method_90_code
def yX12_likeMany : MethodName := ⟨RX12, "likeMany", "(II)I"⟩
abbrev cX12_bits : ByteArray := prog_14_method_91_code
def yX12_bits : MethodName := ⟨RX12, "bits", "(I)I"⟩
abbrev cX12_signs : ByteArray := prog_14_method_92_code
def yX12_signs : MethodName := ⟨RX12, "signs", "(I)I"⟩
abbrev cX12_like : ByteArray := prog_14_method_93_code
def yX12_like : MethodName := ⟨RX12, "like", "(II)I"⟩
abbrev cX12_isMeant : ByteArray := prog_14_method_94_code
def yX12_isMeant : MethodName := ⟨RX12, "isMeant", "(II)Z"⟩
abbrev cX12_isOfMottos : ByteArray := prog_14_method_95_code
def yX12_isOfMottos : MethodName := ⟨RX12, "isOfMottos", "(I)Z"⟩
abbrev cX12_means : ByteArray := prog_14_method_96_code
def yX12_means : MethodName := ⟨RX12, "means", "(II)I"⟩
abbrev cX12_isMeantByAll : ByteArray := prog_14_method_97_code
def yX12_isMeantByAll : MethodName := ⟨RX12, "isMeantByAll", "(II)Z"⟩
abbrev cX12_meanMany : ByteArray := prog_14_method_98_code
def yX12_meanMany : MethodName := ⟨RX12, "meanMany", "(I)I"⟩
abbrev cX12_mean : ByteArray := prog_14_method_99_code
def yX12_mean : MethodName := ⟨RX12, "mean", "(I)I"⟩
abbrev cX12_mottos : ByteArray := prog_14_method_100_code
def yX12_mottos : MethodName := ⟨RX12, "mottos", "(I)I"⟩
abbrev cX12_common : ByteArray := prog_14_method_101_code
def yX12_common : MethodName := ⟨RX12, "common", "(I)I"⟩
abbrev cX12_over : ByteArray := prog_14_method_102_code
def yX12_over : MethodName := ⟨RX12, "over", "(II)I"⟩
abbrev cX12_areAlike : ByteArray := prog_14_method_103_code
def yX12_areAlike : MethodName := ⟨RX12, "areAlike", "(II)Z"⟩
abbrev cX12_alikeTo : ByteArray := prog_14_method_104_code
def yX12_alikeTo : MethodName := ⟨RX12, "alikeTo", "(I)I"⟩
abbrev cX12_alike : ByteArray := prog_14_method_105_code
def yX12_alike : MethodName := ⟨RX12, "alike", "(I)I"⟩
abbrev cX12_unlike : ByteArray := prog_14_method_106_code
def yX12_unlike : MethodName := ⟨RX12, "unlike", "()I"⟩
abbrev cX12_rule : ByteArray := prog_14_method_107_code
def yX12_rule : MethodName := ⟨RX12, "rule", "(IZ)I"⟩
abbrev cX12_meant : ByteArray := prog_14_method_108_code
def yX12_meant : MethodName := ⟨RX12, "meant", "(II)I"⟩
abbrev cX12_within : ByteArray := prog_14_method_109_code
def yX12_within : MethodName := ⟨RX12, "within", "(II)I"⟩
abbrev cX12_roundNote : ByteArray := prog_14_method_110_code
def yX12_roundNote : MethodName := ⟨RX12, "roundNote", "(II)I"⟩
abbrev cX12_round : ByteArray := prog_14_method_111_code
def yX12_round : MethodName := ⟨RX12, "round", "(I)I"⟩
abbrev cX12_putsAside : ByteArray := prog_14_method_112_code
def yX12_putsAside : MethodName := ⟨RX12, "putsAside", "()V"⟩
abbrev cX12_takesBack : ByteArray := prog_14_method_113_code
def yX12_takesBack : MethodName := ⟨RX12, "takesBack", "()V"⟩
abbrev cX12_firstLine : ByteArray := prog_14_method_114_code
def yX12_firstLine : MethodName := ⟨RX12, "firstLine", "(II)Z"⟩
abbrev cX12_nextLine : ByteArray := prog_14_method_115_code
def yX12_nextLine : MethodName := ⟨RX12, "nextLine", "(I)Z"⟩
abbrev cX12_makes : ByteArray := prog_14_method_116_code
def yX12_makes : MethodName := ⟨RX12, "makes", "(III)Z"⟩
abbrev cX12_isFollower : ByteArray := prog_14_method_117_code
def yX12_isFollower : MethodName := ⟨RX12, "isFollower", "(I)Z"⟩
abbrev cX12_make : ByteArray := prog_14_method_118_code
def yX12_make : MethodName := ⟨RX12, "make", "(III)I"⟩
abbrev cX12_shortest : ByteArray := prog_14_method_119_code
def yX12_shortest : MethodName := ⟨RX12, "shortest", "(II)I"⟩
abbrev cX12_richest : ByteArray := prog_14_method_120_code
def yX12_richest : MethodName := ⟨RX12, "richest", "(III)I"⟩
abbrev cX12_wrong : ByteArray := prog_14_method_121_code
def yX12_wrong : MethodName := ⟨RX12, "wrong", "(II)I"⟩
abbrev cX12_change : ByteArray := prog_14_method_122_code
def yX12_change : MethodName := ⟨RX12, "change", "(II)I"⟩
abbrev cX12_drawOf : ByteArray := prog_14_method_123_code
def yX12_drawOf : MethodName := ⟨RX12, "drawOf", "(I)I"⟩
abbrev cX12_draw : ByteArray := prog_14_method_124_code
def yX12_draw : MethodName := ⟨RX12, "draw", "(III)I"⟩
abbrev cX12_writes : ByteArray := prog_14_method_125_code
def yX12_writes : MethodName := ⟨RX12, "writes", "(I)V"⟩
abbrev cX12_checked : ByteArray := prog_14_method_126_code
def yX12_checked : MethodName := ⟨RX12, "checked", "([II)I"⟩
abbrev cX12_image : ByteArray := prog_14_method_127_code
def yX12_image : MethodName := ⟨RX12, "image", "()I"⟩
abbrev cX12_octet : ByteArray := prog_14_method_128_code
def yX12_octet : MethodName := ⟨RX12, "octet", "(I)I"⟩
abbrev cX12_isTold : ByteArray := prog_14_method_129_code
def yX12_isTold : MethodName := ⟨RX12, "isTold", "(I)Z"⟩
abbrev cX12_on : ByteArray := prog_14_method_130_code
def yX12_on : MethodName := ⟨RX12, "on", "()Z"⟩
def RJx145de : String := "java/io/Serializable"
def TJx145de : u_T := fun k => match k with
  | _ => ("", "", "", false)
def tyJx145de : Nat → FieldType := fun k => match k with
  | _ => .int
abbrev wsJx145de0 : List Cond := u_ws RJx145de TJx145de 0
theorem nmJx145de : ∀ a, a < 0 → ∀ b, b < 0 → a ≠ b → (TJx145de a).2.1 ≠ (TJx145de b).2.1 := by decide +kernel
theorem tyJx145de_ok : ∀ k, k < 0 → parseFieldDescriptor (TJx145de k).2.2.1 = some (tyJx145de k) := by decide +kernel
def RJx9f9b0 : String := "java/lang/CharSequence"
def TJx9f9b0 : u_T := fun k => match k with
  | _ => ("", "", "", false)
def tyJx9f9b0 : Nat → FieldType := fun k => match k with
  | _ => .int
abbrev wsJx9f9b00 : List Cond := u_ws RJx9f9b0 TJx9f9b0 0
theorem nmJx9f9b0 : ∀ a, a < 0 → ∀ b, b < 0 → a ≠ b → (TJx9f9b0 a).2.1 ≠ (TJx9f9b0 b).2.1 := by decide +kernel
theorem tyJx9f9b0_ok : ∀ k, k < 0 → parseFieldDescriptor (TJx9f9b0 k).2.2.1 = some (tyJx9f9b0 k) := by decide +kernel
def RJxb160c : String := "java/lang/Comparable"
def TJxb160c : u_T := fun k => match k with
  | _ => ("", "", "", false)
def tyJxb160c : Nat → FieldType := fun k => match k with
  | _ => .int
abbrev wsJxb160c0 : List Cond := u_ws RJxb160c TJxb160c 0
theorem nmJxb160c : ∀ a, a < 0 → ∀ b, b < 0 → a ≠ b → (TJxb160c a).2.1 ≠ (TJxb160c b).2.1 := by decide +kernel
theorem tyJxb160c_ok : ∀ k, k < 0 → parseFieldDescriptor (TJxb160c k).2.2.1 = some (tyJxb160c k) := by decide +kernel
def RJ6 : String := "java/lang/Integer"
def TJ6 : u_T := fun k => match k with
  | _ => ("", "", "", false)
def tyJ6 : Nat → FieldType := fun k => match k with
  | _ => .int
abbrev wsJ60 : List Cond := u_ws RJ6 TJ6 0
theorem nmJ6 : ∀ a, a < 0 → ∀ b, b < 0 → a ≠ b → (TJ6 a).2.1 ≠ (TJ6 b).2.1 := by decide +kernel
theorem tyJ6_ok : ∀ k, k < 0 → parseFieldDescriptor (TJ6 k).2.2.1 = some (tyJ6 k) := by decide +kernel
abbrev cJ6_bitCount_0f7a4 : ByteArray := prog_15_method_49_code
def yJ6_bitCount_0f7a4 : MethodName := ⟨RJ6, "bitCount", "(I)I"⟩
def RJ9 : String := "java/lang/Math"
def TJ9 : u_T := fun k => match k with
  | _ => ("", "", "", false)
def tyJ9 : Nat → FieldType := fun k => match k with
  | _ => .int
abbrev wsJ90 : List Cond := u_ws RJ9 TJ9 0
theorem nmJ9 : ∀ a, a < 0 → ∀ b, b < 0 → a ≠ b → (TJ9 a).2.1 ≠ (TJ9 b).2.1 := by decide +kernel
theorem tyJ9_ok : ∀ k, k < 0 → parseFieldDescriptor (TJ9 k).2.2.1 = some (tyJ9 k) := by decide +kernel
abbrev cJ9_floorDiv_7cf53 : ByteArray := prog_16_method_47_code
def yJ9_floorDiv_7cf53 : MethodName := ⟨RJ9, "floorDiv", "(II)I"⟩
abbrev cJ9_floorMod_7cf53 : ByteArray := prog_16_method_50_code
def yJ9_floorMod_7cf53 : MethodName := ⟨RJ9, "floorMod", "(II)I"⟩
abbrev cJ9_abs_0f7a4 : ByteArray := prog_16_method_59_code
def yJ9_abs_0f7a4 : MethodName := ⟨RJ9, "abs", "(I)I"⟩
abbrev cJ9_max_7cf53 : ByteArray := prog_16_method_65_code
def yJ9_max_7cf53 : MethodName := ⟨RJ9, "max", "(II)I"⟩
abbrev cJ9_min_7cf53 : ByteArray := prog_16_method_69_code
def yJ9_min_7cf53 : MethodName := ⟨RJ9, "min", "(II)I"⟩
def RJ0 : String := "java/lang/String"
def TJ0 : u_T := fun k => match k with
  | _ => ("", "", "", false)
def tyJ0 : Nat → FieldType := fun k => match k with
  | _ => .int
abbrev wsJ00 : List Cond := u_ws RJ0 TJ0 0
theorem nmJ0 : ∀ a, a < 0 → ∀ b, b < 0 → a ≠ b → (TJ0 a).2.1 ≠ (TJ0 b).2.1 := by decide +kernel
theorem tyJ0_ok : ∀ k, k < 0 → parseFieldDescriptor (TJ0 k).2.2.1 = some (tyJ0 k) := by decide +kernel
abbrev cJ0_length_8abf5 : ByteArray := prog_17_method_54_code
def yJ0_length_8abf5 : MethodName := ⟨RJ0, "length", "()I"⟩
abbrev cJ0_charAt_5068e : ByteArray := prog_17_method_56_code
def yJ0_charAt_5068e : MethodName := ⟨RJ0, "charAt", "(I)C"⟩
abbrev cJ0_coder_7d493 : ByteArray := prog_17_method_152_code
def yJ0_coder_7d493 : MethodName := ⟨RJ0, "coder", "()B"⟩
abbrev cJ0_isLatin1_aae02 : ByteArray := prog_17_method_154_code
def yJ0_isLatin1_aae02 : MethodName := ⟨RJ0, "isLatin1", "()Z"⟩
abbrev cJ0_checkIndex_df160 : ByteArray := prog_17_method_155_code
def yJ0_checkIndex_df160 : MethodName := ⟨RJ0, "checkIndex", "(II)V"⟩
def RJ1 : String := "java/lang/StringLatin1"
def TJ1 : u_T := fun k => match k with
  | _ => ("", "", "", false)
def tyJ1 : Nat → FieldType := fun k => match k with
  | _ => .int
abbrev wsJ10 : List Cond := u_ws RJ1 TJ1 0
theorem nmJ1 : ∀ a, a < 0 → ∀ b, b < 0 → a ≠ b → (TJ1 a).2.1 ≠ (TJ1 b).2.1 := by decide +kernel
theorem tyJ1_ok : ∀ k, k < 0 → parseFieldDescriptor (TJ1 k).2.2.1 = some (tyJ1 k) := by decide +kernel
abbrev cJ1_charAt_3b067 : ByteArray := prog_18_method_2_code
def yJ1_charAt_3b067 : MethodName := ⟨RJ1, "charAt", "([BI)C"⟩
def RJ2 : String := "java/lang/StringUTF16"
def TJ2 : u_T := fun k => match k with
  | _ => ("", "", "", false)
def tyJ2 : Nat → FieldType := fun k => match k with
  | _ => .int
abbrev wsJ20 : List Cond := u_ws RJ2 TJ2 0
theorem nmJ2 : ∀ a, a < 0 → ∀ b, b < 0 → a ≠ b → (TJ2 a).2.1 ≠ (TJ2 b).2.1 := by decide +kernel
theorem tyJ2_ok : ∀ k, k < 0 → parseFieldDescriptor (TJ2 k).2.2.1 = some (tyJ2 k) := by decide +kernel
abbrev cJ2_getChar_3b067 : ByteArray := prog_19_method_5_code
def yJ2_getChar_3b067 : MethodName := ⟨RJ2, "getChar", "([BI)C"⟩
abbrev cJ2_length_9d52b : ByteArray := prog_19_method_6_code
def yJ2_length_9d52b : MethodName := ⟨RJ2, "length", "([B)I"⟩
abbrev cJ2_charAt_3b067 : ByteArray := prog_19_method_83_code
def yJ2_charAt_3b067 : MethodName := ⟨RJ2, "charAt", "([BI)C"⟩
abbrev cJ2_checkIndex_2214a : ByteArray := prog_19_method_91_code
def yJ2_checkIndex_2214a : MethodName := ⟨RJ2, "checkIndex", "(I[B)V"⟩
def RJxfd54e : String := "java/lang/constant/Constable"
def TJxfd54e : u_T := fun k => match k with
  | _ => ("", "", "", false)
def tyJxfd54e : Nat → FieldType := fun k => match k with
  | _ => .int
abbrev wsJxfd54e0 : List Cond := u_ws RJxfd54e TJxfd54e 0
theorem nmJxfd54e : ∀ a, a < 0 → ∀ b, b < 0 → a ≠ b → (TJxfd54e a).2.1 ≠ (TJxfd54e b).2.1 := by decide +kernel
theorem tyJxfd54e_ok : ∀ k, k < 0 → parseFieldDescriptor (TJxfd54e k).2.2.1 = some (tyJxfd54e k) := by decide +kernel
def RJx3cf43 : String := "java/lang/constant/ConstantDesc"
def TJx3cf43 : u_T := fun k => match k with
  | _ => ("", "", "", false)
def tyJx3cf43 : Nat → FieldType := fun k => match k with
  | _ => .int
abbrev wsJx3cf430 : List Cond := u_ws RJx3cf43 TJx3cf43 0
theorem nmJx3cf43 : ∀ a, a < 0 → ∀ b, b < 0 → a ≠ b → (TJx3cf43 a).2.1 ≠ (TJx3cf43 b).2.1 := by decide +kernel
theorem tyJx3cf43_ok : ∀ k, k < 0 → parseFieldDescriptor (TJx3cf43 k).2.2.1 = some (tyJx3cf43 k) := by decide +kernel
def RJ7 : String := "java/util/Arrays"
def TJ7 : u_T := fun k => match k with
  | _ => ("", "", "", false)
def tyJ7 : Nat → FieldType := fun k => match k with
  | _ => .int
abbrev wsJ70 : List Cond := u_ws RJ7 TJ7 0
theorem nmJ7 : ∀ a, a < 0 → ∀ b, b < 0 → a ≠ b → (TJ7 a).2.1 ≠ (TJ7 b).2.1 := by decide +kernel
theorem tyJ7_ok : ∀ k, k < 0 → parseFieldDescriptor (TJ7 k).2.2.1 = some (tyJ7 k) := by decide +kernel
abbrev cJ7_fill_53178 : ByteArray := prog_20_method_103_code
def yJ7_fill_53178 : MethodName := ⟨RJ7, "fill", "([II)V"⟩
def RJ3 : String := "jdk/internal/util/Preconditions"
def TJ3 : u_T := fun k => match k with
  | _ => ("", "", "", false)
def tyJ3 : Nat → FieldType := fun k => match k with
  | _ => .int
abbrev wsJ30 : List Cond := u_ws RJ3 TJ3 0
theorem nmJ3 : ∀ a, a < 0 → ∀ b, b < 0 → a ≠ b → (TJ3 a).2.1 ≠ (TJ3 b).2.1 := by decide +kernel
theorem tyJ3_ok : ∀ k, k < 0 → parseFieldDescriptor (TJ3 k).2.2.1 = some (tyJ3 k) := by decide +kernel
abbrev cJ3_checkIndex_8e157 : ByteArray := prog_21_method_11_code
def yJ3_checkIndex_8e157 : MethodName := ⟨RJ3, "checkIndex", "(IILjava/util/function/BiFunction;)I"⟩
def RL : String := "OneLineLaw"
abbrev cL_law : ByteArray := code
def yL_law : MethodName := ⟨RL, "law", "([I)Z"⟩
abbrev vwCl : List vw_C := [(RX0, TX0, 9), (RX1, TX1, 9), (RX2, TX2, 4), (RX3, TX3, 9), (RX4, TX4, 8), (RX5, TX5, 10), (RX6, TX6, 4), (RX7, TX7, 6), (RX8, TX8, 2), (RX9, TX9, 5), (RX10, TX10, 13), (RX11, TX11, 18), (RX12, TX12, 82)]
