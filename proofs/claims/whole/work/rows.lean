section
-- ===== PART A: goes FIRST, ahead of the names: the tables' words, and 'selects' of the private methods out of them =====
/-- a private method of a class that the tables say can be made, by its rows of tables_1 -/
def lw_okq (q : MethodName × Nat) : Prop := (q.1.cls ≠ "java/lang/invoke/MethodHandle" ∧ q.1.cls ≠ "java/lang/invoke/VarHandle") ∧ Cond.instantiable q.1.cls q.2 ∈ tables_1 ∧ Cond.privateMethod q.1 ∈ tables_1 ∧ Cond.instanceMethod q.1 ∈ tables_1
theorem lw_p0 : lw_okq (⟨"ElasticNets", "mustNotBeBuilt", "()V"⟩, 5) := ⟨⟨by decide +kernel, by decide +kernel⟩, List.mem_of_getElem? (i := 17) (by decide +kernel), List.mem_of_getElem? (i := 273) (by decide +kernel), List.mem_of_getElem? (i := 274) (by decide +kernel)⟩
theorem lw_p1 : lw_okq (⟨"java/lang/Throwable", "fillInStackTrace", "(I)Ljava/lang/Throwable;"⟩, 6) := ⟨⟨by decide +kernel, by decide +kernel⟩, List.mem_of_getElem? (i := 315) (by decide +kernel), List.mem_of_getElem? (i := 313) (by decide +kernel), List.mem_of_getElem? (i := 314) (by decide +kernel)⟩
theorem lw_p2 : lw_okq (⟨"ElasticNets$Design", "linkOut", "(II)V"⟩, 15) := ⟨⟨by decide +kernel, by decide +kernel⟩, List.mem_of_getElem? (i := 25) (by decide +kernel), List.mem_of_getElem? (i := 380) (by decide +kernel), List.mem_of_getElem? (i := 381) (by decide +kernel)⟩
theorem lw_p3 : lw_okq (⟨"ElasticNets$Design", "linkIn", "(II)V"⟩, 15) := ⟨⟨by decide +kernel, by decide +kernel⟩, List.mem_of_getElem? (i := 25) (by decide +kernel), List.mem_of_getElem? (i := 384) (by decide +kernel), List.mem_of_getElem? (i := 385) (by decide +kernel)⟩
theorem lw_p4 : lw_okq (⟨"ElasticNets", "standAtStart", "()V"⟩, 5) := ⟨⟨by decide +kernel, by decide +kernel⟩, List.mem_of_getElem? (i := 17) (by decide +kernel), List.mem_of_getElem? (i := 428) (by decide +kernel), List.mem_of_getElem? (i := 429) (by decide +kernel)⟩
theorem lw_p5 : lw_okq (⟨"ElasticNets$Patient", "put", "(II)V"⟩, 15) := ⟨⟨by decide +kernel, by decide +kernel⟩, List.mem_of_getElem? (i := 105) (by decide +kernel), List.mem_of_getElem? (i := 439) (by decide +kernel), List.mem_of_getElem? (i := 440) (by decide +kernel)⟩
theorem lw_p6 : lw_okq (⟨"ElasticNets", "mustBeBuilt", "()V"⟩, 5) := ⟨⟨by decide +kernel, by decide +kernel⟩, List.mem_of_getElem? (i := 17) (by decide +kernel), List.mem_of_getElem? (i := 458) (by decide +kernel), List.mem_of_getElem? (i := 459) (by decide +kernel)⟩
theorem lw_p7 : lw_okq (⟨"ElasticNets$Patient", "waitsAt", "(I)Z"⟩, 15) := ⟨⟨by decide +kernel, by decide +kernel⟩, List.mem_of_getElem? (i := 105) (by decide +kernel), List.mem_of_getElem? (i := 474) (by decide +kernel), List.mem_of_getElem? (i := 475) (by decide +kernel)⟩
theorem lw_p8 : lw_okq (⟨"ElasticNets$Patient", "look", "()V"⟩, 15) := ⟨⟨by decide +kernel, by decide +kernel⟩, List.mem_of_getElem? (i := 105) (by decide +kernel), List.mem_of_getElem? (i := 489) (by decide +kernel), List.mem_of_getElem? (i := 490) (by decide +kernel)⟩
theorem lw_p9 : lw_okq (⟨"ElasticNets$Patient", "isReady", "(I)Z"⟩, 15) := ⟨⟨by decide +kernel, by decide +kernel⟩, List.mem_of_getElem? (i := 105) (by decide +kernel), List.mem_of_getElem? (i := 500) (by decide +kernel), List.mem_of_getElem? (i := 501) (by decide +kernel)⟩
theorem lw_p10 : lw_okq (⟨"ElasticNets$Patient", "isThere", "(I)Z"⟩, 15) := ⟨⟨by decide +kernel, by decide +kernel⟩, List.mem_of_getElem? (i := 105) (by decide +kernel), List.mem_of_getElem? (i := 504) (by decide +kernel), List.mem_of_getElem? (i := 505) (by decide +kernel)⟩
theorem lw_p11 : lw_okq (⟨"ElasticNets$Patient", "whichGet", "(II)I"⟩, 15) := ⟨⟨by decide +kernel, by decide +kernel⟩, List.mem_of_getElem? (i := 105) (by decide +kernel), List.mem_of_getElem? (i := 508) (by decide +kernel), List.mem_of_getElem? (i := 509) (by decide +kernel)⟩
theorem lw_p12 : lw_okq (⟨"ElasticNets$Patient", "canGet", "(II)Z"⟩, 15) := ⟨⟨by decide +kernel, by decide +kernel⟩, List.mem_of_getElem? (i := 105) (by decide +kernel), List.mem_of_getElem? (i := 512) (by decide +kernel), List.mem_of_getElem? (i := 513) (by decide +kernel)⟩
theorem lw_p13 : lw_okq (⟨"ElasticNets$Patient", "moveOn", "(I)V"⟩, 15) := ⟨⟨by decide +kernel, by decide +kernel⟩, List.mem_of_getElem? (i := 105) (by decide +kernel), List.mem_of_getElem? (i := 516) (by decide +kernel), List.mem_of_getElem? (i := 517) (by decide +kernel)⟩
theorem lw_p14 : lw_okq (⟨"ElasticNets$Patient", "drop", "(I)V"⟩, 15) := ⟨⟨by decide +kernel, by decide +kernel⟩, List.mem_of_getElem? (i := 105) (by decide +kernel), List.mem_of_getElem? (i := 520) (by decide +kernel), List.mem_of_getElem? (i := 521) (by decide +kernel)⟩
theorem lw_p15 : lw_okq (⟨"ElasticNets$Patient", "act", "(I)I"⟩, 15) := ⟨⟨by decide +kernel, by decide +kernel⟩, List.mem_of_getElem? (i := 105) (by decide +kernel), List.mem_of_getElem? (i := 524) (by decide +kernel), List.mem_of_getElem? (i := 525) (by decide +kernel)⟩
def lw_privs_1 : List (MethodName × Nat) := [(⟨"ElasticNets", "mustNotBeBuilt", "()V"⟩, 5), (⟨"java/lang/Throwable", "fillInStackTrace", "(I)Ljava/lang/Throwable;"⟩, 6), (⟨"ElasticNets$Design", "linkOut", "(II)V"⟩, 15), (⟨"ElasticNets$Design", "linkIn", "(II)V"⟩, 15), (⟨"ElasticNets", "standAtStart", "()V"⟩, 5), (⟨"ElasticNets$Patient", "put", "(II)V"⟩, 15), (⟨"ElasticNets", "mustBeBuilt", "()V"⟩, 5), (⟨"ElasticNets$Patient", "waitsAt", "(I)Z"⟩, 15), (⟨"ElasticNets$Patient", "look", "()V"⟩, 15), (⟨"ElasticNets$Patient", "isReady", "(I)Z"⟩, 15), (⟨"ElasticNets$Patient", "isThere", "(I)Z"⟩, 15), (⟨"ElasticNets$Patient", "whichGet", "(II)I"⟩, 15), (⟨"ElasticNets$Patient", "canGet", "(II)Z"⟩, 15), (⟨"ElasticNets$Patient", "moveOn", "(I)V"⟩, 15), (⟨"ElasticNets$Patient", "drop", "(I)V"⟩, 15), (⟨"ElasticNets$Patient", "act", "(I)I"⟩, 15)]
theorem lw_r1 : ∀ q ∈ lw_privs_1, lw_okq q := List.forall_mem_cons.mpr ⟨lw_p0, List.forall_mem_cons.mpr ⟨lw_p1, List.forall_mem_cons.mpr ⟨lw_p2, List.forall_mem_cons.mpr ⟨lw_p3, List.forall_mem_cons.mpr ⟨lw_p4, List.forall_mem_cons.mpr ⟨lw_p5, List.forall_mem_cons.mpr ⟨lw_p6, List.forall_mem_cons.mpr ⟨lw_p7, List.forall_mem_cons.mpr ⟨lw_p8, List.forall_mem_cons.mpr ⟨lw_p9, List.forall_mem_cons.mpr ⟨lw_p10, List.forall_mem_cons.mpr ⟨lw_p11, List.forall_mem_cons.mpr ⟨lw_p12, List.forall_mem_cons.mpr ⟨lw_p13, List.forall_mem_cons.mpr ⟨lw_p14, List.forall_mem_cons.mpr ⟨lw_p15, fun _ h => absurd h List.not_mem_nil⟩⟩⟩⟩⟩⟩⟩⟩⟩⟩⟩⟩⟩⟩⟩⟩
theorem lw_p16 : lw_okq (⟨"ElasticNets$Patient", "give", "(II)I"⟩, 15) := ⟨⟨by decide +kernel, by decide +kernel⟩, List.mem_of_getElem? (i := 105) (by decide +kernel), List.mem_of_getElem? (i := 538) (by decide +kernel), List.mem_of_getElem? (i := 539) (by decide +kernel)⟩
theorem lw_p17 : lw_okq (⟨"ElasticNets$Patient", "endTurn", "(I)I"⟩, 15) := ⟨⟨by decide +kernel, by decide +kernel⟩, List.mem_of_getElem? (i := 105) (by decide +kernel), List.mem_of_getElem? (i := 543) (by decide +kernel), List.mem_of_getElem? (i := 544) (by decide +kernel)⟩
theorem lw_p18 : lw_okq (⟨"ElasticNets$Patient", "take", "(I)I"⟩, 15) := ⟨⟨by decide +kernel, by decide +kernel⟩, List.mem_of_getElem? (i := 105) (by decide +kernel), List.mem_of_getElem? (i := 547) (by decide +kernel), List.mem_of_getElem? (i := 548) (by decide +kernel)⟩
theorem lw_p19 : lw_okq (⟨"ElasticNets$Clocked", "goThrough", "(I)V"⟩, 6) := ⟨⟨by decide +kernel, by decide +kernel⟩, List.mem_of_getElem? (i := 169) (by decide +kernel), List.mem_of_getElem? (i := 644) (by decide +kernel), List.mem_of_getElem? (i := 645) (by decide +kernel)⟩
theorem lw_p20 : lw_okq (⟨"ElasticNets$Pace", "drawGraph", "()V"⟩, 12) := ⟨⟨by decide +kernel, by decide +kernel⟩, List.mem_of_getElem? (i := 195) (by decide +kernel), List.mem_of_getElem? (i := 661) (by decide +kernel), List.mem_of_getElem? (i := 662) (by decide +kernel)⟩
theorem lw_p21 : lw_okq (⟨"ElasticNets$Pace", "addArc", "(IIII)V"⟩, 12) := ⟨⟨by decide +kernel, by decide +kernel⟩, List.mem_of_getElem? (i := 195) (by decide +kernel), List.mem_of_getElem? (i := 666) (by decide +kernel), List.mem_of_getElem? (i := 667) (by decide +kernel)⟩
theorem lw_p22 : lw_okq (⟨"ElasticNets$Pace", "drawChannel", "(I)V"⟩, 12) := ⟨⟨by decide +kernel, by decide +kernel⟩, List.mem_of_getElem? (i := 195) (by decide +kernel), List.mem_of_getElem? (i := 670) (by decide +kernel), List.mem_of_getElem? (i := 671) (by decide +kernel)⟩
theorem lw_p23 : lw_okq (⟨"ElasticNets$Pace", "onLowerCycle", "()I"⟩, 12) := ⟨⟨by decide +kernel, by decide +kernel⟩, List.mem_of_getElem? (i := 195) (by decide +kernel), List.mem_of_getElem? (i := 675) (by decide +kernel), List.mem_of_getElem? (i := 676) (by decide +kernel)⟩
theorem lw_p24 : lw_okq (⟨"ElasticNets$Pace", "shrinkAll", "()I"⟩, 12) := ⟨⟨by decide +kernel, by decide +kernel⟩, List.mem_of_getElem? (i := 195) (by decide +kernel), List.mem_of_getElem? (i := 680) (by decide +kernel), List.mem_of_getElem? (i := 681) (by decide +kernel)⟩
theorem lw_p25 : lw_okq (⟨"ElasticNets$Pace", "nodeBefore", "(I)I"⟩, 12) := ⟨⟨by decide +kernel, by decide +kernel⟩, List.mem_of_getElem? (i := 195) (by decide +kernel), List.mem_of_getElem? (i := 684) (by decide +kernel), List.mem_of_getElem? (i := 685) (by decide +kernel)⟩
theorem lw_p26 : lw_okq (⟨"ElasticNets$Pace", "takeRatio", "(I)V"⟩, 12) := ⟨⟨by decide +kernel, by decide +kernel⟩, List.mem_of_getElem? (i := 195) (by decide +kernel), List.mem_of_getElem? (i := 688) (by decide +kernel), List.mem_of_getElem? (i := 689) (by decide +kernel)⟩
theorem lw_p27 : lw_okq (⟨"ElasticNetsModel", "noBlock", "(I)Z"⟩, 45) := ⟨⟨by decide +kernel, by decide +kernel⟩, List.mem_of_getElem? (i := 696) (by decide +kernel), List.mem_of_getElem? (i := 851) (by decide +kernel), List.mem_of_getElem? (i := 852) (by decide +kernel)⟩
theorem lw_p28 : lw_okq (⟨"ElasticNetsModel", "begin", "()V"⟩, 45) := ⟨⟨by decide +kernel, by decide +kernel⟩, List.mem_of_getElem? (i := 696) (by decide +kernel), List.mem_of_getElem? (i := 871) (by decide +kernel), List.mem_of_getElem? (i := 872) (by decide +kernel)⟩
theorem lw_p29 : lw_okq (⟨"ElasticNetsModel", "reckon", "()V"⟩, 45) := ⟨⟨by decide +kernel, by decide +kernel⟩, List.mem_of_getElem? (i := 696) (by decide +kernel), List.mem_of_getElem? (i := 875) (by decide +kernel), List.mem_of_getElem? (i := 876) (by decide +kernel)⟩
theorem lw_p30 : lw_okq (⟨"ElasticNetsModel", "draw", "()V"⟩, 45) := ⟨⟨by decide +kernel, by decide +kernel⟩, List.mem_of_getElem? (i := 696) (by decide +kernel), List.mem_of_getElem? (i := 879) (by decide +kernel), List.mem_of_getElem? (i := 880) (by decide +kernel)⟩
theorem lw_p31 : lw_okq (⟨"ElasticNetsModel", "arc", "(IIII)V"⟩, 45) := ⟨⟨by decide +kernel, by decide +kernel⟩, List.mem_of_getElem? (i := 696) (by decide +kernel), List.mem_of_getElem? (i := 883) (by decide +kernel), List.mem_of_getElem? (i := 884) (by decide +kernel)⟩
def lw_privs_2 : List (MethodName × Nat) := [(⟨"ElasticNets$Patient", "give", "(II)I"⟩, 15), (⟨"ElasticNets$Patient", "endTurn", "(I)I"⟩, 15), (⟨"ElasticNets$Patient", "take", "(I)I"⟩, 15), (⟨"ElasticNets$Clocked", "goThrough", "(I)V"⟩, 6), (⟨"ElasticNets$Pace", "drawGraph", "()V"⟩, 12), (⟨"ElasticNets$Pace", "addArc", "(IIII)V"⟩, 12), (⟨"ElasticNets$Pace", "drawChannel", "(I)V"⟩, 12), (⟨"ElasticNets$Pace", "onLowerCycle", "()I"⟩, 12), (⟨"ElasticNets$Pace", "shrinkAll", "()I"⟩, 12), (⟨"ElasticNets$Pace", "nodeBefore", "(I)I"⟩, 12), (⟨"ElasticNets$Pace", "takeRatio", "(I)V"⟩, 12), (⟨"ElasticNetsModel", "noBlock", "(I)Z"⟩, 45), (⟨"ElasticNetsModel", "begin", "()V"⟩, 45), (⟨"ElasticNetsModel", "reckon", "()V"⟩, 45), (⟨"ElasticNetsModel", "draw", "()V"⟩, 45), (⟨"ElasticNetsModel", "arc", "(IIII)V"⟩, 45)]
theorem lw_r2 : ∀ q ∈ lw_privs_2, lw_okq q := List.forall_mem_cons.mpr ⟨lw_p16, List.forall_mem_cons.mpr ⟨lw_p17, List.forall_mem_cons.mpr ⟨lw_p18, List.forall_mem_cons.mpr ⟨lw_p19, List.forall_mem_cons.mpr ⟨lw_p20, List.forall_mem_cons.mpr ⟨lw_p21, List.forall_mem_cons.mpr ⟨lw_p22, List.forall_mem_cons.mpr ⟨lw_p23, List.forall_mem_cons.mpr ⟨lw_p24, List.forall_mem_cons.mpr ⟨lw_p25, List.forall_mem_cons.mpr ⟨lw_p26, List.forall_mem_cons.mpr ⟨lw_p27, List.forall_mem_cons.mpr ⟨lw_p28, List.forall_mem_cons.mpr ⟨lw_p29, List.forall_mem_cons.mpr ⟨lw_p30, List.forall_mem_cons.mpr ⟨lw_p31, fun _ h => absurd h List.not_mem_nil⟩⟩⟩⟩⟩⟩⟩⟩⟩⟩⟩⟩⟩⟩⟩⟩
theorem lw_p32 : lw_okq (⟨"ElasticNetsModel", "goFree", "()V"⟩, 45) := ⟨⟨by decide +kernel, by decide +kernel⟩, List.mem_of_getElem? (i := 696) (by decide +kernel), List.mem_of_getElem? (i := 888) (by decide +kernel), List.mem_of_getElem? (i := 889) (by decide +kernel)⟩
theorem lw_p33 : lw_okq (⟨"ElasticNetsModel", "goOn", "()V"⟩, 45) := ⟨⟨by decide +kernel, by decide +kernel⟩, List.mem_of_getElem? (i := 696) (by decide +kernel), List.mem_of_getElem? (i := 892) (by decide +kernel), List.mem_of_getElem? (i := 893) (by decide +kernel)⟩
theorem lw_p34 : lw_okq (⟨"ElasticNetsModel", "one", "(I)I"⟩, 45) := ⟨⟨by decide +kernel, by decide +kernel⟩, List.mem_of_getElem? (i := 696) (by decide +kernel), List.mem_of_getElem? (i := 915) (by decide +kernel), List.mem_of_getElem? (i := 916) (by decide +kernel)⟩
theorem lw_p35 : lw_okq (⟨"ElasticNetsModel", "settle", "(I)V"⟩, 45) := ⟨⟨by decide +kernel, by decide +kernel⟩, List.mem_of_getElem? (i := 696) (by decide +kernel), List.mem_of_getElem? (i := 919) (by decide +kernel), List.mem_of_getElem? (i := 920) (by decide +kernel)⟩
theorem lw_p36 : lw_okq (⟨"ElasticNetsModel", "work", "(II)Z"⟩, 45) := ⟨⟨by decide +kernel, by decide +kernel⟩, List.mem_of_getElem? (i := 696) (by decide +kernel), List.mem_of_getElem? (i := 923) (by decide +kernel), List.mem_of_getElem? (i := 924) (by decide +kernel)⟩
theorem lw_p37 : lw_okq (⟨"ElasticNetsModel", "ready", "(I)I"⟩, 45) := ⟨⟨by decide +kernel, by decide +kernel⟩, List.mem_of_getElem? (i := 696) (by decide +kernel), List.mem_of_getElem? (i := 927) (by decide +kernel), List.mem_of_getElem? (i := 928) (by decide +kernel)⟩
theorem lw_p38 : lw_okq (⟨"ElasticNetsModel", "came", "(II)I"⟩, 45) := ⟨⟨by decide +kernel, by decide +kernel⟩, List.mem_of_getElem? (i := 696) (by decide +kernel), List.mem_of_getElem? (i := 931) (by decide +kernel), List.mem_of_getElem? (i := 932) (by decide +kernel)⟩
theorem lw_p39 : lw_okq (⟨"ElasticNetsModel", "cameAt", "(III)I"⟩, 45) := ⟨⟨by decide +kernel, by decide +kernel⟩, List.mem_of_getElem? (i := 696) (by decide +kernel), List.mem_of_getElem? (i := 935) (by decide +kernel), List.mem_of_getElem? (i := 936) (by decide +kernel)⟩
theorem lw_p40 : lw_okq (⟨"ElasticNetsModel", "later", "(II)I"⟩, 45) := ⟨⟨by decide +kernel, by decide +kernel⟩, List.mem_of_getElem? (i := 696) (by decide +kernel), List.mem_of_getElem? (i := 939) (by decide +kernel), List.mem_of_getElem? (i := 940) (by decide +kernel)⟩
theorem lw_p41 : lw_okq (⟨"ElasticNetsModel", "give", "(III)Z"⟩, 45) := ⟨⟨by decide +kernel, by decide +kernel⟩, List.mem_of_getElem? (i := 696) (by decide +kernel), List.mem_of_getElem? (i := 943) (by decide +kernel), List.mem_of_getElem? (i := 944) (by decide +kernel)⟩
theorem lw_p42 : lw_okq (⟨"ElasticNetsModel", "gone", "(II)I"⟩, 45) := ⟨⟨by decide +kernel, by decide +kernel⟩, List.mem_of_getElem? (i := 696) (by decide +kernel), List.mem_of_getElem? (i := 947) (by decide +kernel), List.mem_of_getElem? (i := 948) (by decide +kernel)⟩
theorem lw_p43 : lw_okq (⟨"ElasticNetsModel", "goneAt", "(III)I"⟩, 45) := ⟨⟨by decide +kernel, by decide +kernel⟩, List.mem_of_getElem? (i := 696) (by decide +kernel), List.mem_of_getElem? (i := 951) (by decide +kernel), List.mem_of_getElem? (i := 952) (by decide +kernel)⟩
theorem lw_p44 : lw_okq (⟨"ElasticNetsModel", "result", "(II)I"⟩, 45) := ⟨⟨by decide +kernel, by decide +kernel⟩, List.mem_of_getElem? (i := 696) (by decide +kernel), List.mem_of_getElem? (i := 955) (by decide +kernel), List.mem_of_getElem? (i := 956) (by decide +kernel)⟩
theorem lw_p45 : lw_okq (⟨"ElasticNetsModel", "giveOut", "(III)Z"⟩, 45) := ⟨⟨by decide +kernel, by decide +kernel⟩, List.mem_of_getElem? (i := 696) (by decide +kernel), List.mem_of_getElem? (i := 962) (by decide +kernel), List.mem_of_getElem? (i := 963) (by decide +kernel)⟩
theorem lw_p46 : lw_okq (⟨"ElasticNetsModel", "move", "(III)Z"⟩, 45) := ⟨⟨by decide +kernel, by decide +kernel⟩, List.mem_of_getElem? (i := 696) (by decide +kernel), List.mem_of_getElem? (i := 966) (by decide +kernel), List.mem_of_getElem? (i := 967) (by decide +kernel)⟩
theorem lw_p47 : lw_okq (⟨"ElasticNetsModel", "makeByClock", "(II)I"⟩, 45) := ⟨⟨by decide +kernel, by decide +kernel⟩, List.mem_of_getElem? (i := 696) (by decide +kernel), List.mem_of_getElem? (i := 1007) (by decide +kernel), List.mem_of_getElem? (i := 1008) (by decide +kernel)⟩
def lw_privs_3 : List (MethodName × Nat) := [(⟨"ElasticNetsModel", "goFree", "()V"⟩, 45), (⟨"ElasticNetsModel", "goOn", "()V"⟩, 45), (⟨"ElasticNetsModel", "one", "(I)I"⟩, 45), (⟨"ElasticNetsModel", "settle", "(I)V"⟩, 45), (⟨"ElasticNetsModel", "work", "(II)Z"⟩, 45), (⟨"ElasticNetsModel", "ready", "(I)I"⟩, 45), (⟨"ElasticNetsModel", "came", "(II)I"⟩, 45), (⟨"ElasticNetsModel", "cameAt", "(III)I"⟩, 45), (⟨"ElasticNetsModel", "later", "(II)I"⟩, 45), (⟨"ElasticNetsModel", "give", "(III)Z"⟩, 45), (⟨"ElasticNetsModel", "gone", "(II)I"⟩, 45), (⟨"ElasticNetsModel", "goneAt", "(III)I"⟩, 45), (⟨"ElasticNetsModel", "result", "(II)I"⟩, 45), (⟨"ElasticNetsModel", "giveOut", "(III)Z"⟩, 45), (⟨"ElasticNetsModel", "move", "(III)Z"⟩, 45), (⟨"ElasticNetsModel", "makeByClock", "(II)I"⟩, 45)]
theorem lw_r3 : ∀ q ∈ lw_privs_3, lw_okq q := List.forall_mem_cons.mpr ⟨lw_p32, List.forall_mem_cons.mpr ⟨lw_p33, List.forall_mem_cons.mpr ⟨lw_p34, List.forall_mem_cons.mpr ⟨lw_p35, List.forall_mem_cons.mpr ⟨lw_p36, List.forall_mem_cons.mpr ⟨lw_p37, List.forall_mem_cons.mpr ⟨lw_p38, List.forall_mem_cons.mpr ⟨lw_p39, List.forall_mem_cons.mpr ⟨lw_p40, List.forall_mem_cons.mpr ⟨lw_p41, List.forall_mem_cons.mpr ⟨lw_p42, List.forall_mem_cons.mpr ⟨lw_p43, List.forall_mem_cons.mpr ⟨lw_p44, List.forall_mem_cons.mpr ⟨lw_p45, List.forall_mem_cons.mpr ⟨lw_p46, List.forall_mem_cons.mpr ⟨lw_p47, fun _ h => absurd h List.not_mem_nil⟩⟩⟩⟩⟩⟩⟩⟩⟩⟩⟩⟩⟩⟩⟩⟩
def lw_privs : List (MethodName × Nat) := lw_privs_1 ++ (lw_privs_2 ++ (lw_privs_3))
def lw_tbl : List Cond := k2_sels lw_privs ++ tables_1
theorem lw_privs_ok : ∀ q ∈ lw_privs, lw_okq q := by
  show ∀ q ∈ lw_privs_1 ++ (lw_privs_2 ++ (lw_privs_3)), lw_okq q
  exact List.forall_mem_append.mpr ⟨lw_r1, List.forall_mem_append.mpr ⟨lw_r2, lw_r3⟩⟩
-- ===== end of PART A; then your names; then what follows =====
end
section
def va_AOA (t : FieldType) (U : State) : Prop := (Cond.arrayOver (.array t)).before #[] U = true
theorem va_AOA.use {t : FieldType} {A : Array Value} {U : State} (h : va_AOA t U) : (Cond.arrayOver (.array t)).before A U = true := h
/-! ===== BEGIN new T[n][m]: the outer array a place, the inner ones among the pooled ===== -/
/-- f, but v at every address of l -/
def vr_up {α : Type} (f : Nat → α) (l : List Nat) (v : α) : Nat → α := fun a => if a ∈ l then v else f a
theorem vr_up_in {α : Type} {f : Nat → α} {l : List Nat} {v : α} {a : Nat} (h : a ∈ l) : vr_up f l v a = v := if_pos h
theorem vr_up_ne {α : Type} {f : Nat → α} {l : List Nat} {v : α} {a : Nat} (h : a ∉ l) : vr_up f l v a = f a := if_neg h
theorem vr_rows {L l : List Nat} {f : Nat → va_E} {e : va_E} (h : ∀ a, a ∈ l → a ∉ L) : va_pl L f ++ l.map (fun a => (a, e)) = va_pl (L ++ l) (vr_up f l e) := by
  unfold va_pl
  rw [List.map_append]
  congr 1
  · apply List.map_congr_left
    intro a ha
    rw [vr_up_ne (fun q => h a q ha)]
  · apply List.map_congr_left
    intro a ha
    rw [vr_up_in ha]
theorem vr_lay {X rows : va_W} {x : Nat × va_E} {pl : va_W} {D : va_G} {cl : List vw_C} {H : Heap} (hP : va_P D cl (((X ++ pl) ++ [x]) ++ rows) H) : va_P D cl ((X ++ [x]) ++ (pl ++ rows)) H := by
  rw [List.append_assoc (X ++ pl)] at hP
  have h := va_P.swap hP
  rw [← List.append_assoc X] at h
  have h2 := va_P.swap h
  rw [List.append_assoc (X ++ [x])] at h2
  exact h2
theorem vr_layD {X rows : va_W} {x : Nat × va_E} {pl : va_W} {A : Nat → Prop} (hD : va_D A (((X ++ pl) ++ [x]) ++ rows)) : va_D A ((X ++ [x]) ++ (pl ++ rows)) := by
  rw [List.append_assoc (X ++ pl)] at hD
  have h := va_D.swap hD
  rw [← List.append_assoc X] at h
  have h2 := va_D.swap h
  rw [List.append_assoc (X ++ [x])] at h2
  exact h2
theorem vr_outer (c : ClassId) (N h0 : Nat) : ∀ i : Nat, Jvm.Free.Multi.outerC c N h0 i = arrV c N (fun j => va_rf (if j < i then some (h0 + 1 + j) else none))
  | 0 => by
    show ({ cls := c, slots := Array.replicate N .null, vm := .none } : Cell) = _
    rw [arrV_new]
    refine congrArg (arrV c N) (funext fun j => ?_)
    simp [va_rf]
  | i + 1 => by
    show (Jvm.Free.Multi.outerC c N h0 i).setSlot i (.ref (h0 + 1 + i)) = _
    rw [vr_outer c N h0 i, arrV_store]
    refine congrArg (arrV c N) (funext fun j => ?_)
    by_cases e : j = i
    · subst e
      simp [updV, va_rf]
    · by_cases h : j < i
      · simp [updV, e, h, Nat.lt_succ_of_lt h]
      · simp [updV, e, h, show ¬ j < i + 1 by omega]
section VGM
variable {p : Program} {l : Launch} {e : Env} {R : Room} {s : State} {m : MethodId} {args : Array Value} {below : List Frame} {meth : Method} {c : Code} {H : Heap} {locs : List Loc} {cells slots : Nat} {Q : State → Prop}
variable {cc : ByteArray} {pc : Nat} {ls : Array Slot} {rest : List Value} {D : va_G} {cl : List vw_C} {A : Nat → Prop} {a : Nat} {tys : List (ClassId × FieldType)} {ws : va_W} {H0 : Heap}
theorem va_mna {X : va_W} {L : List Nat} {f : Nat → va_E} {cc : ByteArray} (hexec : p.tables.exec = Jvm.exec) (hb : c.code = cc) {own : String} {index : Nat} {ty : FieldType} {cy : ClassId} (hown : s.vm.findClass own = some m.cls) (hclink : (Cond.classLink own index ("[" ++ (FieldType.array ty).toString)).before args s = true) (hover : va_AOA ty s) (harr : (Cond.arrayClass ty).before args s = true) (hcy : s.vm.findClass (FieldType.array ty).toString = some cy)
    (hK : va_K D cl tys s) (hP : va_P D cl (X ++ va_pl L f) H) (hD : va_D A (X ++ va_pl L f)) (hS : va_S A H0 H locs) (hA : ∀ q, H0.size ≤ q → A q) {n k : Int32} {N' K' : Nat} {z : vp_A} (hn : ¬ n < 0) (hk : ¬ k < 0) (hN : n.toNatClampNeg = N') (hM : k.toNatClampNeg = K')
    (hb1 : N' * 4 ≤ 536870912) (hb2 : K' * componentBytes ty ≤ 536870912) (hb3 : K' ≤ 536870912) (hdf : fits ty (defaultValue ty) = true) (hdd : (defaultValue ty).isDefault = true) (hcells : cells + (1 + N') ≤ R.cells) (hslots : slots + (N' + N' * K') ≤ R.slots) (hz : ∀ c : ClassId, Jvm.Free.Multi.innerC c K' (defaultValue ty) = vp_cell c z) (hdg : decode cc pc = .ok (.multianewarray index 2, 4))
    (kk : ∀ (q : Nat) (r : Nat → Nat) (cA : ClassId) (H1 : Heap), (∀ i j : Nat, i < N' → j < N' → r i = r j → i = j) → (∀ i : Nat, i < N' → r i ∉ L) → va_K D cl (tys ++ [(cA, .array ty)]) s →
      va_P D cl ((X ++ [(q, .inl (cA, N', .inr (.inr (.inr (.inr (fun i => if i < N' then some (r i) else none))))))]) ++ va_pl (L ++ (List.range N').map r) (vr_up f ((List.range N').map r) (.inl (cy, z)))) H1 → va_D A ((X ++ [(q, .inl (cA, N', .inr (.inr (.inr (.inr (fun i => if i < N' then some (r i) else none))))))]) ++ va_pl (L ++ (List.range N').map r) (vr_up f ((List.range N').map r) (.inl (cy, z)))) → va_S A H0 H1 locs →
      W p l e R s m args below meth c H1 locs (cells + 1 + N') (slots + N' + N' * K') Q (F0 m (pc + 4) ls (.ref q :: rest))) : W p l e R s m args below meth c H locs cells slots Q (F0 m pc ls (.int k :: .int n :: rest)) := by
  subst hN
  subst hM
  intro T hT Xs
  obtain ⟨vm₁, cA, comp, -, fA, fC, hO, -, X', step⟩ := Xs.multianewarray2F hexec hown hclink (va_AOA.use hover) harr (g := F0 m pc ls (.int k :: .int n :: rest)) rfl (by rw [hb]; exact hdg) rfl hn hk hb1 hb2 hb3 hdf hdd hcells hslots
  have ec : some cy = some comp := hcy.symm.trans fC
  cases ec
  generalize hF : Jvm.Free.Multi.fill (T.setVm vm₁) cA cy n.toNatClampNeg k.toNatClampNeg (defaultValue ty) n.toNatClampNeg = F at X' step
  have hTh : (T.setVm vm₁).heap = H := hT
  obtain ⟨f1, f2, -, -⟩ := Jvm.Free.Multi.fill_facts (T.setVm vm₁) cA cy n.toNatClampNeg k.toNatClampNeg (defaultValue ty) n.toNatClampNeg
  rw [hF, hTh] at f1 f2
  have hold : ∀ x : Nat, x < H.size → F.heap[x]? = H[x]? := fun x hx => by
    have := Jvm.Free.Multi.fill_old (T.setVm vm₁) cA cy n.toNatClampNeg k.toNatClampNeg (defaultValue ty) (a := x) (by rw [hTh]; exact hx) n.toNatClampNeg
    rw [hF, hTh] at this
    exact this
  have hrow : ∀ j : Nat, j < n.toNatClampNeg → F.heap[H.size + 1 + j]? = some (vp_cell cy z) := fun j hj => by
    have := Jvm.Free.Multi.fill_inner (T.setVm vm₁) cA cy n.toNatClampNeg k.toNatClampNeg (defaultValue ty) n.toNatClampNeg j hj
    rw [hF, hTh, hz] at this
    exact this
  have hout : Jvm.Free.Multi.outerC cA n.toNatClampNeg H.size n.toNatClampNeg = vp_cell cA (n.toNatClampNeg, .inr (.inr (.inr (.inr (fun i => if i < n.toNatClampNeg then some (H.size + 1 + i) else none))))) := by
    rw [vp_cell_q]
    exact vr_outer cA n.toNatClampNeg H.size n.toNatClampNeg
  rw [hout] at f2
  have hlt : ∀ a, a ∈ L → a < H.size := fun a ha => by
    obtain ⟨k9, hk9⟩ := va_pl_get (X := X) (f := f) ha
    exact (hP k9 _ hk9).lt
  have hnl : ∀ i : Nat, i < n.toNatClampNeg → H.size + 1 + i ∉ L := fun i _ h => by
    have := hlt _ h
    omega
  have hnm : ∀ a, a ∈ (List.range n.toNatClampNeg).map (fun i => H.size + 1 + i) → a ∉ L := fun a ha h => by
    obtain ⟨i, -, rfl⟩ := List.mem_map.mp ha
    have := hlt _ h
    omega
  have hP0 : va_P D cl (X ++ va_pl L f) F.heap := hP.kept (fun k9 x hx => hold x.1 ((hP k9 x hx).lt))
  have hP1 : va_P D cl ((X ++ va_pl L f) ++ [(H.size, .inl (cA, n.toNatClampNeg, .inr (.inr (.inr (.inr (fun i => if i < n.toNatClampNeg then some (H.size + 1 + i) else none))))))]) F.heap := hP0.app (fun k9 x hx => by
    have h0 : k9 < 1 := (List.getElem?_eq_some_iff.mp hx).1
    rw [show k9 = 0 by omega] at hx
    cases hx
    exact f2)
  have hP2 : va_P D cl (((X ++ va_pl L f) ++ [(H.size, .inl (cA, n.toNatClampNeg, .inr (.inr (.inr (.inr (fun i => if i < n.toNatClampNeg then some (H.size + 1 + i) else none))))))]) ++ ((List.range n.toNatClampNeg).map (fun i => H.size + 1 + i)).map (fun a => (a, .inl (cy, z)))) F.heap := hP1.app (fun k9 x hx => by
    obtain ⟨a, ha, rfl⟩ := List.mem_map.mp (List.mem_of_getElem? hx)
    obtain ⟨i, hi, rfl⟩ := List.mem_map.mp ha
    exact hrow i (List.mem_range.mp hi))
  have hD2 : va_D A (((X ++ va_pl L f) ++ [(H.size, .inl (cA, n.toNatClampNeg, .inr (.inr (.inr (.inr (fun i => if i < n.toNatClampNeg then some (H.size + 1 + i) else none))))))]) ++ ((List.range n.toNatClampNeg).map (fun i => H.size + 1 + i)).map (fun a => (a, .inl (cy, z)))) := by
    have hD1 := hD.push (e := .inl (cA, n.toNatClampNeg, .inr (.inr (.inr (.inr (fun i => if i < n.toNatClampNeg then some (H.size + 1 + i) else none)))))) hP rfl (hA _ hS.1)
    generalize hW1 : (X ++ va_pl L f) ++ [(H.size, .inl (cA, n.toNatClampNeg, .inr (.inr (.inr (.inr (fun i => if i < n.toNatClampNeg then some (H.size + 1 + i) else none))))))] = W1 at hD1 hP1 ⊢
    have hle : ∀ (k9 : Nat) (x : Nat × va_E), W1[k9]? = some x → x.1 ≤ H.size := fun k9 x hx => by
      rw [← hW1] at hx
      by_cases hl : k9 < (X ++ va_pl L f).length
      · rw [List.getElem?_append_left hl] at hx
        exact Nat.le_of_lt ((hP k9 x hx).lt)
      · rw [List.getElem?_append_right (by omega)] at hx
        have h0 : k9 - (X ++ va_pl L f).length < 1 := (List.getElem?_eq_some_iff.mp hx).1
        rw [show k9 - (X ++ va_pl L f).length = 0 by omega] at hx
        cases hx
        exact Nat.le_refl _
    have hr : ∀ (k9 : Nat) (x : Nat × va_E), (((List.range n.toNatClampNeg).map (fun i => H.size + 1 + i)).map (fun a => ((a, .inl (cy, z)) : Nat × va_E)))[k9]? = some x → x.1 = H.size + 1 + k9 := fun k9 x hx => by
      rw [List.getElem?_map, List.getElem?_map] at hx
      by_cases h9 : k9 < n.toNatClampNeg
      · rw [List.getElem?_range h9] at hx
        cases hx
        rfl
      · have hn0 : (List.range n.toNatClampNeg)[k9]? = none := List.getElem?_eq_none (by rw [List.length_range]; omega)
        rw [hn0] at hx
        cases hx
    refine ⟨fun i j x y hi hj hxy => ?_, fun k9 x hx => ?_⟩
    · by_cases h1 : i < W1.length <;> by_cases h2 : j < W1.length
      · rw [List.getElem?_append_left h1] at hi
        rw [List.getElem?_append_left h2] at hj
        exact hD1.1 i j x y hi hj hxy
      · rw [List.getElem?_append_left h1] at hi
        rw [List.getElem?_append_right (by omega)] at hj
        have := hle _ _ hi
        have := hr _ _ hj
        omega
      · rw [List.getElem?_append_right (by omega)] at hi
        rw [List.getElem?_append_left h2] at hj
        have := hle _ _ hj
        have := hr _ _ hi
        omega
      · rw [List.getElem?_append_right (by omega)] at hi hj
        have := hr _ _ hi
        have := hr _ _ hj
        omega
    · by_cases h1 : k9 < W1.length
      · rw [List.getElem?_append_left h1] at hx
        exact hD1.2 k9 x hx
      · rw [List.getElem?_append_right (by omega)] at hx
        have := hr _ _ hx
        exact hA _ (by have := hS.1; omega)
  have hAr : ArrOfT s cA (.array ty) := fun N9 z9 => by
    obtain ⟨-, k9, hk9, cm9, hkk9⟩ := (hO 0 0 0).1
    exact ⟨(fun q hq => by cases hq), k9, hk9, cm9, hkk9⟩
  have hK2 : va_K D cl (tys ++ [(cA, .array ty)]) s := ⟨hK.1, fun k9 x hx => by
    by_cases hl : k9 < tys.length
    · rw [List.getElem?_append_left hl] at hx
      exact hK.2 k9 x hx
    · rw [List.getElem?_append_right (by omega)] at hx
      have h0 : k9 - tys.length < 1 := (List.getElem?_eq_some_iff.mp hx).1
      rw [show k9 - tys.length = 0 by omega] at hx
      cases hx
      exact ⟨hAr, fA⟩⟩
  obtain ⟨t, a1, b1⟩ := kk H.size (fun i => H.size + 1 + i) cA F.heap (fun i j _ _ h => by have h9 : H.size + 1 + i = H.size + 1 + j := h; omega) hnl hK2 (by rw [← vr_rows hnm]; exact vr_lay hP2) (by rw [← vr_rows hnm]; exact vr_layD hD2) ⟨by rw [f1]; have := hS.1; omega, fun x h1 h2 => (hold x (Nat.lt_of_lt_of_le h1 hS.1)).trans (hS.2.1 x h1 h2), hS.2.2⟩ F rfl X'
  refine ⟨t, step t ?_, b1⟩
  have e : T.heap.size = H.size := by rw [hT]
  rw [e]
  exact a1
end VGM
/-! ===== END ===== -/
end
section
/-! tables: classes, shapes of the cells in the order of their making, words, methods (printed by wip/gen/mk_tables.py out of the listing) -/
def cR_E : String := "ElasticNets"
def cF_E : u_T := fun k => match k with
  | 0 => ("ElasticNets", "design", "LElasticNets$Design;", true)
  | 1 => ("ElasticNets", "patient", "LElasticNets$Patient;", true)
  | 2 => ("ElasticNets", "clocked", "LElasticNets$Clocked;", true)
  | 3 => ("ElasticNets", "pace", "LElasticNets$Pace;", true)
  | _ => ("ElasticNets", "built", "Z", false)
def cT_E : Nat → FieldType := fun k => match k with
  | 0 => .object "ElasticNets$Design"
  | 1 => .object "ElasticNets$Patient"
  | 2 => .object "ElasticNets$Clocked"
  | 3 => .object "ElasticNets$Pace"
  | _ => .boolean
def cR_D : String := "ElasticNets$Design"
def cF_D : u_T := fun k => match k with
  | 0 => ("ElasticNets$Design", "blocks", "I", false)
  | 1 => ("ElasticNets$Design", "channels", "I", false)
  | 2 => ("ElasticNets$Design", "inputs", "I", false)
  | 3 => ("ElasticNets$Design", "outputs", "I", false)
  | 4 => ("ElasticNets$Design", "operation", "[I", true)
  | 5 => ("ElasticNets$Design", "constant", "[I", true)
  | 6 => ("ElasticNets$Design", "from", "[I", true)
  | 7 => ("ElasticNets$Design", "to", "[I", true)
  | 8 => ("ElasticNets$Design", "first", "[I", true)
  | 9 => ("ElasticNets$Design", "behind", "[I", true)
  | 10 => ("ElasticNets$Design", "outputFrom", "[I", true)
  | 11 => ("ElasticNets$Design", "ins", "[[I", true)
  | 12 => ("ElasticNets$Design", "inCount", "[I", true)
  | 13 => ("ElasticNets$Design", "branches", "[[I", true)
  | _ => ("ElasticNets$Design", "branchCount", "[I", true)
def cT_D : Nat → FieldType := fun k => match k with
  | 0 => .int
  | 1 => .int
  | 2 => .int
  | 3 => .int
  | 4 => .array .int
  | 5 => .array .int
  | 6 => .array .int
  | 7 => .array .int
  | 8 => .array .int
  | 9 => .array .int
  | 10 => .array .int
  | 11 => .array (.array .int)
  | 12 => .array .int
  | 13 => .array (.array .int)
  | _ => .array .int
def cR_P : String := "ElasticNets$Patient"
def cF_P : u_T := fun k => match k with
  | 0 => ("ElasticNets$Patient", "design", "LElasticNets$Design;", true)
  | 1 => ("ElasticNets$Patient", "ticks", "I", false)
  | 2 => ("ElasticNets$Patient", "tokens", "[I", true)
  | 3 => ("ElasticNets$Patient", "count", "[I", true)
  | 4 => ("ElasticNets$Patient", "before", "[I", true)
  | 5 => ("ElasticNets$Patient", "seen", "[I", true)
  | 6 => ("ElasticNets$Patient", "turns", "[I", true)
  | 7 => ("ElasticNets$Patient", "got", "[I", true)
  | 8 => ("ElasticNets$Patient", "gets", "[I", true)
  | 9 => ("ElasticNets$Patient", "waiting", "I", false)
  | 10 => ("ElasticNets$Patient", "waitingValues", "[I", true)
  | 11 => ("ElasticNets$Patient", "takenCount", "[I", true)
  | 12 => ("ElasticNets$Patient", "takenValues", "[[I", true)
  | 13 => ("ElasticNets$Patient", "givenCount", "[I", true)
  | _ => ("ElasticNets$Patient", "givenValues", "[[J", true)
def cT_P : Nat → FieldType := fun k => match k with
  | 0 => .object "ElasticNets$Design"
  | 1 => .int
  | 2 => .array .int
  | 3 => .array .int
  | 4 => .array .int
  | 5 => .array .int
  | 6 => .array .int
  | 7 => .array .int
  | 8 => .array .int
  | 9 => .int
  | 10 => .array .int
  | 11 => .array .int
  | 12 => .array (.array .int)
  | 13 => .array .int
  | _ => .array (.array .long)
def cR_C : String := "ElasticNets$Clocked"
def cF_C : u_T := fun k => match k with
  | 0 => ("ElasticNets$Clocked", "design", "LElasticNets$Design;", true)
  | 1 => ("ElasticNets$Clocked", "takenValues", "[[I", true)
  | 2 => ("ElasticNets$Clocked", "cycles", "I", false)
  | 3 => ("ElasticNets$Clocked", "seen", "[I", true)
  | 4 => ("ElasticNets$Clocked", "made", "[I", true)
  | _ => ("ElasticNets$Clocked", "gave", "[[I", true)
def cT_C : Nat → FieldType := fun k => match k with
  | 0 => .object "ElasticNets$Design"
  | 1 => .array (.array .int)
  | 2 => .int
  | 3 => .array .int
  | 4 => .array .int
  | _ => .array (.array .int)
def cR_A : String := "ElasticNets$Pace"
def cF_A : u_T := fun k => match k with
  | 0 => ("ElasticNets$Pace", "design", "LElasticNets$Design;", true)
  | 1 => ("ElasticNets$Pace", "known", "Z", false)
  | 2 => ("ElasticNets$Pace", "tokens", "I", false)
  | 3 => ("ElasticNets$Pace", "length", "I", false)
  | 4 => ("ElasticNets$Pace", "nodes", "I", false)
  | 5 => ("ElasticNets$Pace", "arcs", "I", false)
  | 6 => ("ElasticNets$Pace", "arcFrom", "[I", true)
  | 7 => ("ElasticNets$Pace", "arcTo", "[I", true)
  | 8 => ("ElasticNets$Pace", "arcTokens", "[I", true)
  | 9 => ("ElasticNets$Pace", "arcLength", "[I", true)
  | 10 => ("ElasticNets$Pace", "distance", "[I", true)
  | _ => ("ElasticNets$Pace", "arcInto", "[I", true)
def cT_A : Nat → FieldType := fun k => match k with
  | 0 => .object "ElasticNets$Design"
  | 1 => .boolean
  | 2 => .int
  | 3 => .int
  | 4 => .int
  | 5 => .int
  | 6 => .array .int
  | 7 => .array .int
  | 8 => .array .int
  | 9 => .array .int
  | 10 => .array .int
  | _ => .array .int
def cR_M : String := "ElasticNetsModel"
def cF_M : u_T := fun k => match k with
  | 0 => ("ElasticNetsModel", "thrown", "I", false)
  | 1 => ("ElasticNetsModel", "built", "Z", false)
  | 2 => ("ElasticNetsModel", "blocks", "I", false)
  | 3 => ("ElasticNetsModel", "operations", "[I", true)
  | 4 => ("ElasticNetsModel", "numbers", "[I", true)
  | 5 => ("ElasticNetsModel", "channels", "I", false)
  | 6 => ("ElasticNetsModel", "froms", "[I", true)
  | 7 => ("ElasticNetsModel", "tos", "[I", true)
  | 8 => ("ElasticNetsModel", "firsts", "[I", true)
  | 9 => ("ElasticNetsModel", "extra", "[I", true)
  | 10 => ("ElasticNetsModel", "channelTurn", "[I", true)
  | 11 => ("ElasticNetsModel", "inputs", "I", false)
  | 12 => ("ElasticNetsModel", "inputTo", "[I", true)
  | 13 => ("ElasticNetsModel", "inputTurn", "[I", true)
  | 14 => ("ElasticNetsModel", "outputs", "I", false)
  | 15 => ("ElasticNetsModel", "outputFrom", "[I", true)
  | 16 => ("ElasticNetsModel", "outputTurn", "[I", true)
  | 17 => ("ElasticNetsModel", "added", "I", false)
  | 18 => ("ElasticNetsModel", "ticks", "I", false)
  | 19 => ("ElasticNetsModel", "stalls", "[I", true)
  | 20 => ("ElasticNetsModel", "tokens", "[I", true)
  | 21 => ("ElasticNetsModel", "leaves", "[I", true)
  | 22 => ("ElasticNetsModel", "left", "[I", true)
  | 23 => ("ElasticNetsModel", "gots", "[I", true)
  | 24 => ("ElasticNetsModel", "gave", "[I", true)
  | 25 => ("ElasticNetsModel", "ends", "[I", true)
  | 26 => ("ElasticNetsModel", "turns", "[I", true)
  | 27 => ("ElasticNetsModel", "offers", "[I", true)
  | 28 => ("ElasticNetsModel", "offeredAt", "[I", true)
  | 29 => ("ElasticNetsModel", "offered", "[I", true)
  | 30 => ("ElasticNetsModel", "outs", "[I", true)
  | 31 => ("ElasticNetsModel", "outAt", "[I", true)
  | 32 => ("ElasticNetsModel", "out", "[I", true)
  | 33 => ("ElasticNetsModel", "now", "[I", true)
  | 34 => ("ElasticNetsModel", "made", "[I", true)
  | 35 => ("ElasticNetsModel", "arcFrom", "[I", true)
  | 36 => ("ElasticNetsModel", "arcTo", "[I", true)
  | 37 => ("ElasticNetsModel", "arcTokens", "[I", true)
  | 38 => ("ElasticNetsModel", "arcLength", "[I", true)
  | 39 => ("ElasticNetsModel", "arcs", "I", false)
  | 40 => ("ElasticNetsModel", "nodes", "I", false)
  | 41 => ("ElasticNetsModel", "least", "[I", true)
  | 42 => ("ElasticNetsModel", "before", "[I", true)
  | 43 => ("ElasticNetsModel", "rateTokens", "I", false)
  | _ => ("ElasticNetsModel", "rateLength", "I", false)
def cT_M : Nat → FieldType := fun k => match k with
  | 0 => .int
  | 1 => .boolean
  | 2 => .int
  | 3 => .array .int
  | 4 => .array .int
  | 5 => .int
  | 6 => .array .int
  | 7 => .array .int
  | 8 => .array .int
  | 9 => .array .int
  | 10 => .array .int
  | 11 => .int
  | 12 => .array .int
  | 13 => .array .int
  | 14 => .int
  | 15 => .array .int
  | 16 => .array .int
  | 17 => .int
  | 18 => .int
  | 19 => .array .int
  | 20 => .array .int
  | 21 => .array .int
  | 22 => .array .int
  | 23 => .array .int
  | 24 => .array .int
  | 25 => .array .int
  | 26 => .array .int
  | 27 => .array .int
  | 28 => .array .int
  | 29 => .array .int
  | 30 => .array .int
  | 31 => .array .int
  | 32 => .array .int
  | 33 => .array .int
  | 34 => .array .int
  | 35 => .array .int
  | 36 => .array .int
  | 37 => .array .int
  | 38 => .array .int
  | 39 => .int
  | 40 => .int
  | 41 => .array .int
  | 42 => .array .int
  | 43 => .int
  | _ => .int
abbrev pm_vw : List vw_C := [(cR_E, cF_E, 5), (cR_D, cF_D, 15), (cR_P, cF_P, 15), (cR_C, cF_C, 6), (cR_A, cF_A, 12), (cR_M, cF_M, 45)]
def pm_fkL : List (List Nat) := [[1, 1, 1, 1, 0], [0, 0, 0, 0, 1, 1, 1, 1, 1, 1, 1, 1, 1, 1, 1], [1, 0, 1, 1, 1, 1, 1, 1, 1, 0, 1, 1, 1, 1, 1], [1, 1, 0, 1, 1, 1], [1, 0, 0, 0, 0, 0, 1, 1, 1, 1, 1, 1], [0, 0, 0, 1, 1, 0, 1, 1, 1, 1, 1, 0, 1, 1, 0, 1, 1, 0, 0, 1, 1, 1, 1, 1, 1, 1, 1, 1, 1, 1, 1, 1, 1, 1, 1, 1, 1, 1, 1, 0, 0, 1, 1, 0, 0]]
def pm_fk (ci j : Nat) : Nat := (pm_fkL.getD ci []).getD j 0
def pm_shpL : List (Nat × Nat) := [(0, 0), (0, 1), (1, 10), (1, 10), (1, 20), (1, 20), (1, 20), (1, 20), (1, 4), (3, 10), (1, 24), (1, 24), (1, 24), (1, 24), (1, 24), (1, 24), (1, 24), (1, 24), (1, 24), (1, 24), (1, 10), (3, 10), (1, 24), (1, 24), (1, 24), (1, 24), (1, 24), (1, 24), (1, 24), (1, 24), (1, 24), (1, 24), (1, 10), (0, 2), (1, 160), (1, 80), (1, 80), (1, 24), (1, 10), (1, 10), (1, 10), (1, 4), (1, 4), (3, 4), (1, 1000), (1, 1000), (1, 1000), (1, 1000), (1, 4), (4, 4), (2, 1000), (2, 1000), (2, 1000), (2, 1000), (0, 3), (1, 24), (1, 10), (3, 4), (1, 1000), (1, 1000), (1, 1000), (1, 1000), (0, 4), (1, 220), (1, 220), (1, 220), (1, 220), (1, 100), (1, 100), (0, 5), (1, 10), (1, 10), (1, 20), (1, 20), (1, 20), (1, 20), (1, 20), (1, 4), (1, 4), (1, 4), (1, 4), (1, 1000), (1, 20040), (1, 80160), (1, 80), (1, 20040), (1, 20), (1, 10020), (1, 10), (1, 4008), (1, 4008), (1, 4), (1, 4008), (1, 4008), (1, 4), (1, 20), (1, 10), (1, 400), (1, 400), (1, 400), (1, 400), (1, 120), (1, 120), (2, 1)]
def pm_shp (b : Nat) : Nat × Nat := pm_shpL.getD b (9, 0)
def pm_strs : List (String × Nat × String) := [("ElasticNets", 176, "it is built"), ("ElasticNets", 54, "no such operation"), ("ElasticNets", 178, "no such number"), ("ElasticNets", 173, "it is not built"), ("ElasticNets", 143, "the port has not got so many"), ("ElasticNets", 153, "no such cycle, or nothing was taken for it")]
def pm_ncs : List (String × String) := [("java/lang/IllegalArgumentException", "java/lang/IllegalStateException"), ("java/lang/IndexOutOfBoundsException", "java/lang/IllegalStateException"), ("java/lang/IndexOutOfBoundsException", "java/lang/IllegalArgumentException")]
def pm_thr : String := "java/lang/Throwable"
def lw_gw : List Cond := lw_tbl.filter goodWord
theorem wd_t {w : Cond} (i : Nat) (h : tables_1[i]? = some w) (hg : goodWord w = true) : w ∈ lw_gw := List.mem_filter.mpr ⟨List.mem_append_right _ (List.mem_of_getElem? h), hg⟩
theorem wd_s {w : Cond} (i : Nat) (h : (k2_sels lw_privs)[i]? = some w) (hg : goodWord w = true) : w ∈ lw_gw := List.mem_filter.mpr ⟨List.mem_append_left _ (List.mem_of_getElem? h), hg⟩
end
section
/-! A small pure machine: cells are numbered in the order in which they are made; 1000 is the script, 1001 holds its length. -/
abbrev pm_S : Type := Nat × (Nat → Nat → Option Nat) × (Nat → Nat → Int32) × (Nat → Nat → Int64)
abbrev pm_O : Type := (Option Value ⊕ String) × pm_S
/-- a method: name, bytes, locals, answer, handlers, cells, slots -/
abbrev pm_M : Type := MethodName × ByteArray × Nat × Option FieldType × List (Nat × Nat × Nat × Nat) × Nat × Nat
abbrev mY (k : pm_M) : MethodName := k.1
abbrev mB (k : pm_M) : ByteArray := k.2.1
abbrev mL (k : pm_M) : Nat := k.2.2.1
abbrev mT (k : pm_M) : Option FieldType := k.2.2.2.1
abbrev mH (k : pm_M) : List (Nat × Nat × Nat × Nat) := k.2.2.2.2.1
abbrev mC (k : pm_M) : Nat := k.2.2.2.2.2.1
abbrev mS (k : pm_M) : Nat := k.2.2.2.2.2.2
abbrev pm_R : Type := Nat → pm_M → Nat → List (Option Value) → List Value → Nat → Nat → pm_S → pm_O → Prop
/-- class ids of int[], long[], int[][], long[][] -/
abbrev pm_G : Type := ClassId × ClassId × ClassId × ClassId
abbrev pm_gI (G : pm_G) : ClassId := G.1
abbrev pm_gJ (G : pm_G) : ClassId := G.2.1
abbrev pm_gII (G : pm_G) : ClassId := G.2.2.1
abbrev pm_gJJ (G : pm_G) : ClassId := G.2.2.2
def pv (ad : Nat → Nat) : Value → Value
  | .ref k => .ref (ad k)
  | .int x => .int x
  | .long x => .long x
  | .float x => .float x
  | .double x => .double x
  | .null => .null
  | .retAddr x => .retAddr x
theorem pm_cat (ad : Nat → Nat) (v : Value) : (pv ad v).category = v.category := by cases v <;> rfl
theorem pm_cats (ad : Nat → Nat) (st : List Value) : ((st.map (pv ad)).map fun v => v.category).sum = (st.map fun v => v.category).sum := by
  rw [List.map_map]
  congr 1
  exact List.map_congr_left (fun v _ => pm_cat ad v)
-- updates
def pm_uI (I : Nat → Nat → Int32) (c j : Nat) (v : Int32) : Nat → Nat → Int32 := fun c' => if c' = c then upd (I c) j v else I c'
def pm_uJ (J : Nat → Nat → Int64) (c j : Nat) (v : Int64) : Nat → Nat → Int64 := fun c' => if c' = c then vp_updL (J c) j v else J c'
def pm_uP (P : Nat → Nat → Option Nat) (c j : Nat) (v : Option Nat) : Nat → Nat → Option Nat := fun c' => if c' = c then (fun j' => if j' = j then v else P c j') else P c'
def pm_uA (I : Nat → Nat → Int32) (c : Nat) (f : Nat → Int32) : Nat → Nat → Int32 := fun c' => if c' = c then f else I c'
def pm_sI (σ : pm_S) (c j : Nat) (v : Int32) : pm_S := (σ.1, σ.2.1, pm_uI σ.2.2.1 c j v, σ.2.2.2)
def pm_sJ (σ : pm_S) (c j : Nat) (v : Int64) : pm_S := (σ.1, σ.2.1, σ.2.2.1, pm_uJ σ.2.2.2 c j v)
def pm_sP (σ : pm_S) (c j : Nat) (v : Option Nat) : pm_S := (σ.1, pm_uP σ.2.1 c j v, σ.2.2.1, σ.2.2.2)
def pm_sA (σ : pm_S) (c : Nat) (f : Nat → Int32) : pm_S := (σ.1, σ.2.1, pm_uA σ.2.2.1 c f, σ.2.2.2)
/-- behind a multianewarray of n rows -/
def pm_mna (σ : pm_S) (n : Nat) : pm_S := (σ.1 + 1 + n, (fun c => if c = σ.1 then (fun j => if j < n then some (σ.1 + 1 + j) else none) else σ.2.1 c), σ.2.2.1, σ.2.2.2)
-- locals
def pm_lv (ad : Nat → Nat) (ls : List (Option Value)) : List (Nat × Value) := ls.zipIdx.filterMap (fun q => q.1.map (fun v => (q.2, pv ad v)))
theorem pm_lv_iff {ad : Nat → Nat} {ls : List (Option Value)} {i : Nat} {w : Value} : (i, w) ∈ pm_lv ad ls ↔ ∃ v, ls[i]? = some (some v) ∧ w = pv ad v := by
  unfold pm_lv
  rw [List.mem_filterMap]
  constructor
  · rintro ⟨⟨o, j⟩, hm, ho⟩
    have hj := List.mem_zipIdx_iff_getElem?.mp hm
    cases o with
    | none => cases ho
    | some v =>
      simp only [Option.map_some, Option.some.injEq, Prod.mk.injEq] at ho
      obtain ⟨rfl, rfl⟩ := ho
      exact ⟨v, hj, rfl⟩
  · rintro ⟨v, hv, rfl⟩
    exact ⟨(some v, i), List.mem_zipIdx_iff_getElem?.mpr hv, rfl⟩
theorem pm_lv_mem {ad : Nat → Nat} {ls : List (Option Value)} {i : Nat} {v : Value} (h : ls[i]? = some (some v)) : (i, pv ad v) ∈ pm_lv ad ls := pm_lv_iff.mpr ⟨v, h, rfl⟩
def pm_loc (ad : Nat → Nat) (n : Nat) (ls : List (Option Value)) (real : Array Slot) : Prop := ls.length = n ∧ lv_has real n (pm_lv ad ls)
theorem pm_at {ad : Nat → Nat} {n : Nat} {ls : List (Option Value)} {real : Array Slot} (h : pm_loc ad n ls real) {i : Nat} {v : Value} (hi : ls[i]? = some (some v)) : real[i]? = some (.val (pv ad v)) := h.2.2.2 (i, pv ad v) (pm_lv_mem hi)
/-- no long stands right before place i -/
def pm_pre (ls : List (Option Value)) (i : Nat) : Bool := match i with
  | 0 => true
  | j + 1 => match ls[j]? with
    | some (some v) => decide (v.category = 1)
    | _ => true
theorem pm_pre_at {ls : List (Option Value)} {i j : Nat} {v : Value} (h : pm_pre ls i = true) (hj : j + 1 = i) (hv : ls[j]? = some (some v)) : v.category = 1 := by
  subst hj
  simp only [pm_pre, hv, decide_eq_true_eq] at h
  exact h
theorem pm_store1 {ad : Nat → Nat} {n : Nat} {ls : List (Option Value)} {real real' : Array Slot} {i : Nat} {v : Value} (hL : pm_loc ad n ls real) (hp : pm_pre ls i = true) (h : lv_has real' n ((i, pv ad v) :: (pm_lv ad ls).filter (fun q => !(q.1 == i) && !(q.1 + 1 == i && q.2.category == 2)))) : pm_loc ad n (ls.set i (some v)) real' := by
  refine ⟨by rw [List.length_set]; exact hL.1, h.1, h.2.1, ?_⟩
  rintro ⟨j, w⟩ hq
  obtain ⟨u, hu, rfl⟩ := pm_lv_iff.mp hq
  by_cases hj : i = j
  · subst hj
    have hl : i < (ls.set i (some v)).length := (List.getElem?_eq_some_iff.mp hu).1
    rw [List.length_set] at hl
    rw [List.getElem?_set_self hl] at hu
    cases hu
    exact h.2.2 _ List.mem_cons_self
  · rw [List.getElem?_set_ne hj] at hu
    refine h.2.2 _ (List.mem_cons_of_mem _ (List.mem_filter.mpr ⟨pm_lv_mem hu, ?_⟩))
    by_cases hk : j + 1 = i
    · have := pm_pre_at hp hk hu
      simp [Ne.symm hj, pm_cat, this]
    · simp [Ne.symm hj, hk]
theorem pm_kill {ad : Nat → Nat} {n : Nat} {ls : List (Option Value)} {real real' : Array Slot} {i : Nat} {w : Value} (hL : pm_loc ad n ls real) (hp : pm_pre ls i = true) (h : lv_has real' n ((i, w) :: (pm_lv ad ls).filter (fun q => !(q.1 == i) && !(q.1 + 1 == i && q.2.category == 2)))) : pm_loc ad n (ls.set i none) real' := by
  refine ⟨by rw [List.length_set]; exact hL.1, h.1, h.2.1, ?_⟩
  rintro ⟨j, w⟩ hq
  obtain ⟨u, hu, rfl⟩ := pm_lv_iff.mp hq
  by_cases hj : i = j
  · subst hj
    have hl : i < (ls.set i none).length := (List.getElem?_eq_some_iff.mp hu).1
    rw [List.length_set] at hl
    rw [List.getElem?_set_self hl] at hu
    cases hu
  · rw [List.getElem?_set_ne hj] at hu
    refine h.2.2 _ (List.mem_cons_of_mem _ (List.mem_filter.mpr ⟨pm_lv_mem hu, ?_⟩))
    by_cases hk : j + 1 = i
    · have := pm_pre_at hp hk hu
      simp [Ne.symm hj, pm_cat, this]
    · simp [Ne.symm hj, hk]
theorem pm_store2 {ad : Nat → Nat} {n : Nat} {ls : List (Option Value)} {real real' : Array Slot} {i : Nat} {v : Value} (hL : pm_loc ad n ls real) (hp : pm_pre ls i = true) (h : lv_has real' n ((i, pv ad v) :: (pm_lv ad ls).filter (fun q => !(q.1 == i) && (!(q.1 == i + 1) && !(q.1 + 1 == i && q.2.category == 2))))) : pm_loc ad n ((ls.set i (some v)).set (i + 1) none) real' := by
  refine ⟨by rw [List.length_set, List.length_set]; exact hL.1, h.1, h.2.1, ?_⟩
  rintro ⟨j, w⟩ hq
  obtain ⟨u, hu, rfl⟩ := pm_lv_iff.mp hq
  by_cases hj2 : i + 1 = j
  · subst hj2
    have hl : i + 1 < ((ls.set i (some v)).set (i + 1) none).length := (List.getElem?_eq_some_iff.mp hu).1
    rw [List.length_set] at hl
    rw [List.getElem?_set_self hl] at hu
    cases hu
  rw [List.getElem?_set_ne hj2] at hu
  by_cases hj : i = j
  · subst hj
    have hl : i < (ls.set i (some v)).length := (List.getElem?_eq_some_iff.mp hu).1
    rw [List.length_set] at hl
    rw [List.getElem?_set_self hl] at hu
    cases hu
    exact h.2.2 _ List.mem_cons_self
  · rw [List.getElem?_set_ne hj] at hu
    refine h.2.2 _ (List.mem_cons_of_mem _ (List.mem_filter.mpr ⟨pm_lv_mem hu, ?_⟩))
    by_cases hk : j + 1 = i
    · have := pm_pre_at hp hk hu
      simp [Ne.symm hj, Ne.symm hj2, pm_cat, this]
    · simp [Ne.symm hj, Ne.symm hj2, hk]
-- references below n
def pm_ltV (n : Nat) : Value → Bool
  | .ref r => decide (r < n)
  | _ => true
def pm_lt (n : Nat) (ls : List (Option Value)) (st : List Value) : Bool := (ls.all fun o => match o with | some v => pm_ltV n v | none => true) && st.all (pm_ltV n)
def pm_agree (ad ad' : Nat → Nat) (n : Nat) : Prop := ∀ i, i < n → ad' i = ad i
theorem pm_pvV {ad ad' : Nat → Nat} {n : Nat} (h : pm_agree ad ad' n) {v : Value} (hv : pm_ltV n v = true) : pv ad' v = pv ad v := by
  cases v with
  | ref r =>
    simp only [pm_ltV, decide_eq_true_eq] at hv
    show Value.ref _ = Value.ref _
    rw [h r hv]
  | _ => rfl
theorem pm_mapst {ad ad' : Nat → Nat} {n : Nat} {ls : List (Option Value)} {st : List Value} (h : pm_agree ad ad' n) (hl : pm_lt n ls st = true) : st.map (pv ad') = st.map (pv ad) := by
  simp only [pm_lt, Bool.and_eq_true, List.all_eq_true] at hl
  exact List.map_congr_left (fun v hv => pm_pvV h (hl.2 v hv))
theorem pm_loc_ad {ad ad' : Nat → Nat} {n : Nat} {ls : List (Option Value)} {st : List Value} {N : Nat} {real : Array Slot} (h : pm_agree ad ad' n) (hl : pm_lt n ls st = true) (hL : pm_loc ad N ls real) : pm_loc ad' N ls real := by
  simp only [pm_lt, Bool.and_eq_true, List.all_eq_true] at hl
  refine ⟨hL.1, hL.2.1, hL.2.2.1, ?_⟩
  rintro ⟨j, w⟩ hq
  obtain ⟨u, hu, rfl⟩ := pm_lv_iff.mp hq
  have := hl.1 (some u) (List.mem_of_getElem? hu)
  rw [pm_pvV h this]
  exact pm_at hL hu
theorem pm_tl {ad : Nat → Nat} {r : Option Value} : (r.toList).map (pv ad) = (r.map (pv ad)).toList := by cases r <;> rfl
theorem pm_nref {ad ad' : Nat → Nat} {r : Option Value} (h : pm_lt 0 [] r.toList = true) : r.map (pv ad') = r.map (pv ad) := by
  cases r with
  | none => rfl
  | some v =>
    simp only [pm_lt, Bool.and_eq_true, List.all_eq_true] at h
    have h2 := h.2 v (by simp)
    show some _ = some _
    rw [pm_pvV (n := 0) (ad := ad) (ad' := ad') (fun i hi => absurd hi (Nat.not_lt_zero i)) h2]
-- worlds
def pm_nf (ci : Nat) : Nat := match pm_vw[ci]? with
  | some q => q.2.2
  | none => 0
def pm_fv (ad : Nat → Nat) (σ : pm_S) (b ci j : Nat) : Value := if pm_fk ci j = 1 then va_rf ((σ.2.1 b j).map ad) else .int (σ.2.2.1 b j)
def pm_fs (ad : Nat → Nat) (σ : pm_S) (b ci : Nat) : List Value := (List.range (pm_nf ci)).map (pm_fv ad σ b ci)
def pm_cell (G : pm_G) (ad : Nat → Nat) (σ : pm_S) (b : Nat) : va_E := match pm_shp b with
  | (0, ci) => .inr (ci, pm_fs ad σ b ci)
  | (1, n) => .inl (G.1, n, .inl (σ.2.2.1 b))
  | (2, n) => .inl (G.2.1, n, .inr (.inl (σ.2.2.2 b)))
  | (3, n) => .inl (G.2.2.1, n, .inr (.inr (.inr (.inr (fun j => (σ.2.1 b j).map ad)))))
  | (_, n) => .inl (G.2.2.2, n, .inr (.inr (.inr (.inr (fun j => (σ.2.1 b j).map ad)))))
def pm_ws (G : pm_G) (ad : Nat → Nat) (σ : pm_S) : va_W := (List.range σ.1).map (fun b => (ad b, pm_cell G ad σ b))
abbrev pm_tys (G : pm_G) : List (ClassId × FieldType) := [(G.1, .int), (G.2.1, .long), (G.2.2.1, .array .int), (G.2.2.2, .array .long)]
/-- what is known of a class: its row, its words, its types, its names -/
def pm_cl (ci : Nat) (C : String) (T : u_T) (N : Nat) (ty : Nat → FieldType) : Prop := pm_vw[ci]? = some (C, T, N) ∧ (∀ w ∈ u_ws C T N, w ∈ lw_gw) ∧ (∀ k, k < N → parseFieldDescriptor (T k).2.2.1 = some (ty k)) ∧ (∀ a, a < N → ∀ b, b < N → a ≠ b → (T a).2.1 ≠ (T b).2.1) ∧ ∀ j, j < N → defaultValue (ty j) = if pm_fk ci j = 1 then .null else .int 0
def pm_wf (σ : pm_S) : Prop := σ.1 ≤ 1000 ∧ ∀ b j r, σ.2.1 b j = some r → r < σ.1
section PMW
variable {G : pm_G} {ad ad' : Nat → Nat} {σ σ' : pm_S} {b ci n j : Nat}
theorem pm_ws_at (h : b < σ.1) : (pm_ws G ad σ)[b]? = some (ad b, pm_cell G ad σ b) := by simp [pm_ws, h]
theorem pm_cell0 (h : pm_shp b = (0, ci)) : pm_cell G ad σ b = .inr (ci, pm_fs ad σ b ci) := by unfold pm_cell; rw [h] <;> rfl
theorem pm_cell1 (h : pm_shp b = (1, n)) : pm_cell G ad σ b = .inl (G.1, n, .inl (σ.2.2.1 b)) := by unfold pm_cell; rw [h] <;> rfl
theorem pm_cell2 (h : pm_shp b = (2, n)) : pm_cell G ad σ b = .inl (G.2.1, n, .inr (.inl (σ.2.2.2 b))) := by unfold pm_cell; rw [h] <;> rfl
theorem pm_cell3 (h : pm_shp b = (3, n)) : pm_cell G ad σ b = .inl (G.2.2.1, n, .inr (.inr (.inr (.inr (fun j => (σ.2.1 b j).map ad))))) := by unfold pm_cell; rw [h] <;> rfl
theorem pm_cell4 (h : pm_shp b = (4, n)) : pm_cell G ad σ b = .inl (G.2.2.2, n, .inr (.inr (.inr (.inr (fun j => (σ.2.1 b j).map ad))))) := by unfold pm_cell; rw [h] <;> rfl
theorem pm_ws0 (h : b < σ.1) (hs : pm_shp b = (0, ci)) : (pm_ws G ad σ)[b]? = some (ad b, .inr (ci, pm_fs ad σ b ci)) := by rw [pm_ws_at h, pm_cell0 hs]
theorem pm_ws1 (h : b < σ.1) (hs : pm_shp b = (1, n)) : (pm_ws G ad σ)[b]? = some (ad b, .inl (G.1, n, .inl (σ.2.2.1 b))) := by rw [pm_ws_at h, pm_cell1 hs]
theorem pm_ws2 (h : b < σ.1) (hs : pm_shp b = (2, n)) : (pm_ws G ad σ)[b]? = some (ad b, .inl (G.2.1, n, .inr (.inl (σ.2.2.2 b)))) := by rw [pm_ws_at h, pm_cell2 hs]
theorem pm_ws3 (h : b < σ.1) (hs : pm_shp b = (3, n)) : (pm_ws G ad σ)[b]? = some (ad b, .inl (G.2.2.1, n, .inr (.inr (.inr (.inr (fun j => (σ.2.1 b j).map ad)))))) := by rw [pm_ws_at h, pm_cell3 hs]
theorem pm_ws4 (h : b < σ.1) (hs : pm_shp b = (4, n)) : (pm_ws G ad σ)[b]? = some (ad b, .inl (G.2.2.2, n, .inr (.inr (.inr (.inr (fun j => (σ.2.1 b j).map ad)))))) := by rw [pm_ws_at h, pm_cell4 hs]
theorem pm_nf_of {C : String} {T : u_T} {N : Nat} (h : pm_vw[ci]? = some (C, T, N)) : pm_nf ci = N := by unfold pm_nf; rw [h]
theorem pm_fs_at (h : j < pm_nf ci) : (pm_fs ad σ b ci)[j]? = some (pm_fv ad σ b ci j) := by simp [pm_fs, h]
theorem pm_fsI {C : String} {T : u_T} {N : Nat} (h : pm_vw[ci]? = some (C, T, N)) (hj : j < N) (hk : pm_fk ci j ≠ 1) : (pm_fs ad σ b ci)[j]? = some (.int (σ.2.2.1 b j)) := by
  rw [pm_fs_at (by rw [pm_nf_of h]; exact hj), pm_fv, if_neg hk]
theorem pm_fsP {C : String} {T : u_T} {N r : Nat} (h : pm_vw[ci]? = some (C, T, N)) (hj : j < N) (hk : pm_fk ci j = 1) (hr : σ.2.1 b j = some r) : (pm_fs ad σ b ci)[j]? = some (pv ad (.ref r)) := by
  rw [pm_fs_at (by rw [pm_nf_of h]; exact hj), pm_fv, if_pos hk, hr]
  rfl
theorem pm_fsl {C : String} {T : u_T} {N : Nat} (h : pm_vw[ci]? = some (C, T, N)) (hj : j < N) : j < (pm_fs ad σ b ci).length := by
  simp [pm_fs, pm_nf_of h, hj]
/-- a cell hangs on its own slots alone -/
theorem pm_cell_eq (hI : σ'.2.2.1 b = σ.2.2.1 b) (hJ : σ'.2.2.2 b = σ.2.2.2 b) (hP : ∀ j, (σ'.2.1 b j).map ad' = (σ.2.1 b j).map ad) : pm_cell G ad' σ' b = pm_cell G ad σ b := by
  have hfv : ∀ ci, pm_fs ad' σ' b ci = pm_fs ad σ b ci := fun ci => by
    unfold pm_fs
    refine List.map_congr_left (fun j _ => ?_)
    unfold pm_fv
    rw [hI, hP]
  have hq : (fun j => (σ'.2.1 b j).map ad') = fun j => (σ.2.1 b j).map ad := funext hP
  unfold pm_cell
  simp only [hfv, hI, hJ, hq]
theorem pm_ws_set {e : va_E} (hn : σ'.1 = σ.1) (he : pm_cell G ad σ' b = e) (ho : ∀ c, c ≠ b → pm_cell G ad σ' c = pm_cell G ad σ c) : (pm_ws G ad σ).set b (ad b, e) = pm_ws G ad σ' := by
  subst he
  apply List.ext_getElem?
  intro i
  rw [List.getElem?_set]
  by_cases hi : b = i
  · subst hi
    by_cases hl : b < σ.1
    · have hl2 : b < σ'.1 := by rw [hn]; exact hl
      rw [if_pos rfl, pm_ws_at hl2]
      simp [pm_ws, hl]
    · have hl2 : ¬ b < σ'.1 := by rw [hn]; exact hl
      simp [pm_ws, hl, hl2]
  · rw [if_neg hi]
    simp only [pm_ws, List.getElem?_map, hn]
    cases hx : (List.range σ.1)[i]? with
    | none => rfl
    | some x =>
      have : x = i := by
        have := List.getElem?_eq_some_iff.mp hx
        obtain ⟨h1, h2⟩ := this
        rw [List.getElem_range] at h2
        exact h2.symm
      subst this
      simp only [Option.map_some]
      rw [ho x (fun z => hi z.symm)]
theorem pm_fs_I {v : Int32} (hk : pm_fk ci j ≠ 1) : (pm_fs ad σ b ci).set j (.int v) = pm_fs ad (pm_sI σ b j v) b ci := by
  apply List.ext_getElem?
  intro i
  rw [List.getElem?_set]
  by_cases hi : j = i
  · subst hi
    by_cases hl : j < pm_nf ci
    · rw [if_pos rfl, pm_fs_at hl]
      simp [pm_fs, hl, pm_fv, hk, pm_sI, pm_uI, upd]
    · simp [pm_fs, hl]
  · rw [if_neg hi]
    by_cases hl : i < pm_nf ci
    · rw [pm_fs_at hl, pm_fs_at hl]
      simp [pm_fv, pm_sI, pm_uI, upd, Ne.symm hi]
    · simp [pm_fs, hl]
theorem pm_fs_P {r : Nat} (hk : pm_fk ci j = 1) : (pm_fs ad σ b ci).set j (pv ad (.ref r)) = pm_fs ad (pm_sP σ b j (some r)) b ci := by
  apply List.ext_getElem?
  intro i
  rw [List.getElem?_set]
  by_cases hi : j = i
  · subst hi
    by_cases hl : j < pm_nf ci
    · rw [if_pos rfl, pm_fs_at hl]
      simp [pm_fs, hl, pm_fv, hk, pm_sP, pm_uP, va_rf, pv]
    · simp [pm_fs, hl]
  · rw [if_neg hi]
    by_cases hl : i < pm_nf ci
    · rw [pm_fs_at hl, pm_fs_at hl]
      simp [pm_fv, pm_sP, pm_uP, Ne.symm hi]
    · simp [pm_fs, hl]
theorem pm_o_sI {c : Nat} {v : Int32} (h : c ≠ b) : pm_cell G ad (pm_sI σ b j v) c = pm_cell G ad σ c := pm_cell_eq (by simp [pm_sI, pm_uI, h]) rfl (fun _ => rfl)
theorem pm_o_sJ {c : Nat} {v : Int64} (h : c ≠ b) : pm_cell G ad (pm_sJ σ b j v) c = pm_cell G ad σ c := pm_cell_eq rfl (by simp [pm_sJ, pm_uJ, h]) (fun _ => rfl)
theorem pm_o_sP {c : Nat} {v : Option Nat} (h : c ≠ b) : pm_cell G ad (pm_sP σ b j v) c = pm_cell G ad σ c := pm_cell_eq rfl rfl (fun _ => by simp [pm_sP, pm_uP, h])
theorem pm_o_sA {c : Nat} {f : Nat → Int32} (h : c ≠ b) : pm_cell G ad (pm_sA σ b f) c = pm_cell G ad σ c := pm_cell_eq (by simp [pm_sA, pm_uA, h]) rfl (fun _ => rfl)
theorem pm_set0I {v : Int32} (h : b < σ.1) (hs : pm_shp b = (0, ci)) (hk : pm_fk ci j ≠ 1) : (pm_ws G ad σ).set b (ad b, .inr (ci, (pm_fs ad σ b ci).set j (.int v))) = pm_ws G ad (pm_sI σ b j v) :=
  pm_ws_set rfl (by rw [pm_cell0 hs, pm_fs_I hk]) (fun _ hc => pm_o_sI hc)
theorem pm_set0P {r : Nat} (h : b < σ.1) (hs : pm_shp b = (0, ci)) (hk : pm_fk ci j = 1) : (pm_ws G ad σ).set b (ad b, .inr (ci, (pm_fs ad σ b ci).set j (pv ad (.ref r)))) = pm_ws G ad (pm_sP σ b j (some r)) :=
  pm_ws_set rfl (by rw [pm_cell0 hs, pm_fs_P hk]) (fun _ hc => pm_o_sP hc)
theorem pm_set1 {i : Nat} {v : Int32} (h : b < σ.1) (hs : pm_shp b = (1, n)) : (pm_ws G ad σ).set b (ad b, .inl (G.1, n, .inl (upd (σ.2.2.1 b) i v))) = pm_ws G ad (pm_sI σ b i v) :=
  pm_ws_set rfl (by rw [pm_cell1 hs]; simp [pm_sI, pm_uI]) (fun _ hc => pm_o_sI hc)
theorem pm_set1A {f : Nat → Int32} (h : b < σ.1) (hs : pm_shp b = (1, n)) : (pm_ws G ad σ).set b (ad b, .inl (G.1, n, .inl f)) = pm_ws G ad (pm_sA σ b f) :=
  pm_ws_set rfl (by rw [pm_cell1 hs]; simp [pm_sA, pm_uA]) (fun _ hc => pm_o_sA hc)
theorem pm_set2 {i : Nat} {v : Int64} (h : b < σ.1) (hs : pm_shp b = (2, n)) : (pm_ws G ad σ).set b (ad b, .inl (G.2.1, n, .inr (.inl (vp_updL (σ.2.2.2 b) i v)))) = pm_ws G ad (pm_sJ σ b i v) :=
  pm_ws_set rfl (by rw [pm_cell2 hs]; simp [pm_sJ, pm_uJ]) (fun _ hc => pm_o_sJ hc)
/-- another map of the cells' numbers that agrees as far as they go -/
theorem pm_mapo (hwf : pm_wf σ) (h : pm_agree ad ad' σ.1) (b j : Nat) : (σ.2.1 b j).map ad' = (σ.2.1 b j).map ad := by
  cases hr : σ.2.1 b j with
  | none => rfl
  | some r =>
    show some _ = some _
    rw [h r (hwf.2 b j r hr)]
theorem pm_ws_ad (hwf : pm_wf σ) (h : pm_agree ad ad' σ.1) : pm_ws G ad' σ = pm_ws G ad σ := by
  unfold pm_ws
  refine List.map_congr_left (fun b hb => ?_)
  rw [h b (List.mem_range.mp hb), pm_cell_eq rfl rfl (pm_mapo hwf h b)]
-- new cells
def pm_ext (ad : Nat → Nat) (n q : Nat) : Nat → Nat := fun i => if i = n then q else ad i
theorem pm_ext_agree {q : Nat} : pm_agree ad (pm_ext ad n q) n := fun i hi => by simp [pm_ext, Nat.ne_of_lt hi]
theorem pm_ws_push {q : Nat} {e : va_E} (hwf : pm_wf σ) (he : pm_cell G (pm_ext ad σ.1 q) (σ.1 + 1, σ.2) σ.1 = e) : pm_ws G ad σ ++ [(q, e)] = pm_ws G (pm_ext ad σ.1 q) (σ.1 + 1, σ.2) := by
  subst he
  have h2 : pm_ws G (pm_ext ad σ.1 q) (σ.1 + 1, σ.2) = pm_ws G (pm_ext ad σ.1 q) σ ++ [(pm_ext ad σ.1 q σ.1, pm_cell G (pm_ext ad σ.1 q) (σ.1 + 1, σ.2) σ.1)] := by
    unfold pm_ws
    rw [List.range_succ, List.map_append]
    rfl
  rw [h2, pm_ws_ad hwf pm_ext_agree]
  simp [pm_ext]
theorem pm_push0 {q : Nat} (hwf : pm_wf σ) (hs : pm_shp σ.1 = (0, ci)) (hn : ∀ j, σ.2.1 σ.1 j = none) : pm_ws G ad σ ++ [(q, (.inr (ci, pm_fs ad σ σ.1 ci) : va_E))] = pm_ws G (pm_ext ad σ.1 q) (σ.1 + 1, σ.2) := by
  refine pm_ws_push hwf ?_
  rw [pm_cell0 hs]
  have : pm_fs (pm_ext ad σ.1 q) (σ.1 + 1, σ.2) σ.1 ci = pm_fs ad σ σ.1 ci := by
    unfold pm_fs
    refine List.map_congr_left (fun j _ => ?_)
    simp [pm_fv, hn]
  rw [this]
theorem pm_push1 {q : Nat} (hwf : pm_wf σ) (hs : pm_shp σ.1 = (1, n)) (hn : ∀ j, σ.2.2.1 σ.1 j = 0) : pm_ws G ad σ ++ [(q, (.inl (pm_gI G, n, .inl (fun _ => 0)) : va_E))] = pm_ws G (pm_ext ad σ.1 q) (σ.1 + 1, σ.2) := by
  refine pm_ws_push hwf ?_
  rw [pm_cell1 hs, show ((σ.1 + 1, σ.2) : pm_S).2.2.1 σ.1 = fun _ => 0 from funext hn]
theorem pm_push2 {q : Nat} (hwf : pm_wf σ) (hs : pm_shp σ.1 = (2, n)) (hn : ∀ j, σ.2.2.2 σ.1 j = 0) : pm_ws G ad σ ++ [(q, (.inl (pm_gJ G, n, .inr (.inl (fun _ => 0))) : va_E))] = pm_ws G (pm_ext ad σ.1 q) (σ.1 + 1, σ.2) := by
  refine pm_ws_push hwf ?_
  rw [pm_cell2 hs, show ((σ.1 + 1, σ.2) : pm_S).2.2.2 σ.1 = fun _ => 0 from funext hn]
theorem pm_dflt {C : String} {T : u_T} {N : Nat} {ty : Nat → FieldType} (hc : pm_cl ci C T N ty) (h0 : ∀ j, σ.2.2.1 b j = 0) (hn : ∀ j, σ.2.1 b j = none) : ∀ j, j < N → defaultValue (ty j) = vp_V (pm_fs ad σ b ci) j := by
  intro j hj
  rw [hc.2.2.2.2 j hj]
  unfold vp_V
  rw [List.getD_eq_getElem?_getD, pm_fs_at (by rw [pm_nf_of hc.1]; exact hj)]
  simp only [pm_fv, h0, hn, Option.getD_some]
  by_cases h : pm_fk ci j = 1
  · simp [h, va_rf]
  · simp [h]
theorem pm_st_ext {q : Nat} {ls : List (Option Value)} {st : List Value} (h : pm_lt σ.1 ls st = true) : (Value.ref σ.1 :: st).map (pv (pm_ext ad σ.1 q)) = Value.ref q :: st.map (pv ad) := by
  rw [List.map_cons, pm_mapst pm_ext_agree h]
  simp [pv, pm_ext]
-- rows
def pm_extR (ad : Nat → Nat) (n q : Nat) (r : Nat → Nat) : Nat → Nat := fun i => if i < n then ad i else if i = n then q else if i < 1000 then r (i - (n + 1)) else ad i
theorem pm_extR_agree {q : Nat} {r : Nat → Nat} : pm_agree ad (pm_extR ad n q r) n := fun i hi => by simp [pm_extR, hi]
theorem pm_st_extR {q : Nat} {r : Nat → Nat} {ls : List (Option Value)} {st : List Value} (h : pm_lt σ.1 ls st = true) : (Value.ref σ.1 :: st).map (pv (pm_extR ad σ.1 q r)) = Value.ref q :: st.map (pv ad) := by
  rw [List.map_cons, pm_mapst pm_extR_agree h]
  simp [pv, pm_extR]
theorem pm_push_rows {q kk : Nat} {r : Nat → Nat} {e er : va_E} (hwf : pm_wf σ) (hm : σ.1 + 1 + n ≤ 1000) (he : pm_cell G (pm_extR ad σ.1 q r) (pm_mna σ n) σ.1 = e) (hr : ∀ i, i < n → pm_cell G (pm_extR ad σ.1 q r) (pm_mna σ n) (σ.1 + 1 + i) = er):
    (pm_ws G ad σ ++ [(q, e)]) ++ (List.range n).map (fun i => (r i, er)) = pm_ws G (pm_extR ad σ.1 q r) (pm_mna σ n) := by
  subst he
  have hold : (List.range σ.1).map (fun b => (pm_extR ad σ.1 q r b, pm_cell G (pm_extR ad σ.1 q r) (pm_mna σ n) b)) = pm_ws G ad σ := by
    unfold pm_ws
    refine List.map_congr_left (fun b hb => ?_)
    have hb := List.mem_range.mp hb
    have hc : pm_cell G (pm_extR ad σ.1 q r) (pm_mna σ n) b = pm_cell G ad σ b := pm_cell_eq rfl rfl (fun j => by
      rw [show (pm_mna σ n).2.1 b j = σ.2.1 b j by simp [pm_mna, Nat.ne_of_lt hb]]
      exact pm_mapo hwf pm_extR_agree b j)
    rw [pm_extR_agree b hb, hc]
  have hrng : List.range (σ.1 + 1 + n) = List.range σ.1 ++ ([σ.1] ++ (List.range n).map (fun i => σ.1 + 1 + i)) := by
    rw [List.range_add, List.range_succ, List.append_assoc]
  show _ = (List.range (σ.1 + 1 + n)).map _
  rw [hrng, List.map_append, List.map_append, hold, List.append_assoc]
  congr 1
  congr 1
  · simp [pm_extR]
  · rw [List.map_map]
    refine List.map_congr_left (fun i hi => ?_)
    have hi2 := List.mem_range.mp hi
    simp only [Function.comp_apply, hr i hi2]
    have : pm_extR ad σ.1 q r (σ.1 + 1 + i) = r i := by
      simp only [pm_extR]
      rw [if_neg (by omega), if_neg (by omega), if_pos (by omega)]
      congr 1
      omega
    rw [this]
theorem pm_outer {q : Nat} {r : Nat → Nat} (hm : σ.1 + 1 + n ≤ 1000) : (fun j => ((pm_mna σ n).2.1 σ.1 j).map (pm_extR ad σ.1 q r)) = fun i => if i < n then some (r i) else none := by
  funext i
  by_cases h : i < n
  · have : pm_extR ad σ.1 q r (σ.1 + 1 + i) = r i := by
      simp only [pm_extR]
      rw [if_neg (by omega), if_neg (by omega), if_pos (by omega)]
      congr 1
      omega
    simp [pm_mna, h, this]
  · simp [pm_mna, h]
theorem pm_push3 {q kk : Nat} {r : Nat → Nat} (hwf : pm_wf σ) (hm : σ.1 + 1 + n ≤ 1000) (hs : pm_shp σ.1 = (3, n)) (hr : ∀ i, i < n → pm_shp (σ.1 + 1 + i) = (1, kk)) (hz : ∀ i j, σ.2.2.1 (σ.1 + 1 + i) j = 0) :
    (pm_ws G ad σ ++ [(q, (.inl (pm_gII G, n, .inr (.inr (.inr (.inr (fun i => if i < n then some (r i) else none))))) : va_E))]) ++ (List.range n).map (fun i => (r i, (.inl (pm_gI G, kk, .inl (fun _ => 0)) : va_E))) = pm_ws G (pm_extR ad σ.1 q r) (pm_mna σ n) := by
  refine pm_push_rows (kk := kk) hwf hm ?_ (fun i hi => ?_)
  · rw [pm_cell3 hs, pm_outer hm]
  · rw [pm_cell1 (hr i hi), show (pm_mna σ n).2.2.1 (σ.1 + 1 + i) = fun _ => 0 from funext (hz i)]
theorem pm_push4 {q kk : Nat} {r : Nat → Nat} (hwf : pm_wf σ) (hm : σ.1 + 1 + n ≤ 1000) (hs : pm_shp σ.1 = (4, n)) (hr : ∀ i, i < n → pm_shp (σ.1 + 1 + i) = (2, kk)) (hz : ∀ i j, σ.2.2.2 (σ.1 + 1 + i) j = 0) :
    (pm_ws G ad σ ++ [(q, (.inl (pm_gJJ G, n, .inr (.inr (.inr (.inr (fun i => if i < n then some (r i) else none))))) : va_E))]) ++ (List.range n).map (fun i => (r i, (.inl (pm_gJ G, kk, .inr (.inl (fun _ => 0))) : va_E))) = pm_ws G (pm_extR ad σ.1 q r) (pm_mna σ n) := by
  refine pm_push_rows (kk := kk) hwf hm ?_ (fun i hi => ?_)
  · rw [pm_cell4 hs, pm_outer hm]
  · rw [pm_cell2 (hr i hi), show (pm_mna σ n).2.2.2 (σ.1 + 1 + i) = fun _ => 0 from funext (hz i)]
theorem pm_wf_sI {v : Int32} (h : pm_wf σ) : pm_wf (pm_sI σ b j v) := h
theorem pm_wf_sJ {v : Int64} (h : pm_wf σ) : pm_wf (pm_sJ σ b j v) := h
theorem pm_wf_sA {f : Nat → Int32} (h : pm_wf σ) : pm_wf (pm_sA σ b f) := h
theorem pm_wf_sP {r : Nat} (h : pm_wf σ) (hr : r < σ.1) : pm_wf (pm_sP σ b j (some r)) := by
  refine ⟨h.1, fun b' j' r' h' => ?_⟩
  show r' < σ.1
  simp only [pm_sP, pm_uP] at h'
  by_cases hb : b' = b
  · rw [if_pos hb] at h'
    by_cases hj : j' = j
    · rw [if_pos hj] at h'
      cases h'
      exact hr
    · rw [if_neg hj] at h'
      exact h.2 _ _ _ h'
  · rw [if_neg hb] at h'
    exact h.2 _ _ _ h'
theorem pm_wf_new (h : pm_wf σ) (hm : σ.1 + 1 ≤ 1000) : pm_wf (σ.1 + 1, σ.2) := ⟨hm, fun b' j' r' h' => Nat.lt_succ_of_lt (h.2 b' j' r' h')⟩
theorem pm_wf_mna (h : pm_wf σ) (hm : σ.1 + 1 + n ≤ 1000) : pm_wf (pm_mna σ n) := by
  refine ⟨hm, fun b' j' r' h' => ?_⟩
  show r' < σ.1 + 1 + n
  simp only [pm_mna] at h'
  by_cases hb : b' = σ.1
  · rw [if_pos hb] at h'
    by_cases hj : j' < n
    · rw [if_pos hj] at h'
      cases h'
      omega
    · rw [if_neg hj] at h'
      cases h'
  · rw [if_neg hb] at h'
    have := h.2 b' j' r' h'
    omega
end PMW
theorem pm_zeroI (n : Nat) (cA : ClassId) : vp_cell cA (n, .inl (fun _ => 0)) = arrV cA n (fun _ => defaultValue .int) := rfl
theorem pm_zeroJ (n : Nat) (cA : ClassId) : vp_cell cA (n, .inr (.inl (fun _ => 0))) = arrV cA n (fun _ => defaultValue .long) := rfl
theorem pm_innerI (n : Nat) (c : ClassId) : Jvm.Free.Multi.innerC c n (defaultValue .int) = vp_cell c (n, .inl (fun _ => 0)) := by
  rw [vp_cell_i]
  show ({ cls := c, slots := Array.replicate n _, vm := .none } : Cell) = _
  rw [arrV_new]
  rfl
theorem pm_innerJ (n : Nat) (c : ClassId) : Jvm.Free.Multi.innerC c n (defaultValue .long) = vp_cell c (n, .inr (.inl (fun _ => 0))) := by
  rw [vp_cell_l]
  show ({ cls := c, slots := Array.replicate n _, vm := .none } : Cell) = _
  rw [arrV_new]
  rfl
theorem pm_bytesI {n : Nat} (h : n ≤ 1000000) : n * componentBytes .int ≤ 536870912 := by
  have : componentBytes .int = 4 := by decide
  rw [this]; omega
theorem pm_bytesJ {n : Nat} (h : n ≤ 1000000) : n * componentBytes .long ≤ 536870912 := by
  have : componentBytes .long = 8 := by decide
  rw [this]; omega
theorem pm_sameA {D : va_G} {cl : List vw_C} {s : State} {G : pm_G} {cA : ClassId} {ty : FieldType} (hK : va_K D cl (pm_tys G) s) (hK1 : va_K D cl (pm_tys G ++ [(cA, ty)]) s) (i : Nat) {cB : ClassId} (hi : (pm_tys G)[i]? = some (cB, ty)) (hty : (∀ C, ty ≠ .object C) := by intro C h; cases h) : cA = cB := by
  have h1 := (hK.2 i _ hi).2
  have h2 := (hK1.2 4 (cA, ty) rfl).2
  cases ty with
  | object C => exact absurd rfl (hty C)
  | _ => exact Option.some.inj (h2.symm.trans h1)
theorem pm_nameI {D : va_G} {cl : List vw_C} {s : State} {G : pm_G} (hK : va_K D cl (pm_tys G) s) : s.vm.findClass (FieldType.array .int).toString = some (pm_gI G) := (hK.2 0 _ rfl).2
theorem pm_nameJ {D : va_G} {cl : List vw_C} {s : State} {G : pm_G} (hK : va_K D cl (pm_tys G) s) : s.vm.findClass (FieldType.array .long).toString = some (pm_gJ G) := (hK.2 1 _ rfl).2
theorem pm_nar {ty : FieldType} {v : Int32} (h : ty = .int ∨ (ty = .boolean ∧ (v = 0 ∨ v = 1))) : narrow ty (.int v) = .int v := by
  rcases h with rfl | ⟨rfl, rfl | rfl⟩ <;> first | rfl | decide
theorem pm_fit {ty : FieldType} {v : Int32} (h : ty = .int ∨ (ty = .boolean ∧ (v = 0 ∨ v = 1))) : fits ty (.int v) = true := by
  rcases h with rfl | ⟨rfl, rfl | rfl⟩ <;> first | rfl | decide
theorem pm_narR {ty : FieldType} {a : Nat} (h : ty.isReference = true) : narrow ty (.ref a) = .ref a := by
  cases ty <;> first | rfl | cases h
theorem pm_fitR {ty : FieldType} {a : Nat} (h : ty.isReference = true) : fits ty (.ref a) = true := by
  cases ty <;> first | rfl | cases h
theorem pm_ofNat {L : Nat} (h : L < 2 ^ 31) : (Int32.ofNat L).toNatClampNeg = L := by
  have := nI_clamp (n := L) h
  exact this
/-- arrays over arrays of t are in the tables -/
abbrev pm_ao (t : FieldType) (U : State) : Prop := va_AOA t U
theorem pm_ao_moved {t : FieldType} {u U : State} (hvm : u.vm.Alike U.vm) (h : pm_ao t u) : pm_ao t U := by
  unfold pm_ao va_AOA at h ⊢
  simp only [Cond.before, Cond.holds, Cond.value] at h ⊢
  rw [hvm.findClass]
  cases hf : u.vm.findClass (FieldType.array t).toString with
  | none => rw [hf] at h; simp at h
  | some comp =>
    rw [hf] at h
    simp only [Option.bind_some] at h ⊢
    rw [hvm.findIdx_congr _ (fun _ _ _ _ => rfl)]
    generalize hF : (u.vm.classes.findIdx? fun (x : Class) => match x.kind with | .array component _ => component == comp | _ => false) = fi at h ⊢
    cases fi with
    | none => simp at h
    | some c =>
      simp only [Option.bind_some] at h ⊢
      cases hk : u.vm.classes[c]? with
      | none => rw [hk] at h; simp at h
      | some k =>
        obtain ⟨k', hk', ek⟩ := hvm.2.2 _ _ hk
        rw [hk] at h
        rw [hk', hvm.findClass]
        have ekind : k'.kind = k.kind := by rw [ek]
        simp only [Option.map_some] at h ⊢
        rw [ekind]
        exact h
theorem pm_plrows {n : Nat} {r : Nat → Nat} {f : Nat → va_E} {e : va_E} : va_pl ([] ++ (List.range n).map r) (vr_up f ((List.range n).map r) e) = (List.range n).map (fun i => (r i, e)) := by
  rw [List.nil_append]
  unfold va_pl
  rw [List.map_map]
  refine List.map_congr_left (fun i hi => ?_)
  have hm : r i ∈ (List.range n).map r := List.mem_map.mpr ⟨i, hi, rfl⟩
  simp only [Function.comp_apply, vr_up, if_pos hm]
-- what is given around a frame
/-- where a static field of Throwable lies: its class's cell is none of A's -/
def pm_lay (n d : String) (A : Nat → Prop) (U : State) (H : Heap) : Prop := ∃ (c : ClassId) (k : Class) (i : Nat) (f : Field) (a : Nat) (cell : Cell), (U.vm.findClass pm_thr = some c ∧ U.fieldFound? pm_thr n d = some (c, k, i, f) ∧ f.isStatic = true ∧ k.statics = some a) ∧ (H[a]? = some cell ∧ cell.vm.isStatics = true ∧ cell.cls = c ∧ f.slot < cell.slots.size) ∧ k.staticTypes[f.slot]? = some f.type ∧ ¬ A a
def pm_zq (n d : String) (A : Nat → Prop) (U : State) (H : Heap) : Prop := va_Zq pm_thr n d A U H ∧ pm_lay n d A U H
theorem pm_zq_moved {n d : String} {A : Nat → Prop} {u U : State} {H : Heap} (hvm : u.vm.Alike U.vm) (h : pm_zq n d A u H) : pm_zq n d A U H := by
  refine ⟨va_Zq.moved hvm h.1, ?_⟩
  obtain ⟨-, c, k, i, f, a, cell, ⟨h1, h2, h3, h4⟩, h5, h6, h7⟩ := h
  obtain ⟨k', hi', he⟩ := State.fieldFound?_setVm hvm h2
  exact ⟨c, k', i, f, a, cell, ⟨by rw [hvm.findClass]; exact h1, hi', h3, by rw [he]; exact h4⟩, h5, by rw [he]; exact h6, h7⟩
theorem pm_zq_kept {n d : String} {A : Nat → Prop} {U : State} {H H1 : Heap} (h : pm_zq n d A U H) (hq : ∀ a : Nat, a < H.size → ¬ A a → H1[a]? = H[a]?) : pm_zq n d A U H1 := by
  refine ⟨h.1.kept hq, ?_⟩
  obtain ⟨-, c, k, i, f, a, cell, h1, ⟨h5, h5r⟩, h6, h7⟩ := h
  exact ⟨c, k, i, f, a, cell, h1, ⟨by rw [hq a (Array.getElem?_eq_some_iff.mp h5).1 h7]; exact h5, h5r⟩, h6, h7⟩
theorem pm_zq_narrow {n d : String} {A B : Nat → Prop} {U : State} {H : Heap} (h : pm_zq n d A U H) (hAB : ∀ q, B q → A q) : pm_zq n d B U H := by
  refine ⟨h.1.narrow hAB, ?_⟩
  obtain ⟨-, c, k, i, f, a, cell, h1, h5, h6, h7⟩ := h
  exact ⟨c, k, i, f, a, cell, h1, h5, h6, fun z => h7 (hAB _ z)⟩
theorem pm_zq_of {args : Array Value} {s : State} {n d : String} {A : Nat → Prop} (hl : (Cond.laysStatic pm_thr n d).before args s = true) (hini : (Cond.initialized pm_thr).before args s = true) (h : (Cond.isRef (.static pm_thr n d)).before args s = true) (hA : ∀ a : Nat, a < s.heap.size → ¬ A a) : pm_zq n d A s s.heap := by
  refine ⟨va_Zqof hl hini h hA, ?_⟩
  obtain ⟨c, k, i, f, a, cell, h1, h2, h3, h4, h5, h6, h7, h8, h9⟩ := Cond.laysStatic_spec hl
  exact ⟨c, k, i, f, a, cell, ⟨h1, h2, h3, h4⟩, ⟨h5, h6, h7, h8⟩, h9, hA a (Array.getElem?_eq_some_iff.mp h5).1⟩
theorem pm_zq_lays {n d : String} {A : Nat → Prop} {s : State} {args : Array Value} (h : pm_zq n d A s s.heap) : (Cond.laysStatic pm_thr n d).before args s = true := by
  obtain ⟨-, c, k, i, f, a, cell, ⟨h1, h2, h3, h4⟩, ⟨h5, h6, h7, h8⟩, h9, -⟩ := h
  show (Cond.laysStatic pm_thr n d).holds args s none s [] = true
  exact Cond.laysStatic_of h1 h2 h3 h4 h5 h6 h7 h8 h9
theorem pm_z_ref {n d : String} {v : Value} {A : Nat → Prop} {s : State} {args : Array Value} (h : va_Z pm_thr n d v A s s.heap) (hv : v = .null ∨ ∃ t, v = .ref t) : (Cond.isRef (.static pm_thr n d)).before args s = true := by
  obtain ⟨cf, kf, fi, f, a, cell, h1, h2, h3, h4, h5, h6, h7, -⟩ := h
  have he : (Term.static pm_thr n d).eval args s none [] s = some v := by
    simp [Term.eval, State.fieldNamed?, h1, h2, h4, h5, h6, h7]
  simp only [Cond.before, Cond.holds, Cond.value, he]
  rcases hv with rfl | ⟨t, rfl⟩ <;> simp
theorem pm_zq_ref {n d : String} {A : Nat → Prop} {s : State} {args : Array Value} (h : pm_zq n d A s s.heap) : (Cond.isRef (.static pm_thr n d)).before args s = true := by
  rcases h.1 with h | ⟨t, h⟩
  · exact pm_z_ref h (Or.inl rfl)
  · exact pm_z_ref h (Or.inr ⟨t, rfl⟩)
/-- the one call of a nest mate's private constructor -/
def pm_nest : Cond := .methodLinkNest "ElasticNets" 11 ⟨"ElasticNets$Design", "<init>", "()V"⟩ "ElasticNets"
def pm_env (D : va_G) (G : pm_G) (A : Nat → Prop) (U : State) : Prop := va_K D pm_vw (pm_tys G) U ∧ pm_zq "UNASSIGNED_STACK" "[Ljava/lang/StackTraceElement;" A U U.heap ∧ pm_zq "SUPPRESSED_SENTINEL" "Ljava/util/List;" A U U.heap ∧ (∀ q ∈ pm_strs, ∃ sa, vk_R q.1 q.2.1 q.2.2 sa U) ∧ (∀ q ∈ pm_ncs, va_Nc q.1 q.2 U) ∧ pm_ao .int U ∧ pm_ao .long U ∧ va_Nw pm_nest U
/-- how a method ends: by its answer, or thrown -/
def pm_XQ (below : List Frame) (XC : String → State → State → Prop) (s : State) (mc ms : Nat) (free : Addr → Prop) (E : String) : State → Prop := fun t => ∃ (q : Addr) (ce : Cell) (L : List Loc), t.status = .running ∧ Ended t below (.threw q) ∧ XC E s t ∧ t.heap[q]? = some ce ∧ ce.vm = .none ∧ s.vm.findClass E = some ce.cls ∧ s.WarmedH t.vm ∧ s.sameButNew ({ t with vm := s.vm } : State) L mc ms ∧ ∀ z ∈ L, free z.base
def pm_Q (below : List Frame) (Qc : Array Value → State → Outcome → State → Prop) (XC : String → State → State → Prop) (args : Array Value) (s : State) (mc ms : Nat) (free : Addr → Prop) (out : pm_O) : State → Prop := match out.1 with
  | .inl _ => MQ below Qc args s mc ms free
  | .inr E => pm_XQ below XC s mc ms free E
def pm_X (k : pm_M) (ad : Nat → Nat) (σ : pm_S) (s : State) (A : Nat → Prop) : Prop := (mY k).name = "law" → ∃ L : Nat, σ.2.2.1 1001 0 = Int32.ofNat L ∧ L < 2 ^ 31 ∧ va_X (ad 1000) L (σ.2.2.1 1000) s s.heap ∧ ad 1000 < s.heap.size ∧ ¬ A (ad 1000)
def pm_ctx (l : Launch) (D : va_G) (G : pm_G) (d : Nat) (k : pm_M) (p : Program) (R : Room) (s : State) (m : MethodId) (args : Array Value) (meth : Method) (c : Code) (A : Nat → Prop) : Prop :=
  p.tables.exec = Jvm.exec ∧ c.code = mB k ∧ meth.sig.returnType = mT k ∧ c.maxLocals = mL k ∧ s.vm.findClass (mY k).cls = some m.cls ∧ (∀ w ∈ lw_gw, w.before args s = true) ∧ meth.locks = false ∧ c.exceptionTable.toList = tableOf (mH k) ∧ (∀ q, s.heap.size ≤ q → A q) ∧ (d ≤ R.frames ∧ 35 * d ≤ R.locals ∧ mC k ≤ R.cells ∧ mS k ≤ R.slots) ∧ ((mY k).name = "<init>" → meth.name = "<init>") ∧ pm_env D G A s ∧ l.stackTraces = false
def pm_post (D : va_G) (G : pm_G) (A : Nat → Prop) (ad : Nat → Nat) (σ : pm_S) (ad' : Nat → Nat) (σ' : pm_S) (st t : State) : Prop := σ.1 ≤ σ'.1 ∧ pm_agree ad ad' σ.1 ∧ va_P D pm_vw (pm_ws G ad' σ') t.heap ∧ va_D A (pm_ws G ad' σ') ∧ va_F A st t ∧ pm_wf σ' ∧ ∀ c, 1000 ≤ c → σ'.2.2.1 c = σ.2.2.1 c
def pm_end (D : va_G) (G : pm_G) (A : Nat → Prop) (Qc : Array Value → State → Outcome → State → Prop) (XC : String → State → State → Prop) (args : Array Value) (s : State) (ad : Nat → Nat) (σ : pm_S) (out : pm_O) : Prop := match out.1 with
  | .inl r => ∀ (ad' : Nat → Nat) (t : State), pm_post D G A ad σ ad' out.2 s t → s.vm.Alike t.vm → Qc args s (.returned (r.map (pv ad'))) t
  | .inr E => ∀ (ad' : Nat → Nat) (t : State), pm_post D G A ad σ ad' out.2 s t → s.vm.Alike t.vm → XC E s t
def pm_sound (l : Launch) (D : va_G) (G : pm_G) : pm_R := fun d k pc ls st cu su σ out =>
  ∀ (p : Program) (e : Env) (R : Room) (s : State) (m : MethodId) (args : Array Value) (below : List Frame) (meth : Method) (c : Code) (H : Heap) (locs : List Loc) (A : Nat → Prop) (ad : Nat → Nat) (real : Array Slot) (Qc : Array Value → State → Outcome → State → Prop) (XC : String → State → State → Prop) (free : Addr → Prop),
    pm_ctx l D G d k p R s m args meth c A → pm_X k ad σ s A → pm_loc ad (mL k) ls real → va_P D pm_vw (pm_ws G ad σ) H → va_D A (pm_ws G ad σ) → va_S A s.heap H locs → pm_wf σ → (∀ q, A q → free q) → pm_end D G A Qc XC args s ad σ out →
    W p l e R s m args below meth c H locs cu su (pm_Q below Qc XC args s (mC k) (mS k) free out) (F0 m pc real (st.map (pv ad)))
section PME
variable {D : va_G} {G : pm_G} {A : Nat → Prop} {Qc : Array Value → State → Outcome → State → Prop} {XC : String → State → State → Prop} {args : Array Value} {s : State} {ad ad' : Nat → Nat} {σ σ' : pm_S} {out : pm_O} {k : pm_M} {b j n : Nat}
theorem pm_end_mono (h : ∀ (ad'' : Nat → Nat) (t : State), pm_post D G A ad' σ' ad'' out.2 s t → pm_post D G A ad σ ad'' out.2 s t) (hE : pm_end D G A Qc XC args s ad σ out) : pm_end D G A Qc XC args s ad' σ' out := by
  obtain ⟨o, σo⟩ := out
  cases o with
  | inl r => exact fun ad'' t hp hW => hE ad'' t (h ad'' t hp) hW
  | inr E => exact fun ad'' t hp hW => hE ad'' t (h ad'' t hp) hW
theorem pm_post_step (hn : σ.1 ≤ σ'.1) (hag : pm_agree ad ad' σ.1) (hhi : ∀ c, 1000 ≤ c → σ'.2.2.1 c = σ.2.2.1 c) {ad'' : Nat → Nat} {σ'' : pm_S} {st t : State} (h : pm_post D G A ad' σ' ad'' σ'' st t) : pm_post D G A ad σ ad'' σ'' st t :=
  ⟨Nat.le_trans hn h.1, fun i hi => (h.2.1 i (Nat.lt_of_lt_of_le hi hn)).trans (hag i hi), h.2.2.1, h.2.2.2.1, h.2.2.2.2.1, h.2.2.2.2.2.1, fun c hc => (h.2.2.2.2.2.2 c hc).trans (hhi c hc)⟩
theorem pm_end_call (hag : pm_agree ad ad' σ.1) (hn : σ.1 ≤ σ'.1) (hhi : ∀ c, 1000 ≤ c → σ'.2.2.1 c = σ.2.2.1 c) (hE : pm_end D G A Qc XC args s ad σ out) : pm_end D G A Qc XC args s ad' σ' out := pm_end_mono (fun _ _ h => pm_post_step hn hag hhi h) hE
theorem pm_agree_rf : pm_agree ad ad n := fun _ _ => rfl
theorem pm_hi_sI {v : Int32} (hwf : pm_wf σ) (hb : b < σ.1) : ∀ c, 1000 ≤ c → (pm_sI σ b j v).2.2.1 c = σ.2.2.1 c := fun c hc => by
  have h1 := hwf.1
  have : c ≠ b := by omega
  simp [pm_sI, pm_uI, this]
theorem pm_hi_sA {f : Nat → Int32} (hwf : pm_wf σ) (hb : b < σ.1) : ∀ c, 1000 ≤ c → (pm_sA σ b f).2.2.1 c = σ.2.2.1 c := fun c hc => by
  have h1 := hwf.1
  have : c ≠ b := by omega
  simp [pm_sA, pm_uA, this]
theorem pm_end_sI {v : Int32} (hwf : pm_wf σ) (hb : b < σ.1) (hE : pm_end D G A Qc XC args s ad σ out) : pm_end D G A Qc XC args s ad (pm_sI σ b j v) out := pm_end_call (σ := σ) pm_agree_rf (Nat.le_refl _) (pm_hi_sI hwf hb) hE
theorem pm_end_sA {f : Nat → Int32} (hwf : pm_wf σ) (hb : b < σ.1) (hE : pm_end D G A Qc XC args s ad σ out) : pm_end D G A Qc XC args s ad (pm_sA σ b f) out := pm_end_call (σ := σ) pm_agree_rf (Nat.le_refl _) (pm_hi_sA hwf hb) hE
theorem pm_end_sJ {v : Int64} (hE : pm_end D G A Qc XC args s ad σ out) : pm_end D G A Qc XC args s ad (pm_sJ σ b j v) out := pm_end_call (σ := σ) pm_agree_rf (Nat.le_refl _) (fun _ _ => rfl) hE
theorem pm_end_sP {v : Option Nat} (hE : pm_end D G A Qc XC args s ad σ out) : pm_end D G A Qc XC args s ad (pm_sP σ b j v) out := pm_end_call (σ := σ) pm_agree_rf (Nat.le_refl _) (fun _ _ => rfl) hE
theorem pm_end_new (hag : pm_agree ad ad' σ.1) (hE : pm_end D G A Qc XC args s ad σ out) : pm_end D G A Qc XC args s ad' (σ.1 + 1, σ.2) out := pm_end_call hag (Nat.le_succ _) (fun _ _ => rfl) hE
theorem pm_end_mna (hag : pm_agree ad ad' σ.1) (hE : pm_end D G A Qc XC args s ad σ out) : pm_end D G A Qc XC args s ad' (pm_mna σ n) out := pm_end_call hag (show σ.1 ≤ σ.1 + 1 + n by omega) (fun _ _ => rfl) hE
theorem pm_X_mono (h1 : ad' 1000 = ad 1000) (hhi : ∀ c, 1000 ≤ c → σ'.2.2.1 c = σ.2.2.1 c) (h : pm_X k ad σ s A) : pm_X k ad' σ' s A := by
  intro hk
  obtain ⟨L, e1, e2, e3, e4, e5⟩ := h hk
  refine ⟨L, by rw [hhi 1001 (by omega)]; exact e1, e2, ?_, by rw [h1]; exact e4, by rw [h1]; exact e5⟩
  rw [hhi 1000 (Nat.le_refl _), h1]
  exact e3
theorem pm_X_sI {v : Int32} (hwf : pm_wf σ) (hb : b < σ.1) (h : pm_X k ad σ s A) : pm_X k ad (pm_sI σ b j v) s A := pm_X_mono rfl (pm_hi_sI hwf hb) h
theorem pm_X_sA {f : Nat → Int32} (hwf : pm_wf σ) (hb : b < σ.1) (h : pm_X k ad σ s A) : pm_X k ad (pm_sA σ b f) s A := pm_X_mono rfl (pm_hi_sA hwf hb) h
theorem pm_X_sJ {v : Int64} (h : pm_X k ad σ s A) : pm_X k ad (pm_sJ σ b j v) s A := pm_X_mono rfl (fun _ _ => rfl) h
theorem pm_X_sP {v : Option Nat} (h : pm_X k ad σ s A) : pm_X k ad (pm_sP σ b j v) s A := pm_X_mono rfl (fun _ _ => rfl) h
theorem pm_X_new {q : Nat} (hm : σ.1 + 1 ≤ 1000) (h : pm_X k ad σ s A) : pm_X k (pm_ext ad σ.1 q) (σ.1 + 1, σ.2) s A := pm_X_mono (by simp only [pm_ext]; rw [if_neg (by omega)]) (fun _ _ => rfl) h
theorem pm_X_mna {q : Nat} {r : Nat → Nat} (hm : σ.1 + 1 + n ≤ 1000) (h : pm_X k ad σ s A) : pm_X k (pm_extR ad σ.1 q r) (pm_mna σ n) s A := pm_X_mono (by simp only [pm_extR]; rw [if_neg (by omega), if_neg (by omega), if_neg (by omega)]) (fun _ _ => rfl) h
theorem pm_X_call (hwf1 : pm_wf σ') (hup : ∀ i, σ'.1 ≤ i → ad' i = ad i) (hhi : ∀ c, 1000 ≤ c → σ'.2.2.1 c = σ.2.2.1 c) (h : pm_X k ad σ s A) : pm_X k ad' σ' s A := pm_X_mono (hup 1000 hwf1.1) hhi h
theorem pm_post_rf {H : Heap} {locs : List Loc} {t : State} (hP : va_P D pm_vw (pm_ws G ad σ) H) (hD : va_D A (pm_ws G ad σ)) (hS : va_S A s.heap H locs) (hwf : pm_wf σ) (ht : t.heap = H) : pm_post D G A ad σ ad σ s t :=
  ⟨Nat.le_refl _, pm_agree_rf, by rw [ht]; exact hP, hD, hS.F ht, hwf, fun _ _ => rfl⟩
theorem pm_post_thrown {H : Heap} {locs : List Loc} {t : State} (hP : va_P D pm_vw (pm_ws G ad σ) H) (hD : va_D A (pm_ws G ad σ)) (hS : va_S A s.heap H locs) (hwf : pm_wf σ) (hz : H.size ≤ t.heap.size) (hq : ∀ q : Nat, q < H.size → t.heap[q]? = H[q]?) : pm_post D G A ad σ ad σ s t :=
  ⟨Nat.le_refl _, pm_agree_rf, hP.kept (fun k x hx => hq x.1 ((hP k x hx).lt)), hD, ⟨Nat.le_trans hS.1 hz, fun q h1 h2 => (hq q (Nat.lt_of_lt_of_le h1 hS.1)).trans (hS.2.1 q h1 h2)⟩, hwf, fun _ _ => rfl⟩
theorem pm_A1 {H : Heap} {locs : List Loc} (hD : va_D A (pm_ws G ad σ)) (hS : va_S A s.heap H locs) (hA : ∀ q, s.heap.size ≤ q → A q) : ∀ q, va_A (pm_ws G ad σ) H.size q → A q := by
  intro q h
  rcases h with ⟨k, e, h⟩ | h
  · exact hD.2 k (q, e) h
  · exact hA q (Nat.le_trans hS.1 h)
theorem pm_env_at {H : Heap} {locs : List Loc} {A1 : Nat → Prop} {U : State} (hV : pm_env D G A s) (hS : va_S A s.heap H locs) (hA1 : ∀ q, A1 q → A q) (hU : U.heap = H) (hW : s.WarmedH U.vm) : pm_env D G A1 U := by
  obtain ⟨h1, h2, h3, h4, h5, h6, h7, h8⟩ := hV
  refine ⟨va_K.moved hW.alike h1, ?_, ?_, fun q hq => ?_, fun q hq => va_Nc.moved hW.alike (h5 q hq), pm_ao_moved hW.alike h6, pm_ao_moved hW.alike h7, va_Nw.warmM hW h8⟩
  · rw [hU]; exact pm_zq_narrow (pm_zq_moved hW.alike (pm_zq_kept h2 hS.2.1)) hA1
  · rw [hU]; exact pm_zq_narrow (pm_zq_moved hW.alike (pm_zq_kept h3 hS.2.1)) hA1
  · obtain ⟨sa, hsa⟩ := h4 q hq
    exact ⟨sa, hsa.warm hW⟩
/-- a callee's start -/
def pm_pre0 (D : va_G) (G : pm_G) (ad : Nat → Nat) (σ : pm_S) (sz : Nat) (U : State) : Prop := U.heap.size = sz ∧ va_P D pm_vw (pm_ws G ad σ) U.heap ∧ va_D (va_A (pm_ws G ad σ) sz) (pm_ws G ad σ) ∧ pm_env D G (va_A (pm_ws G ad σ) sz) U
theorem pm_prep {H : Heap} {locs : List Loc} {U : State} {av : List Value} (hP : va_P D pm_vw (pm_ws G ad σ) H) (hD : va_D A (pm_ws G ad σ)) (hS : va_S A s.heap H locs) (hV : pm_env D G A s) (hA1 : ∀ q, va_A (pm_ws G ad σ) H.size q → A q) (hU : U.heap = H) (hW : s.WarmedH U.vm) : va_Pc av (pm_pre0 D G ad σ H.size) av.toArray U :=
  ⟨rfl, by rw [hU], by rw [hU]; exact hP, hD.self, pm_env_at hV hS hA1 hU hW⟩
theorem pm_blind {av : List Value} {sz : Nat} : FrameBlind (va_Pc av (pm_pre0 D G ad σ sz)) := by
  intro a U g mk h
  obtain ⟨h0, h1, h2, h3, h4, h5, h6, h7, h8, h9, h10, h11⟩ := h
  refine ⟨h0, h1, h2, h3, va_K.moved (u := U) (U := U.calling g mk a) (Vm.Alike.refl U.vm) h4, pm_zq_moved (u := U) (U := U.calling g mk a) (Vm.Alike.refl U.vm) h5, pm_zq_moved (u := U) (U := U.calling g mk a) (Vm.Alike.refl U.vm) h6, fun q hq => ?_, fun q hq => va_Nc.moved (u := U) (U := U.calling g mk a) (Vm.Alike.refl U.vm) (h8 q hq), pm_ao_moved (u := U) (U := U.calling g mk a) (Vm.Alike.refl U.vm) h9, pm_ao_moved (u := U) (U := U.calling g mk a) (Vm.Alike.refl U.vm) h10, va_Nw.same (u := U) (U := U.calling g mk a) rfl rfl h11⟩
  obtain ⟨sa, hsa⟩ := h7 q hq
  exact ⟨sa, vk_R.same (u := U) rfl hsa⟩
def pm_Qn (D : va_G) (G : pm_G) (A : Nat → Prop) (ad : Nat → Nat) (σ : pm_S) (out : pm_O) : Array Value → State → Outcome → State → Prop := fun _ st o t => match out.1 with
  | .inl r => ∃ ad' : Nat → Nat, o = .returned (r.map (pv ad')) ∧ pm_post D G A ad σ ad' out.2 st t
  | .inr _ => False
def pm_Qx (D : va_G) (G : pm_G) (A : Nat → Prop) (ad : Nat → Nat) (σ : pm_S) (out : pm_O) : String → State → State → Prop := fun E st t => match out.1 with
  | .inl _ => False
  | .inr E' => E = E' ∧ ∃ ad' : Nat → Nat, pm_post D G A ad σ ad' out.2 st t
theorem pm_end_Q : pm_end D G A (pm_Qn D G A ad σ out) (pm_Qx D G A ad σ out) args s ad σ out := by
  obtain ⟨o, σo⟩ := out
  cases o with
  | inl r => exact fun ad' t h _ => ⟨ad', rfl, h⟩
  | inr E => exact fun ad' t h _ => ⟨rfl, ad', h⟩
end PME
-- entry
def pm_en (As : List Value) (n : Nat) : List (Option Value) := As.map some ++ List.replicate (n - As.length) none
def pm_cat1 (As : List Value) : Bool := As.all fun v => decide (v.category = 1)
theorem pm_sl1 : ∀ (vs : List Value), (∀ v ∈ vs, v.category = 1) → (lg_sl vs).length = vs.length
  | [], _ => rfl
  | v :: vs, h => by
    have h1 := h v List.mem_cons_self
    have h2 := pm_sl1 vs (fun w hw => h w (List.mem_cons_of_mem _ hw))
    unfold lg_sl at h2 ⊢
    rw [List.flatMap_cons, List.length_append, h2, if_neg (by omega)]
    simp
    omega
theorem pm_args1 : ∀ (vs : List Value) (i : Nat), (∀ v ∈ vs, v.category = 1) → ∀ (j : Nat) (v : Value), vs[j]? = some v → (i + j, v) ∈ lv_args i vs
  | [], _, _, j, v, h => by simp at h
  | w :: vs, i, hc, j, v, h => by
    have h1 := hc w List.mem_cons_self
    unfold lv_args
    rw [if_neg (by omega)]
    cases j with
    | zero =>
      rw [List.getElem?_cons_zero] at h
      cases h
      exact List.mem_cons_self
    | succ j =>
      rw [List.getElem?_cons_succ] at h
      refine List.mem_cons_of_mem _ ?_
      have := pm_args1 vs (i + 1) (fun w hw => hc w (List.mem_cons_of_mem _ hw)) j v h
      rw [show i + (j + 1) = i + 1 + j by omega]
      exact this
theorem pm_en_loc {ad : Nat → Nat} {As : List Value} {n : Nat} (hc : pm_cat1 As = true) (hn : As.length ≤ n) : pm_loc ad n (pm_en As n) ((lg_sl (As.map (pv ad)) ++ List.replicate (n - (lg_sl (As.map (pv ad))).length) Slot.unset).toArray) := by
  have hc1 : ∀ v ∈ As.map (pv ad), v.category = 1 := by
    intro v hv
    obtain ⟨u, hu, rfl⟩ := List.mem_map.mp hv
    rw [pm_cat]
    simp only [pm_cat1, List.all_eq_true, decide_eq_true_eq] at hc
    exact hc u hu
  have hl := lv_entry (As.map (pv ad)) (n := n) (by rw [pm_sl1 _ hc1, List.length_map]; exact hn)
  refine ⟨by simp [pm_en]; omega, hl.1, hl.2.1, ?_⟩
  rintro ⟨j, w⟩ hq
  obtain ⟨u, hu, rfl⟩ := pm_lv_iff.mp hq
  refine hl.2.2 (j, pv ad u) ?_
  have hj : (As.map (pv ad))[j]? = some (pv ad u) := by
    unfold pm_en at hu
    by_cases h : j < As.length
    · rw [List.getElem?_append_left (by simpa using h), List.getElem?_map] at hu
      rw [List.getElem?_map]
      cases ha : As[j]? with
      | none => rw [ha] at hu; cases hu
      | some x => rw [ha] at hu; cases hu; rfl
    · rw [List.getElem?_append_right (by simpa using h), List.getElem?_replicate] at hu
      split at hu <;> cases hu
  have := pm_args1 (As.map (pv ad)) 0 hc1 j _ hj
  rw [Nat.zero_add] at this
  exact this
def pm_ok (k : pm_M) : Prop := mH k = [] ∧ plainName (mY k).cls = true ∧ ((mY k).cls ≠ "java/lang/invoke/MethodHandle" ∧ (mY k).cls ≠ "java/lang/invoke/VarHandle") ∧ Cond.code (mY k) (mB k) (mL k) (mT k) ∈ lw_gw ∧ mL k ≤ 16 ∧ (mY k).name ≠ "law"
def pm_okH (k : pm_M) : Prop := plainName (mY k).cls = true ∧ ((mY k).cls ≠ "java/lang/invoke/MethodHandle" ∧ (mY k).cls ≠ "java/lang/invoke/VarHandle") ∧ Cond.codeWith (mY k) (mB k) (mL k) (mT k) (mH k) ∈ lw_gw ∧ mL k ≤ 16 ∧ (mY k).name ≠ "law"
def pm_np (y : MethodName) (n : Nat) : Prop := (parseMethodDescriptor y.desc).map (fun d => d.parameters.length) = some n
def pm_vl (own : String) (idx : Nat) (y : MethodName) : Prop := Cond.methodLink own idx y ∈ lw_gw ∧ Cond.instanceMethod y ∈ lw_gw ∧ Cond.selects y.cls y y ∈ lw_gw ∧ Cond.initialized y.cls ∈ lw_gw
def pm_sl (own : String) (idx : Nat) (y : MethodName) : Prop := Cond.methodLink own idx y ∈ lw_gw ∧ Cond.static y ∈ lw_gw ∧ Cond.initialized y.cls ∈ lw_gw
def pm_il (own : String) (idx : Nat) (y : MethodName) : Prop := Cond.methodLink own idx y ∈ lw_gw ∧ Cond.instanceMethod y ∈ lw_gw ∧ Cond.initialized y.cls ∈ lw_gw ∧ y.name = "<init>"
def pm_wsm (k : pm_M) : List Cond := Cond.code (mY k) (mB k) (mL k) (mT k) :: lw_gw
def pm_wsH (k : pm_M) : List Cond := Cond.codeWith (mY k) (mB k) (mL k) (mT k) (mH k) :: lw_gw
def pm_rm (d : Nat) (k : pm_M) : Room := { frames := d, cells := mC k, slots := mS k, locals := 35 * d }
theorem pm_gw_good : GoodIn lw_gw lw_gw := fun w hw => ⟨hw, good_of_word (List.mem_filter.mp hw).2⟩
theorem pm_good {k : pm_M} (h : Cond.code (mY k) (mB k) (mL k) (mT k) ∈ lw_gw) : GoodIn lw_gw (pm_wsm k) := fun w hw => pm_gw_good w (by
  rcases List.mem_cons.mp hw with rfl | h1
  · exact h
  · exact h1)
theorem pm_goodH {k : pm_M} (h : Cond.codeWith (mY k) (mB k) (mL k) (mT k) (mH k) ∈ lw_gw) : GoodIn lw_gw (pm_wsH k) := fun w hw => pm_gw_good w (by
  rcases List.mem_cons.mp hw with rfl | h1
  · exact h
  · exact h1)
section PMC
variable {l : Launch} {D : va_G} {G : pm_G} {d : Nat} {k k2 : pm_M} {R : Room} {s : State} {args : Array Value} {idx n : Nat} {C : String}
theorem pm_room (hR : d + 1 ≤ R.frames ∧ 35 * (d + 1) ≤ R.locals ∧ mC k ≤ R.cells ∧ mS k ≤ R.slots) (hl : mL k2 ≤ 16) : (pm_rm d k2).frames + 1 ≤ R.frames ∧ 8 + (mL k2 + 11) + (pm_rm d k2).locals ≤ R.locals := by
  constructor
  · show d + 1 ≤ _
    omega
  · show 8 + (mL k2 + 11) + 35 * d ≤ _
    omega
theorem pm_cwV (hts : ∀ w ∈ lw_gw, w.before args s = true) (hR : d + 1 ≤ R.frames ∧ 35 * (d + 1) ≤ R.locals ∧ mC k ≤ R.cells ∧ mS k ≤ R.slots) (hok : pm_ok k2) (hv : pm_vl (mY k).cls idx (mY k2)) (hn : pm_np (mY k2) n) (hC : (mY k2).cls = C) :
    CallW R s args (mY k).cls C idx (mY k2) (mB k2) (mL k2) (mT k2) (pm_wsm k2) (pm_rm d k2) (mC k2) (mS k2) n := by
  subst hC
  obtain ⟨-, -, h2, h3, h4, -⟩ := hok
  exact ⟨callB_of n hts (pm_good h3) rfl rfl rfl (hts _ hv.2.2.2) (hts _ hv.1) ⟨h2.1, h2.2, hn⟩ (pm_room hR h4), hts _ hv.2.1, hts _ hv.2.2.1⟩
theorem pm_cwS (hts : ∀ w ∈ lw_gw, w.before args s = true) (hR : d + 1 ≤ R.frames ∧ 35 * (d + 1) ≤ R.locals ∧ mC k ≤ R.cells ∧ mS k ≤ R.slots) (hok : pm_ok k2) (hv : pm_sl (mY k).cls idx (mY k2)) (hn : pm_np (mY k2) n) :
    CallB R s args (mY k).cls idx (mY k2) (mB k2) (mL k2) (mT k2) (pm_wsm k2) (pm_rm d k2) (mC k2) (mS k2) n ∧ (Cond.static (mY k2)).before args s = true := by
  obtain ⟨-, -, h2, h3, h4, -⟩ := hok
  exact ⟨callB_of n hts (pm_good h3) rfl rfl rfl (hts _ hv.2.2) (hts _ hv.1) ⟨h2.1, h2.2, hn⟩ (pm_room hR h4), hts _ hv.2.1⟩
theorem pm_cwI (hts : ∀ w ∈ lw_gw, w.before args s = true) (hR : d + 1 ≤ R.frames ∧ 35 * (d + 1) ≤ R.locals ∧ mC k ≤ R.cells ∧ mS k ≤ R.slots) (hok : pm_ok k2) (hv : pm_il (mY k).cls idx (mY k2)) (hn : pm_np (mY k2) n) (hT : mT k2 = none) :
    CallB R s args (mY k).cls idx (mY k2) (mB k2) (mL k2) none (pm_wsm k2) (pm_rm d k2) (mC k2) (mS k2) n ∧ (mY k2).name = "<init>" ∧ (Cond.instanceMethod (mY k2)).before args s = true := by
  obtain ⟨-, -, h2, h3, h4, -⟩ := hok
  exact ⟨callB_of n hts (pm_good h3) (by unfold pm_wsm; rw [hT]) rfl rfl (hts _ hv.2.2.1) (hts _ hv.1) ⟨h2.1, h2.2, hn⟩ (pm_room hR h4), hv.2.2.2, hts _ hv.2.1⟩
theorem pm_met {As : List Value} {σ σ2 : pm_S} {r : Option Value} {ad : Nat → Nat} (sz : Nat) (hok : pm_ok k2) (hlt : l.stackTraces = false) (hlen : As.length ≤ mL k2) (hcat : pm_cat1 As = true) (hwf : pm_wf σ) (h : pm_sound l D G d k2 0 (pm_en As (mL k2)) [] 0 0 σ (.inl r, σ2)) :
    Met l (mY k2) (pm_wsm k2) (pm_rm d k2) (va_Pc (As.map (pv ad)) (pm_pre0 D G ad σ sz)) (pm_Qn D G (va_A (pm_ws G ad σ) sz) ad σ (.inl r, σ2)) (mC k2) (mS k2) (va_A (pm_ws G ad σ) sz) := by
  obtain ⟨g1, g2, g3, g4, g5, g6⟩ := hok
  refine Met.ofW (cc := mB k2) (maxL := mL k2) (ret := mT k2) g2 rfl ?_
  intro p e s m args below meth c s₁ B hml hv
  obtain ⟨rfl, hsz, hP, hD, hV⟩ := hv
  have hts := atoms_spec (ws := pm_wsm k2) B.pre
  have hown : s.vm.findClass (mY k2).cls = some m.cls := findClass_of_methodNamed B.named
  have hex : c.exceptionTable.toList = tableOf (mH k2) := by
    obtain ⟨meth9, c9, h1, h2, -, -, -, -, h7, -⟩ := Cond.code_spec B.named (hts _ List.mem_cons_self)
    cases Option.some.inj (h1.symm.trans B.method)
    cases Option.some.inj (h2.symm.trans (Stand.of_body B).code)
    rw [Array.isEmpty_iff.mp h7, g1]
    rfl
  subst hsz
  rw [lg_entry_eq]
  exact h p e _ s m _ below meth c s.heap [] (va_A (pm_ws G ad σ) s.heap.size) ad _ _ (pm_Qx D G (va_A (pm_ws G ad σ) s.heap.size) ad σ (.inl r, σ2)) _ ⟨B.exec, B.bytes, B.returns, hml, hown, fun w hw => hts w (List.mem_cons_of_mem _ hw), B.notSynchronized, hex, fun q hq => Or.inr hq, ⟨Nat.le_refl _, Nat.le_refl _, Nat.le_refl _, Nat.le_refl _⟩, fun z => (name_of_methodNamed B.named B.method).1.trans z, hV, hlt⟩ (fun z => absurd z g6) (pm_en_loc hcat hlen) hP hD va_S.rf hwf (fun _ z => z) pm_end_Q
/-- the addresses behind a call: those that it gave as far as cells go -/
def pm_cut (ad ad' : Nat → Nat) (n : Nat) : Nat → Nat := fun i => if i < n then ad' i else ad i
theorem pm_cut_lo {ad ad' : Nat → Nat} {n : Nat} : pm_agree ad' (pm_cut ad ad' n) n := fun i hi => by simp [pm_cut, hi]
variable {p : Program} {e : Env} {m : MethodId} {below : List Frame} {meth : Method} {c : Code} {H : Heap} {locs : List Loc} {cu su mc ms pc : Nat} {Q : State → Prop} {A : Nat → Prop} {ad : Nat → Nat} {real : Array Slot} {st0 rest : List Value} {σ σ2 : pm_S} {a : Array Value}
theorem pm_retW {r : Option Value} (hr : va_Run p l e R s m args below meth c H locs cu su mc ms (F0 m pc real st0) rest (pm_Qn D G (va_A (pm_ws G ad σ) H.size) ad σ (.inl r, σ2) a) (va_A (pm_ws G ad σ) H.size)) (hS : va_S A s.heap H locs) (hA1 : ∀ q, va_A (pm_ws G ad σ) H.size q → A q) (hnr : pm_lt 0 [] r.toList = true)
    (kk : ∀ (ad' : Nat → Nat) (H1 : Heap) (locs1 : List Loc), pm_agree ad ad' σ.1 → (∀ i, σ2.1 ≤ i → ad' i = ad i) → σ.1 ≤ σ2.1 → (∀ c, 1000 ≤ c → σ2.2.2.1 c = σ.2.2.1 c) → va_P D pm_vw (pm_ws G ad' σ2) H1 → va_D A (pm_ws G ad' σ2) → va_S A s.heap H1 locs1 → pm_wf σ2 → W p l e R s m args below meth c H1 locs1 (cu + mc) (su + ms) Q (F0 m (pc + 3) real ((r.map (pv ad')).toList ++ rest))) : W p l e R s m args below meth c H locs cu su Q (F0 m pc real st0) := by
  intro T hT X
  obtain ⟨v, st₀, t, T', L, h0, X', hL, e1, e2, ⟨ad', hv, q1, q2, q3, q4, q5, q6, q7⟩, st⟩ := hr T hT X
  cases hv
  obtain ⟨hz, hk⟩ := q5
  rw [h0] at hz hk
  have hcut : pm_agree ad' (pm_cut ad ad' σ2.1) σ2.1 := pm_cut_lo
  have hag : pm_agree ad (pm_cut ad ad' σ2.1) σ.1 := fun i hi => (hcut i (Nat.lt_of_lt_of_le hi q1)).trans (q2 i hi)
  have hS1 : va_S A s.heap T'.heap (locs ++ L) := ⟨Nat.le_trans hS.1 (by rw [e1]; exact hz), fun q h1 h2 => by rw [e1, hk q (Nat.lt_of_lt_of_le h1 hS.1) (fun z => h2 (hA1 q z))]; exact hS.2.1 q h1 h2, fun q hq => by
      rcases List.mem_append.mp hq with h | h
      · exact hS.2.2 q h
      · exact hA1 _ (hL q h)⟩
  obtain ⟨t2, a1, b1⟩ := kk (pm_cut ad ad' σ2.1) T'.heap (locs ++ L) hag (fun i hi => by simp [pm_cut, Nat.not_lt.mpr hi]) q1 q7 (by rw [e1, pm_ws_ad q6 hcut]; exact q3) (by rw [pm_ws_ad q6 hcut]; exact q4.weaken (fun _ q _ h => hA1 q.1 h)) hS1 q6 T' rfl X'
  rw [pm_nref (ad := ad') hnr] at a1
  exact ⟨t2, st t2 a1, b1⟩
theorem pm_aald {cc : ByteArray} {ws : va_W} {cl : List vw_C} {b1 nn : Nat} {tys : List (ClassId × FieldType)} {cA : ClassId} {f : Nat → Option Nat} {i : Int32} {v : Value} {ls : Array Slot} (hexec : p.tables.exec = Jvm.exec) (hb : c.code = cc) (hK : va_K D cl tys s) (hP : va_P D cl ws H) (q0 t0 : Nat) (ha : ws[q0]? = some (b1, .inl (cA, nn, .inr (.inr (.inr (.inr f)))))) {ty : FieldType} (ht : tys[t0]? = some (cA, ty)) (hty : ty.isReference = true) (hin : vp_in i nn) (hv : va_rf (f i.toNatClampNeg) = v) (hdg : decode cc pc = .ok (.aaload, 1))
    (kk : W p l e R s m args below meth c H locs cu su Q (F0 m (pc + 1) ls (v :: rest))) : W p l e R s m args below meth c H locs cu su Q (F0 m pc ls (.int i :: .ref b1 :: rest)) := by
  have hlt : i.toNatClampNeg < nn := Nat.not_le.mp fun q => hin (Or.inr q)
  subst hv
  exact W.aald (v := va_rf (f i.toNatClampNeg)) (ty := ty) hexec hb (hP q0 _ ha) ((hK.2 t0 _ ht).1 nn (fun j => va_rf (f j))) hty (fun q => by cases q) (by show ¬ (i < 0 ∨ (arrV _ _ _).slots.size ≤ _); rw [arrV_size]; exact hin) (by show (arrV _ _ _).slots[_]? = _; rw [arrV_read _ _ hlt]) rfl rfl hdg kk
end PMC
/-- who catches E, thrown at pc -/
def pm_hd (k : pm_M) (pc : Nat) (E : String) (hpc : Nat) : Prop := ∃ (pre : List ExceptionTableEntry) (x : ExceptionTableEntry) (suf : List ExceptionTableEntry), tableOf (mH k) = pre ++ x :: suf ∧ (∀ z ∈ pre, covers z pc = false ∨ (z.catchType ≠ 0 ∧ ∃ nm : String, Cond.classLink (mY k).cls z.catchType nm ∈ lw_gw ∧ (E, nm) ∈ pm_ncs)) ∧ covers x pc = true ∧ x.catchType ≠ 0 ∧ x.handlerPc = hpc ∧ ∃ nm : String, Cond.classLink (mY k).cls x.catchType nm ∈ lw_gw ∧ Cond.castable E nm ∈ lw_gw
end
section
-- exceptions: made, thrown, passed on, caught
section PMX
variable {p : Program} {l : Launch} {e : Env} {R : Room} {s : State} {m : MethodId} {args : Array Value} {below : List Frame} {meth : Method} {c : Code} {T : State} {locs : List Loc} {cells slots : Nat}
/-- the frame as it stands, taken as a fresh start: nothing written, nothing made yet -/
theorem pm_anew (X : Stand p l e R s m args below meth c T locs cells slots) {R' : Room} (hf : R'.frames ≤ R.frames) (hl : R'.locals ≤ R.locals) (hc : cells + R'.cells ≤ R.cells) (hs : slots + R'.slots ≤ R.slots) :
    Stand p l e R' ((T.setVm s.vm).setFrames (.invoking m args :: below)) m args below meth c T [] 0 0 := by
  obtain ⟨g₀, hfr⟩ := X.frames_eq
  have hfr' : (T.setVm s.vm).frames = .java g₀ :: below := hfr
  have hF : ((T.setVm s.vm).setFrames (.invoking m args :: below)).frames = .invoking m args :: below := State.frames_setFrames _ (State.cur_lt_of_frames hfr')
  have hlim : e.platform.stackLimits ((T.setVm s.vm).setFrames (.invoking m args :: below)).me = e.platform.stackLimits T.me := by
    rw [State.stackLimits_setFrames]; rfl
  have hby : ((T.setVm s.vm).setFrames (.invoking m args :: below)).me.stackBytes = T.me.stackBytes := by
    rw [State.stackBytes_setFrames]; rfl
  refine ⟨X.admits, X.cas, X.clock, hF, ?_, X.hears, X.method, X.code, X.here, X.tail, State.WarmedH.of_rootvm rfl X.warmed, hlim.symm, hby.symm, ?_⟩
  · have hroom := X.room
    have hb := X.book
    have h1 := X.heapSize
    have h2 := X.used
    have hli := State.localsInUse_invoking X.frames X.method X.code
    have hli' : ((T.setVm s.vm).setFrames (.invoking m args :: below)).localsInUse = _ := State.localsInUse_invoking hF X.method X.code
    simp only [State.hasRoom, Bool.and_eq_true, decide_eq_true_eq] at hroom ⊢
    rw [hF, hlim, hby, X.limits, X.bytes, hli']
    rw [X.frames, hli] at hroom
    obtain ⟨⟨⟨⟨a1, a2, a3, a4, a5, a6⟩, a7⟩, a8⟩, a9⟩ := hroom
    have hz : ((T.setVm s.vm).setFrames (.invoking m args :: below)).heap.size = T.heap.size := rfl
    have hu : ((T.setVm s.vm).setFrames (.invoking m args :: below)).slotsUsed = T.slotsUsed := rfl
    refine ⟨⟨⟨⟨?_, ?_, ?_, ?_, ?_, a6⟩, ?_⟩, ?_⟩, hb⟩
    · omega
    · omega
    · omega
    · omega
    · omega
    · rw [hz]; omega
    · rw [hu]; omega
  · obtain ⟨t, ht, -⟩ := State.frames_cons hfr'
    obtain ⟨t', ht', -⟩ := State.frames_cons hF
    have h := (State.sameButNew.refl ((T.setVm s.vm).setFrames (.invoking m args :: below)) ht').setFrames (.java g₀ :: below) (State.cur_lt_of_frames hF)
    rw [State.setFrames_setFrames, ← hfr', State.setFrames_self ht] at h
    exact h
/-- what isn't written stays whole -/
theorem pm_whole {s1 U : State} {k n : Nat} (h : s1.sameButNew ({ U with vm := s1.vm } : State) [] k n) : s1.heap.size ≤ U.heap.size ∧ ∀ q : Nat, q < s1.heap.size → U.heap[q]? = s1.heap[q]? := by
  obtain ⟨-, h2, -, -, -, h6⟩ := h
  refine ⟨h2, fun q hq => ?_⟩
  have hc : s1.heap[q]? = some s1.heap[q] := Array.getElem?_eq_getElem hq
  obtain ⟨c', g1, g2, g3, g4⟩ := h6 q _ hc
  have hs : c'.slots = s1.heap[q].slots := Array.ext_getElem? (fun i => g4 i (by simp))
  have g1 : U.heap[q]? = some c' := g1
  rw [g1, hc, g2, hs]
theorem pm_unframe {u v : State} {fs : List Frame} {L : List Loc} {k n : Nat} (h : (u.setFrames fs).sameButNew v L k n) : u.sameButNew v L k n := by
  obtain ⟨e1, r⟩ := h
  refine ⟨?_, r⟩
  rw [State.setFrames_setFrames] at e1
  exact e1
/-- the words that the tables alone don't decide -/
def pm_spec : List Cond := [.isRef (.static Bundle.tN "UNASSIGNED_STACK" Bundle.steD), .isRef (.static Bundle.tN "SUPPRESSED_SENTINEL" Bundle.listD), .laysStatic Bundle.tN "UNASSIGNED_STACK" Bundle.steD, .laysStatic Bundle.tN "SUPPRESSED_SENTINEL" Bundle.listD]
def pm_tw (own : String) (ik is ic : Nat) (E text : String) (nms : List String) : Prop := Bundle.fit E = true ∧ (∀ n ∈ nms, Bundle.fit n = true) ∧ Cond.classLink own ik E ∈ lw_gw ∧ Cond.initialized E ∈ lw_gw ∧ Cond.instantiable E 6 ∈ lw_gw ∧ (own, is, text) ∈ pm_strs ∧ ∀ w ∈ Bundle.ownAtoms own ic E nms, w ∈ lw_gw ∨ w ∈ pm_spec
/-- 'throw new E(text)': new; dup; ldc; invokespecial; athrow -/
theorem pm_threw {k : pm_M} {pc : Nat} {real : Array Slot} {rest : List Value} {E text : String} {nms : List String} {ik is ic sa : Nat} (X : Stand p l e R s m args below meth c T locs cells slots) (hexec : p.tables.exec = Jvm.exec) (hb : c.code = mB k) (hl : l.stackTraces = false)
    (hown : s.vm.findClass (mY k).cls = some m.cls) (hts : ∀ w ∈ lw_gw, w.before args s = true) (htw : pm_tw (mY k).cls ik is ic E text nms) (hsp : ∀ w ∈ pm_spec, w.before args ((T.setVm s.vm).setFrames (.invoking m args :: below)) = true) (hstr : vk_R (mY k).cls is text sa s)
    (hsize : real.size = c.maxLocals) (hout : ∀ x ∈ c.exceptionTable.toList, covers x (pc + 9) = false) (hlocks : meth.locks = false)
    (d0 : decode (mB k) pc = .ok (.new ik, 3)) (d3 : decode (mB k) (pc + 3) = .ok (.dup, 1)) (d4 : decode (mB k) (pc + 4) = .ok (.ldc is, 2)) (d6 : decode (mB k) (pc + 6) = .ok (.invokespecial ic, 3)) (d9 : decode (mB k) (pc + 9) = .ok (.athrow, 1))
    (hRf : nms.length + 3 < R.frames) (hRl : (rest.map fun v => v.category).sum + (13 * (nms.length + 1) + 43) ≤ R.locals) (hRc : cells + 1 ≤ R.cells) (hRs : slots + 6 ≤ R.slots) :
    ∃ (t : State) (ce : Cell), Steps p.tables e below (T.setTop (F0 m pc real rest)) t ∧ t.status = .running ∧ Ended t below (.threw T.heap.size) ∧ t.heap[T.heap.size]? = some ce ∧ ce.vm = .none ∧ s.vm.findClass E = some ce.cls ∧ s.WarmedH t.vm ∧ s.sameButNew ({ t with vm := s.vm } : State) locs (cells + 1) (slots + 6) ∧ T.heap.size ≤ t.heap.size ∧ ∀ q : Nat, q < T.heap.size → t.heap[q]? = T.heap[q]? := by
  obtain ⟨t1, t2, t3, t4, t5, t6, t7⟩ := htw
  have htr : e.platform.stackTraces = false := (show e.platform.stackTraces = l.stackTraces by rw [X.admits.platform]).trans hl
  have Y := pm_anew X (R' := { frames := R.frames, locals := R.locals, cells := 1, slots := 6 }) (Nat.le_refl _) (Nat.le_refl _) hRc hRs
  generalize hs1 : (T.setVm s.vm).setFrames (.invoking m args :: below) = s1 at Y hsp
  have hvm : s1.vm = s.vm := by rw [← hs1]; rfl
  have hhp : s1.heap = T.heap := by rw [← hs1]; rfl
  have hW1 : s.WarmedH s1.vm := by rw [hvm]; exact State.WarmedH.refl s
  have hts1 : ∀ w ∈ lw_gw, w.before args s1 = true := fun w hw => word_at hW1 (pm_gw_good w hw).2 (hts w hw)
  have hown1 : s1.vm.findClass (mY k).cls = some m.cls := by rw [hvm]; exact hown
  have hat : ∀ w ∈ Bundle.ownAtoms (mY k).cls ic E nms, w.before args s1 = true := fun w hw => (t7 w hw).elim (hts1 w) (hsp w)
  have hstr1 : vk_R (mY k).cls is text sa s1 := vk_R.same hvm hstr
  have K : W p l e { frames := R.frames, locals := R.locals, cells := 1, slots := 6 } s1 m args below meth c T.heap [] 0 0 (fun t => ∃ ce : Cell, t.status = .running ∧ Ended t below (.threw T.heap.size) ∧ t.heap[T.heap.size]? = some ce ∧ ce.vm = .none ∧ s1.vm.findClass E = some ce.cls ∧ s1.WarmedH t.vm ∧ s1.sameButNew ({ t with vm := s1.vm } : State) [] 1 6) (F0 m pc real rest) := by
    refine W.newc hexec hb hown1 (hts1 _ t3) (hts1 _ t5) (hts1 _ t4) rfl d0 (Nat.le_refl _) (Nat.le_refl _) (fun cC kC g1 g2 g3 g4 => ?_)
    refine lv_dup hexec hb d3 rfl ?_
    refine va_ldcS hexec hb hown1 hstr1 d4 ?_
    intro T2 hT2 X2
    have hcell : T2.heap[T.heap.size]? = some (freshCell cC kC) := by
      rw [hT2, Array.getElem?_push_size]
    obtain ⟨U, u1, u2, u3, u4, u5, ce, u6, u7⟩ := X2.ctorThrowS hexec htr hown1 t1 t2 hat (fun x hx => by cases hx) g1 g2 hcell (by rw [hhp]; exact Nat.le_refl _) (msg := .ref sa) rfl (g := F0 m (pc + 6) real (.ref sa :: .ref T.heap.size :: .ref T.heap.size :: rest)) rfl hsize rfl rfl rfl (by rw [hb]; exact d6) (by rw [hb]; exact d9) hout hRf (by show 2 * 0 + _ + _ ≤ _; simp only [List.map_cons, List.sum_cons]; rw [show (Value.ref T.heap.size).category = 1 from rfl]; omega) hlocks
    exact ⟨U, u1, ce, u2, u3, u6, u7.vm, u7.cls, u4, u5⟩
  obtain ⟨t, a1, ce, b1, b2, b3, b4, b5, b6, b7⟩ := K T rfl Y
  have hw := pm_whole b7
  rw [hhp] at hw
  rw [hvm] at b5 b7
  refine ⟨t, ce, a1, b1, b2, b3, b4, b5, State.WarmedH.of_rootvm hvm.symm b6, ?_, hw.1, hw.2⟩
  rw [← hs1] at b7
  have h2 := X.same.trans (pm_unframe b7)
  rw [List.append_nil] at h2
  exact h2
end PMX
end
section
section PMY
variable {p : Program} {l : Launch} {e : Env} {R : Room} {s : State} {m : MethodId} {args : Array Value} {below : List Frame} {meth : Method} {c : Code} {T : State} {locs : List Loc} {cells slots : Nat}
/-- what a callee that throws leaves behind -/
def pm_XR (D : va_G) (G : pm_G) (A1 : Nat → Prop) (ad : Nat → Nat) (σ σ2 : pm_S) (E : String) (mc ms : Nat) : Array Value → State → Outcome → State → Prop := fun _ st o t =>
  ∃ (q : Addr) (ce : Cell) (L : List Loc), o = .threw q ∧ (∃ ad' : Nat → Nat, pm_post D G A1 ad σ ad' σ2 st t) ∧ t.heap[q]? = some ce ∧ ce.vm = .none ∧ st.vm.findClass E = some ce.cls ∧ st.WarmedH t.vm ∧ st.sameButNew ({ t with vm := st.vm } : State) L mc ms ∧ ∀ z ∈ L, A1 z.base
theorem pm_metX {D : va_G} {G : pm_G} {d : Nat} {k2 : pm_M} {As : List Value} {σ σ2 : pm_S} {E : String} {ad : Nat → Nat} (sz : Nat) (hok : pm_ok k2) (hlt : l.stackTraces = false) (hlen : As.length ≤ mL k2) (hcat : pm_cat1 As = true) (hwf : pm_wf σ) (h : pm_sound l D G d k2 0 (pm_en As (mL k2)) [] 0 0 σ (.inr E, σ2)) :
    MetFree l (mY k2) (headSpec (pm_wsm k2) (pm_rm d k2)) (va_Pc (As.map (pv ad)) (pm_pre0 D G ad σ sz)) (fun _ _ _ _ _ => True) (pm_XR D G (va_A (pm_ws G ad σ) sz) ad σ σ2 E (mC k2) (mS k2)) := by
  obtain ⟨g1, g2, g3, g4, g5, g6⟩ := hok
  refine MetFree.of_bodyS (code := mB k2) (maxLocals := mL k2) (ret := mT k2) g2 ?_ ?_
  · intro args s m h hn
    obtain ⟨meth, c, h1, h2, h3, h4, h5, h6, -, -⟩ := Cond.code_spec hn (atoms_spec (ws := pm_wsm k2) h _ List.mem_cons_self)
    exact ⟨meth, c, h1, h2, h3, h4, h5, h6⟩
  · intro p e s m args below meth c s₁ B hml hv _
    have hh0 : s₁.heap = s.heap := by rw [B.state]; rfl
    obtain ⟨rfl, hsz, hP, hD, hV⟩ := hv
    have hts := atoms_spec (ws := pm_wsm k2) B.pre
    have hown : s.vm.findClass (mY k2).cls = some m.cls := findClass_of_methodNamed B.named
    have hex : c.exceptionTable.toList = tableOf (mH k2) := by
      obtain ⟨meth9, c9, h1, h2, -, -, -, -, h7, -⟩ := Cond.code_spec B.named (hts _ List.mem_cons_self)
      cases Option.some.inj (h1.symm.trans B.method)
      cases Option.some.inj (h2.symm.trans (Stand.of_body B).code)
      rw [Array.isEmpty_iff.mp h7, g1]
      rfl
    subst hsz
    have K : W p l e (headSpec (pm_wsm k2) (pm_rm d k2)).room s m (As.map (pv ad)).toArray below meth c s.heap [] 0 0 (pm_XQ below (pm_Qx D G (va_A (pm_ws G ad σ) s.heap.size) ad σ (.inr E, σ2)) s (mC k2) (mS k2) (va_A (pm_ws G ad σ) s.heap.size) E) (entryFrame m (As.map (pv ad)).toArray (mL k2)) := by
      rw [lg_entry_eq]
      exact h p e _ s m _ below meth c s.heap [] (va_A (pm_ws G ad σ) s.heap.size) ad _ (pm_Qn D G (va_A (pm_ws G ad σ) s.heap.size) ad σ (.inr E, σ2)) _ _ ⟨B.exec, B.bytes, B.returns, hml, hown, fun w hw => hts w (List.mem_cons_of_mem _ hw), B.notSynchronized, hex, fun q hq => Or.inr hq, ⟨Nat.le_refl _, Nat.le_refl _, Nat.le_refl _, Nat.le_refl _⟩, fun z => (name_of_methodNamed B.named B.method).1.trans z, hV, hlt⟩ (fun z => absurd z g6) (pm_en_loc hcat hlen) hP hD va_S.rf hwf (fun _ z => z) pm_end_Q
    obtain ⟨t, a1, q, ce, L, b1, b2, b3, b4, b5, b6, b7, b8, b9⟩ := K s₁ hh0 (Stand.of_body B)
    exact ⟨t, .threw q, a1, b1, b2, q, ce, L, rfl, b3.2, b4, b5, b6, b7, b8, b9⟩
/-- a call whose callee throws: the caller's frame, with what was thrown over it -/
theorem pm_backX {y : MethodName} {S : Spec} {P : Array Value → State → Prop} {Q : Array Value → State → Outcome → State → Prop} {len Wt mc ms maxL : Nat} {bytes : ByteArray} {ret : Option FieldType} {free : Addr → Prop} (hM : MetFree l y S P (fun _ _ _ _ _ => True) Q)
    (hframes : S.room.frames + 1 ≤ R.frames) (hlocals : Wt + (maxL + 11) + S.room.locals ≤ R.locals) {U : State} {Ls : List Loc} {c0 s0 : Nat} {g : JFrame} {ig : Instr} {mk : MethodId} {a : Array Value}
    (X : Stand p l e R s m args below meth c U Ls c0 s0) (hg : g.method = m) (hsize : g.locals.size = c.maxLocals) (hdg : decode c.code g.pc = .ok (ig, len)) (hW : 2 * g.monitorRoom + (g.stack.map fun v => v.category).sum ≤ Wt) (hn : U.methodNamed? y = some mk)
    (h1 : S.pre.before a U = true) (h2 : (Cond.code y bytes maxL ret).before a U = true) (h3 : (Cond.initialized y.cls).before a U = true) (h4 : c0 + S.room.cells ≤ R.cells) (h5 : s0 + S.room.slots ≤ R.slots) (hP : P a (U.calling g mk a))
    (hQ : ∀ o t, Q a (U.calling g mk a) o t → ∃ q L, o = .threw q ∧ (U.calling g mk a).WarmedH t.vm ∧ (U.calling g mk a).sameButNew ({ t with vm := (U.calling g mk a).vm } : State) L mc ms ∧ ∀ z ∈ L, free z.base) :
    ∃ (q : Addr) (t T' : State) (L : List Loc), Q a (U.calling g mk a) (.threw q) t ∧ Stand p l e R s m args below meth c T' (Ls ++ L) (c0 + mc) (s0 + ms) ∧ (∀ z ∈ L, free z.base) ∧ T'.heap = t.heap ∧ T'.vm = t.vm ∧ Steps p.tables e below (doInvoke e (U.setTop g) [] mk a).1 ((T'.setTop g).pushFrame (.throwing q)) := by
  obtain ⟨methY, cY, hmY, hcY, -, hlY, -, -, -, -⟩ := Cond.code_spec hn h2
  obtain ⟨kY, hkY, -⟩ := className_of_methodNamed hn
  have hinitY : kY.init = .initialized := Cond.initialized_spec (findClass_of_methodNamed hn) hkY h3
  have h : At U g.method c below := by rw [hg]; exact X.here
  have happ : S.appliesLoose y e.platform (U.calling g mk a) = true :=
    Spec.appliesLoose_calling (g := g) h hdg hn hkY hinitY
      (X.room_calling (g := g) (R' := S.room) hsize hmY hcY hframes (by rw [hlY]; omega) h4 h5) h1
  obtain ⟨mid, hmid⟩ := h.above
  have hfr : (U.setTop g).frames = (.java g :: mid) ++ below := by rw [State.frames_setTop' g h.top, hmid]; rfl
  obtain ⟨o, s₂, hsteps, -, hend, hq⟩ := Steps.callFree hM p X.admits X.cas X.clock (acts := []) hfr happ hP trivial
  have hq' : Q a (U.calling g mk a) o s₂ := hq
  obtain ⟨q, L, rfl, hW₂, hsm, hL⟩ := hQ _ _ hq'
  obtain ⟨e2, q2, q3, q4, q5, q6⟩ := id hsm
  have hf₂ : s₂.frames = .throwing q :: (U.setTop g).frames := hend
  have e3 : s₂ = ({ (U.calling g mk a).setFrames s₂.frames with heap := s₂.heap, slotsUsed := s₂.slotsUsed } : State).setVm s₂.vm := by
    have : s₂ = ({ s₂ with vm := (U.calling g mk a).vm } : State).setVm s₂.vm := rfl
    rw [e2] at this
    exact this
  have hW' : U.WarmedH s₂.vm := hW₂
  obtain ⟨g₀, hg0⟩ := Option.isSome_iff_exists.mp h.top
  obtain ⟨r, hr⟩ := State.topJava?_eq_some.mp hg0
  have hs₂ : s₂ = ((({ U with heap := s₂.heap, slotsUsed := s₂.slotsUsed } : State).setVm s₂.vm).setTop g).pushFrame (.throwing q) := by
    have hr' : (({ U with heap := s₂.heap, slotsUsed := s₂.slotsUsed } : State).setVm s₂.vm).frames = .java g₀ :: r := hr
    refine e3.trans ?_
    rw [hf₂, State.calling_eq h.top, State.setFrames_setFrames, State.pushFrame, State.frames_setTop _ hr', State.setTop_of_frames _ hr', State.setFrames_setFrames, State.frames_setTop _ hr]
    rfl
  have hsame : U.sameButNew ({ U with heap := s₂.heap, slotsUsed := s₂.slotsUsed } : State) L mc ms := by
    refine ⟨?_, q2, q3, q4, q5, q6⟩
    obtain ⟨t, ht, -⟩ := State.frames_cons hr
    show ({ U with heap := s₂.heap, slotsUsed := s₂.slotsUsed } : State) = { U.setFrames U.frames with heap := s₂.heap, slotsUsed := s₂.slotsUsed }
    rw [State.setFrames_self ht]
  subst hg
  refine ⟨q, s₂, (({ U with heap := s₂.heap, slotsUsed := s₂.slotsUsed } : State).setVm s₂.vm), L, hq',
    ⟨X.admits, X.cas, X.clock, X.frames, X.room, X.hears, X.method, X.code, (X.here.setHeapUsed s₂.heap s₂.slotsUsed).setVm hW'.alike, X.tail, State.WarmedH.trans X.warmed hW', X.limits, X.bytes, X.same.trans (hsame.setVm s.vm)⟩, hL, rfl, rfl, ?_⟩
  rw [← hs₂]
  exact hsteps
end PMY
end
section
section PMZ
variable {p : Program} {l : Launch} {e : Env} {R : Room} {s : State} {m : MethodId} {args : Array Value} {below : List Frame} {meth : Method} {c : Code} {H : Heap} {locs : List Loc} {cells slots : Nat}
variable {y : MethodName} {bytes cc : ByteArray} {maxL nL mc ms n index : Nat} {ret : Option FieldType} {ws : List Cond} {rm : Room} {Pc : Array Value → State → Prop} {QX : Array Value → State → Outcome → State → Prop} {free : Addr → Prop} {Ts : List Cond} {own C : String} {b : Addr} {As rest : List Value} {g : JFrame}
/-- a call that has thrown q -/
def pm_xRun (p : Program) (l : Launch) (e : Env) (R : Room) (s : State) (m : MethodId) (args : Array Value) (below : List Frame) (meth : Method) (c : Code) (H : Heap) (locs : List Loc) (cells slots mc ms : Nat) (g : JFrame) (rest : List Value) (Qa : State → Outcome → State → Prop) (free : Addr → Prop) : Prop :=
  ∀ T : State, T.heap = H → Stand p l e R s m args below meth c T locs cells slots → ∃ (q : Addr) (st₀ t T' : State) (L : List Loc), st₀.heap = H ∧ s.vm.Alike st₀.vm ∧ Stand p l e R s m args below meth c T' (locs ++ L) (cells + mc) (slots + ms) ∧ (∀ z ∈ L, free z.base) ∧ T'.heap = t.heap ∧ T'.vm = t.vm ∧ Qa st₀ (.threw q) t ∧
    Steps p.tables e below (T.setTop g) ((T'.setTop { g with stack := rest }).pushFrame (.throwing q))
theorem pm_runVX (S : CallFix p m c cc nL s args Ts own) (hM : MetFree l y (headSpec ws rm) Pc (fun _ _ _ _ _ => True) QX) (cw : CallW R s args own C index y bytes maxL ret ws rm mc ms n) (hp : PreV s H C b Pc As)
    (hQ : ∀ a st o t, QX a st o t → ∃ q L, o = .threw q ∧ st.WarmedH t.vm ∧ st.sameButNew ({ t with vm := st.vm } : State) L mc ms ∧ ∀ z ∈ L, free z.base)
    (hg : g.method = m) (hn : As.length = n) (hsize : g.locals.size = nL) (hstack : g.stack = As.reverse ++ .ref b :: rest) (hW : 2 * g.monitorRoom + (rest.map fun v => v.category).sum ≤ 8) (hdg : decode cc g.pc = .ok (.invokevirtual index, 3)) (hf : cells + mc ≤ R.cells ∧ slots + ms ≤ R.slots) :
    pm_xRun p l e R s m args below meth c H locs cells slots mc ms g rest (QX (Value.ref b :: As).toArray) free := by
  obtain ⟨⟨hrc, hrs, hfr, hlo, hws, hcw, hcode, hini, hy, hlen, hl⟩, hinst, hsel⟩ := cw
  obtain ⟨hx, hb, hml, ho, -⟩ := S
  obtain ⟨hbl, ⟨cellB, hcB, hoB, hclB⟩, hPc⟩ := hp
  intro T hT X
  subst hb
  obtain ⟨mk, methM, hnamed, hmethM, hstM, habM⟩ := Cond.instanceMethod_spec hinst
  obtain ⟨methM', cM, hmethM', -, -, -, -, -, -, hsigM⟩ := Cond.code_spec hnamed hcode
  cases hmethM.symm.trans hmethM'
  obtain ⟨c2, r2, m2, q1, q2, q3, q4, kP, hkP, hkPi⟩ := Cond.selects_spec hsel
  cases hclB.symm.trans q1
  cases (State.methodFound?_of_named hnamed hy).symm.trans q2
  cases hnamed.symm.trans q3
  have hselP : selectMethod e.platform s.vm cellB.cls mk = .method mk := by rw [Launch.admits_selectMethod X.admits]; exact q4
  obtain ⟨vm₁, X₁, hstep₁⟩ := X.invokevirtual hx ho hl hnamed hmethM hstM hkP hkPi hy (a := b) (cell := cellB) (by rw [hT]; exact hcB)
    (fun z h => by rw [h] at hoB; cases hoB) hselP hmethM habM hkP hkPi (g := g) hg (argsL := As) (rest := rest) (hn.trans (hlen _ hsigM)) hstack hdg
  obtain ⟨q, t, T', L, hq, X', hL, e1, e2, st⟩ := pm_backX (Wt := 8) (mc := mc) (ms := ms) (free := free) (bytes := bytes) (maxL := maxL) (ret := ret) hM hfr hlo X₁ (g := { g with stack := rest }) hg (hsize.trans hml.symm) hdg hW (X₁.named hnamed) (a := (Value.ref b :: As).toArray)
    (atoms_intro fun w hw => hws w hw _ _ X₁.warmed) (hws _ hcw _ _ X₁.warmed) (word_at X₁.warmed (Or.inl (by first | rfl | simp [Cond.onTables, Cond.keeps, Cond.steady])) hini) (by rw [show (headSpec ws rm).room.cells = mc from hrc]; exact hf.1) (by rw [show (headSpec ws rm).room.slots = ms from hrs]; exact hf.2)
    (hbl _ _ _ _ (hPc _ hT X₁.warmed)) (fun o t h => hQ _ _ o t h)
  exact ⟨q, (T.setVm vm₁).calling { g with stack := rest } mk (Value.ref b :: As).toArray, t, T', L, hT, X₁.warmed.alike, X', hL, e1, e2, hq, hstep₁ _ fun acts => by rw [doInvoke_state]; exact st⟩
theorem pm_runSX (S : CallFix p m c cc nL s args Ts own) (hM : MetFree l y (headSpec ws rm) Pc (fun _ _ _ _ _ => True) QX) (cw : CallB R s args own index y bytes maxL ret ws rm mc ms n ∧ (Cond.static y).before args s = true) (hp : PreS s H Pc As)
    (hQ : ∀ a st o t, QX a st o t → ∃ q L, o = .threw q ∧ st.WarmedH t.vm ∧ st.sameButNew ({ t with vm := st.vm } : State) L mc ms ∧ ∀ z ∈ L, free z.base)
    (hg : g.method = m) (hn : As.length = n) (hsize : g.locals.size = nL) (hstack : g.stack = As.reverse ++ rest) (hW : 2 * g.monitorRoom + (rest.map fun v => v.category).sum ≤ 8) (hdg : decode cc g.pc = .ok (.invokestatic index, 3)) (hf : cells + mc ≤ R.cells ∧ slots + ms ≤ R.slots) :
    pm_xRun p l e R s m args below meth c H locs cells slots mc ms g rest (QX As.toArray) free := by
  obtain ⟨⟨hrc, hrs, hfr, hlo, hws, hcw, hcode, hini, hy, hlen, hl⟩, hstat⟩ := cw
  obtain ⟨hx, hb, hml, ho, -⟩ := S
  obtain ⟨hbl, hPc⟩ := hp
  intro T hT X
  subst hb
  obtain ⟨mk, hnamed⟩ := Cond.code_named hcode
  obtain ⟨methM, cM, hmethM, -, -, -, -, -, -, hsigM⟩ := Cond.code_spec hnamed hcode
  have hstatic : methM.isStatic = true := Cond.static_spec hnamed hmethM hstat
  obtain ⟨kP, hkP, -⟩ := className_of_methodNamed hnamed
  have hinitP : kP.init = .initialized := Cond.initialized_spec (findClass_of_methodNamed hnamed) hkP hini
  obtain ⟨vm₁, X₁, hstep₁⟩ := X.invokestatic hx ho hl hnamed hmethM hstatic hkP hinitP hy (g := g) hg (argsL := As) (rest := rest) (hn.trans (hlen _ hsigM)) hstack hdg
  obtain ⟨q, t, T', L, hq, X', hL, e1, e2, st⟩ := pm_backX (Wt := 8) (mc := mc) (ms := ms) (free := free) (bytes := bytes) (maxL := maxL) (ret := ret) hM hfr hlo X₁ (g := { g with stack := rest }) hg (hsize.trans hml.symm) hdg hW (X₁.named hnamed) (a := As.toArray)
    (atoms_intro fun w hw => hws w hw _ _ X₁.warmed) (hws _ hcw _ _ X₁.warmed) (word_at X₁.warmed (Or.inl (by first | rfl | simp [Cond.onTables, Cond.keeps, Cond.steady])) hini) (by rw [show (headSpec ws rm).room.cells = mc from hrc]; exact hf.1) (by rw [show (headSpec ws rm).room.slots = ms from hrs]; exact hf.2)
    (hbl _ _ _ _ (hPc _ hT X₁.warmed)) (fun o t h => hQ _ _ o t h)
  exact ⟨q, (T.setVm vm₁).calling { g with stack := rest } mk As.toArray, t, T', L, hT, X₁.warmed.alike, X', hL, e1, e2, hq, hstep₁ _ fun acts => by rw [doInvoke_state]; exact st⟩
/-- the frame g, with q thrown over it -/
def pm_WX (p : Program) (l : Launch) (e : Env) (R : Room) (s : State) (m : MethodId) (args : Array Value) (below : List Frame) (meth : Method) (c : Code) (H : Heap) (locs : List Loc) (cells slots : Nat) (Q : State → Prop) (g : JFrame) (q : Addr) : Prop :=
  ∀ T : State, T.heap = H → Stand p l e R s m args below meth c T locs cells slots → ∃ t, Steps p.tables e below ((T.setTop g).pushFrame (.throwing q)) t ∧ Q t
variable {D : va_G} {G : pm_G} {A : Nat → Prop} {ad : Nat → Nat} {σ σ2 : pm_S} {E : String} {Q : State → Prop} {pc : Nat} {real : Array Slot} {st0 : List Value} {a : Array Value} {Qc : Array Value → State → Outcome → State → Prop} {XC : String → State → State → Prop}
theorem pm_XR_Q {A1 : Nat → Prop} (a : Array Value) (st : State) (o : Outcome) (t : State) (h : pm_XR D G A1 ad σ σ2 E mc ms a st o t) : ∃ q L, o = .threw q ∧ st.WarmedH t.vm ∧ st.sameButNew ({ t with vm := st.vm } : State) L mc ms ∧ ∀ z ∈ L, A1 z.base := by
  obtain ⟨q, ce, L, h1, -, -, -, -, h6, h7, h8⟩ := h
  exact ⟨q, L, h1, h6, h7, h8⟩
theorem pm_outW (hr : pm_xRun p l e R s m args below meth c H locs cells slots mc ms (F0 m pc real st0) rest (pm_XR D G (va_A (pm_ws G ad σ) H.size) ad σ σ2 E mc ms a) (va_A (pm_ws G ad σ) H.size)) (hS : va_S A s.heap H locs) (hA1 : ∀ q, va_A (pm_ws G ad σ) H.size q → A q)
    (kk : ∀ (ad' : Nat → Nat) (H1 : Heap) (locs1 : List Loc) (q : Addr) (ce : Cell), pm_agree ad ad' σ.1 → (∀ i, σ2.1 ≤ i → ad' i = ad i) → σ.1 ≤ σ2.1 → (∀ c, 1000 ≤ c → σ2.2.2.1 c = σ.2.2.1 c) → va_P D pm_vw (pm_ws G ad' σ2) H1 → va_D A (pm_ws G ad' σ2) → va_S A s.heap H1 locs1 → pm_wf σ2 → H1[q]? = some ce → ce.vm = .none → s.vm.findClass E = some ce.cls → pm_WX p l e R s m args below meth c H1 locs1 (cells + mc) (slots + ms) Q (F0 m pc real rest) q) : W p l e R s m args below meth c H locs cells slots Q (F0 m pc real st0) := by
  intro T hT X
  obtain ⟨q, st₀, t, T', L, h0, hal, X', hL, e1, e2, ⟨q9, ce, L9, hq9, ⟨ad', q1, q2, q3, q4, q5, q6, q7⟩, hce, hcv, hcl, -, -, -⟩, st⟩ := hr T hT X
  cases hq9
  obtain ⟨hz, hk⟩ := q5
  rw [h0] at hz hk
  have hcut : pm_agree ad' (pm_cut ad ad' σ2.1) σ2.1 := pm_cut_lo
  have hag : pm_agree ad (pm_cut ad ad' σ2.1) σ.1 := fun i hi => (hcut i (Nat.lt_of_lt_of_le hi q1)).trans (q2 i hi)
  have hS1 : va_S A s.heap T'.heap (locs ++ L) := ⟨Nat.le_trans hS.1 (by rw [e1]; exact hz), fun q h1 h2 => by rw [e1, hk q (Nat.lt_of_lt_of_le h1 hS.1) (fun z => h2 (hA1 q z))]; exact hS.2.1 q h1 h2, fun q hq => by
      rcases List.mem_append.mp hq with h | h
      · exact hS.2.2 q h
      · exact hA1 _ (hL q h)⟩
  obtain ⟨t2, a1, b1⟩ := kk (pm_cut ad ad' σ2.1) T'.heap (locs ++ L) q ce hag (fun i hi => by simp [pm_cut, Nat.not_lt.mpr hi]) q1 q7 (by rw [e1, pm_ws_ad q6 hcut]; exact q3) (by rw [pm_ws_ad q6 hcut]; exact q4.weaken (fun _ q _ h => hA1 q.1 h)) hS1 q6 (by rw [e1]; exact hce) hcv (by rw [← hal.findClass]; exact hcl) T' rfl X'
  exact ⟨t2, st.trans a1, b1⟩
/-- nobody here catches it -/
theorem pm_leave {ce : Cell} {q : Addr} {mc ms : Nat} (hout : ∀ x ∈ c.exceptionTable.toList, covers x pc = false) (hlocks : meth.locks = false) (hcell : H[q]? = some ce) (hv : ce.vm = .none) (hcl : s.vm.findClass E = some ce.cls)
    (hx : ∀ t : State, t.heap = H → s.vm.Alike t.vm → XC E s t) (hf : ∀ z ∈ locs, free z.base) (hc : cells ≤ mc) (hs : slots ≤ ms) :
    pm_WX p l e R s m args below meth c H locs cells slots (pm_XQ below XC s mc ms free E) (F0 m pc real rest) q := by
  intro T hT X
  obtain ⟨st1, hrun, hend, hW, hsm⟩ := X.leaveThrown q (g := F0 m pc real rest) rfl rfl rfl hout hlocks
  refine ⟨_, st1, q, ce, locs, hrun, hend, hx _ hT hW.alike, ?_, hv, hcl, hW, hsm.mono hc hs, hf⟩
  show T.heap[q]? = some ce
  rw [hT]
  exact hcell
/-- it is caught at x's handler -/
theorem pm_catch {own name : String} {ce : Cell} {q : Addr} (hown : s.vm.findClass own = some m.cls) (pre : List ExceptionTableEntry) (x : ExceptionTableEntry) (suf : List ExceptionTableEntry) (hsplit : c.exceptionTable.toList = pre ++ x :: suf)
    (hpass : ∀ z ∈ pre, covers z pc = false ∨ (z.catchType ≠ 0 ∧ ∃ nm : String, (Cond.classLink own z.catchType nm).before args s = true ∧ va_Nc E nm s)) (hx : covers x pc = true) (h0 : x.catchType ≠ 0)
    (hlink : (Cond.classLink own x.catchType name).before args s = true) (hcast : (Cond.castable E name).before args s = true) (hcell : H[q]? = some ce) (hv : ce.vm = .none) (hcl : s.vm.findClass E = some ce.cls)
    (kk : W p l e R s m args below meth c H locs cells slots Q (F0 m x.handlerPc real [.ref q])) : pm_WX p l e R s m args below meth c H locs cells slots Q (F0 m pc real rest) q := by
  intro T hT X
  have hpl : e.platform.magicAccessors = ({} : Platform).magicAccessors := by rw [X.admits.platform]
  obtain ⟨c3, c4, hc3, hc4, hasg⟩ := Cond.castable_spec hcast
  cases Option.some.inj (hc3.symm.trans hcl)
  obtain ⟨c5, hc5, hcl5⟩ := Cond.classLink_spec hown hlink e.platform hpl
  cases Option.some.inj (hc4.symm.trans hc5)
  have hpass' : ∀ z ∈ pre, covers z pc = false ∨ (z.catchType ≠ 0 ∧ ∃ cT, s.vm.ClassLinks e.platform m.cls z.catchType cT ∧ s.vm.assignable ce.cls cT = false) := fun z hz => by
    rcases hpass z hz with h | ⟨hz0, nm, hl1, hn1⟩
    · exact Or.inl h
    · obtain ⟨c6, hc6, hcl6⟩ := Cond.classLink_spec hown hl1 e.platform hpl
      obtain ⟨a8, b8, h1, h2, h3⟩ := hn1
      cases Option.some.inj (h1.symm.trans hcl)
      cases Option.some.inj (h2.symm.trans hc6)
      exact Or.inr ⟨hz0, _, hcl6, h3⟩
  obtain ⟨vm', X', st⟩ := X.thenCaughtThrough q (g := F0 m pc real rest) rfl (Steps.refl _) (by rw [hT]; exact hcell) (by rw [hv]; rfl) (by obtain ⟨k9, h9, -⟩ := Vm.findClass_spec hcl; exact ⟨k9, h9⟩) pre x suf hsplit hpass' hx (Or.inr ⟨h0, c4, hcl5, hasg⟩)
  obtain ⟨t, a1, b1⟩ := kk (T.setVm vm') hT X'
  exact ⟨t, st.trans a1, b1⟩
/-- a static method with handlers of its own, which returns -/
theorem pm_runSW {hh : List (Nat × Nat × Nat × Nat)} {Pc : Array Value → State → Prop} {As rest : List Value} (S : CallFix p m c cc nL s args Ts own) (hM : Met l y ws rm Pc Qc mc ms free)
    (cw : (rm.cells = mc ∧ rm.slots = ms ∧ rm.frames + 1 ≤ R.frames ∧ 8 + (maxL + 11) + rm.locals ≤ R.locals) ∧ (∀ w ∈ ws, ∀ (a' : Array Value) (U : State), s.WarmedH U.vm → w.before a' U = true) ∧ Cond.codeWith y bytes maxL ret hh ∈ ws ∧ (Cond.codeWith y bytes maxL ret hh).before args s = true ∧ (Cond.initialized y.cls).before args s = true ∧ (y.cls ≠ "java/lang/invoke/MethodHandle" ∧ y.cls ≠ "java/lang/invoke/VarHandle") ∧ pm_np y n ∧ (Cond.methodLink own index y).before args s = true ∧ (Cond.static y).before args s = true) (hp : PreS s H Pc As)
    (hg : g.method = m) (hn : As.length = n) (hsize : g.locals.size = nL) (hstack : g.stack = As.reverse ++ rest) (hW : 2 * g.monitorRoom + (rest.map fun v => v.category).sum ≤ 8) (hdg : decode cc g.pc = .ok (.invokestatic index, 3)) (hf : cells + mc ≤ R.cells ∧ slots + ms ≤ R.slots) :
    va_Run p l e R s m args below meth c H locs cells slots mc ms g rest (Qc As.toArray) free := by
  obtain ⟨⟨hrc, hrs, hfr, hlo⟩, hws, hcw, hcode, hini, hy, hnp, hl, hstat⟩ := cw
  have hK : Back l R p e below s args y 3 8 (PreOf R mc ms Pc) (PostOf Qc mc ms free) := va_backW (hh := hh) (bytes := bytes) (maxL := maxL) (ret := ret) hM hp.1 hrc hrs hfr hlo hws hcw (fun a' U hW => word_at hW (Or.inl (by first | rfl | simp [Cond.onTables, Cond.keeps, Cond.steady])) hini)
  obtain ⟨hx, hb, hml, ho, -⟩ := S
  intro T hT X
  subst hb
  obtain ⟨mk, methM, cM, hnamed, hmethM, -, -, -, -, -, -, hsigM⟩ := Cond.codeWith_spec hcode
  have hstatic : methM.isStatic = true := Cond.static_spec hnamed hmethM hstat
  obtain ⟨kP, hkP, -⟩ := className_of_methodNamed hnamed
  have hinitP : kP.init = .initialized := Cond.initialized_spec (findClass_of_methodNamed hnamed) hkP hini
  have hlen : As.length = methM.sig.parameters.length := by
    unfold pm_np at hnp
    rw [hsigM] at hnp
    exact hn.trans (Option.some.inj hnp).symm
  obtain ⟨vm₁, X₁, hstep₁⟩ := X.invokestatic hx ho hl hnamed hmethM hstatic hkP hinitP hy (g := g) hg (argsL := As) (rest := rest) hlen hstack hdg
  obtain ⟨v, ⟨U', l2, c2, s2⟩, X', ⟨g', mk', t, L, e1, e2, hq, h1, hL, h2, h3⟩, hsteps⟩ := hK m meth c ⟨T.setVm vm₁, locs, cells, slots⟩ { g with stack := rest } (.invokestatic index) mk As.toArray X₁ hg (hsize.trans hml.symm) hdg hW (X₁.named hnamed) ⟨hf.1, hf.2, hp.2 (T.setVm vm₁) hT X₁.warmed⟩
  dsimp only [Pt.U, Pt.locs, Pt.cells, Pt.slots] at X' e1 e2 h1 h2 h3 hsteps
  subst h1; subst h2; subst h3
  exact ⟨v, (T.setVm vm₁).calling g' mk' As.toArray, t, U', L, hT, X', hL, e1, e2, hq, fun target h => hstep₁ _ fun acts => by rw [doInvoke_state]; exact hsteps.trans h⟩
theorem pm_metW {d : Nat} {k2 : pm_M} {As : List Value} {σ σ2 : pm_S} {r : Option Value} {ad : Nat → Nat} (sz : Nat) (hok : pm_okH k2) (hlt : l.stackTraces = false) (hlen : As.length ≤ mL k2) (hcat : pm_cat1 As = true) (hwf : pm_wf σ) (h : pm_sound l D G d k2 0 (pm_en As (mL k2)) [] 0 0 σ (.inl r, σ2)) :
    Met l (mY k2) (pm_wsH k2) (pm_rm d k2) (va_Pc (As.map (pv ad)) (pm_pre0 D G ad σ sz)) (pm_Qn D G (va_A (pm_ws G ad σ) sz) ad σ (.inl r, σ2)) (mC k2) (mS k2) (va_A (pm_ws G ad σ) sz) := by
  obtain ⟨g2, g3, g4, g5, g6⟩ := hok
  refine va_MetW (cc := mB k2) (maxL := mL k2) (ret := mT k2) (hh := mH k2) g2 rfl ?_
  intro p e s m args below meth c s₁ B hml hv
  obtain ⟨rfl, hsz, hP, hD, hV⟩ := hv
  have hts := atoms_spec (ws := pm_wsH k2) B.pre
  have hown : s.vm.findClass (mY k2).cls = some m.cls := findClass_of_methodNamed B.named
  have hex : c.exceptionTable.toList = tableOf (mH k2) := by
    obtain ⟨m9, meth9, c9, hn9, h1, h2, -, -, h6, -⟩ := Cond.codeWith_spec (hts _ List.mem_cons_self)
    cases Option.some.inj (hn9.symm.trans B.named)
    cases Option.some.inj (h1.symm.trans B.method)
    cases Option.some.inj (h2.symm.trans (Stand.of_body B).code)
    rw [← h6, table_eq]
  subst hsz
  rw [lg_entry_eq]
  exact h p e _ s m _ below meth c s.heap [] (va_A (pm_ws G ad σ) s.heap.size) ad _ _ (pm_Qx D G (va_A (pm_ws G ad σ) s.heap.size) ad σ (.inl r, σ2)) _ ⟨B.exec, B.bytes, B.returns, hml, hown, fun w hw => hts w (List.mem_cons_of_mem _ hw), B.notSynchronized, hex, fun q hq => Or.inr hq, ⟨Nat.le_refl _, Nat.le_refl _, Nat.le_refl _, Nat.le_refl _⟩, fun z => (name_of_methodNamed B.named B.method).1.trans z, hV, hlt⟩ (fun z => absurd z g6) (pm_en_loc hcat hlen) hP hD va_S.rf hwf (fun _ z => z) pm_end_Q
theorem pm_cwW {d : Nat} {k k2 : pm_M} {idx n : Nat} (hts : ∀ w ∈ lw_gw, w.before args s = true) (hR : d + 1 ≤ R.frames ∧ 35 * (d + 1) ≤ R.locals ∧ mC k ≤ R.cells ∧ mS k ≤ R.slots) (hok : pm_okH k2) (hv : pm_sl (mY k).cls idx (mY k2)) (hn : pm_np (mY k2) n) :
    ((pm_rm d k2).cells = mC k2 ∧ (pm_rm d k2).slots = mS k2 ∧ (pm_rm d k2).frames + 1 ≤ R.frames ∧ 8 + (mL k2 + 11) + (pm_rm d k2).locals ≤ R.locals) ∧ (∀ w ∈ pm_wsH k2, ∀ (a' : Array Value) (U : State), s.WarmedH U.vm → w.before a' U = true) ∧ Cond.codeWith (mY k2) (mB k2) (mL k2) (mT k2) (mH k2) ∈ pm_wsH k2 ∧ (Cond.codeWith (mY k2) (mB k2) (mL k2) (mT k2) (mH k2)).before args s = true ∧ (Cond.initialized (mY k2).cls).before args s = true ∧ ((mY k2).cls ≠ "java/lang/invoke/MethodHandle" ∧ (mY k2).cls ≠ "java/lang/invoke/VarHandle") ∧ pm_np (mY k2) n ∧ (Cond.methodLink (mY k).cls idx (mY k2)).before args s = true ∧ (Cond.static (mY k2)).before args s = true := by
  obtain ⟨-, h2, h3, h4, -⟩ := hok
  have hr := pm_room (k := k) hR h4
  exact ⟨⟨rfl, rfl, hr.1, hr.2⟩, pay_in hts (pm_goodH h3), List.mem_cons_self, hts _ h3, hts _ hv.2.2, h2, hn, hts _ hv.1, hts _ hv.2.1⟩
theorem pm_spec_at {U : State} (h : pm_env D G A U) : ∀ w ∈ pm_spec, w.before args U = true := by
  obtain ⟨-, h2, h3, -⟩ := h
  intro w hw
  simp only [pm_spec, List.mem_cons, List.not_mem_nil, or_false] at hw
  rcases hw with rfl | rfl | rfl | rfl
  · exact pm_zq_ref h2
  · exact pm_zq_ref h3
  · exact pm_zq_lays h2
  · exact pm_zq_lays h3
theorem pm_fm {α β : Type} {f g : α → Option β} : ∀ (l : List α), (∀ a ∈ l, f a = g a) → l.filterMap f = l.filterMap g
  | [], _ => rfl
  | a :: l, h => by
    rw [List.filterMap_cons, List.filterMap_cons, h a List.mem_cons_self, pm_fm l (fun b hb => h b (List.mem_cons_of_mem _ hb))]
theorem pm_lv_ad {ad ad' : Nat → Nat} {n : Nat} {ls : List (Option Value)} {st : List Value} (h : pm_agree ad ad' n) (hl : pm_lt n ls st = true) : pm_lv ad' ls = pm_lv ad ls := by
  unfold pm_lv
  simp only [pm_lt, Bool.and_eq_true, List.all_eq_true] at hl
  refine pm_fm _ (fun q hq => ?_)
  obtain ⟨o, i⟩ := q
  cases o with
  | none => rfl
  | some v =>
    have hm : some v ∈ ls := List.mem_of_getElem? (List.mem_zipIdx_iff_getElem?.mp hq)
    have := hl.1 _ hm
    simp only [Option.map_some]
    rw [pm_pvV h this]
/-- the nest mate's constructor -/
def pm_nl (own : String) (idx : Nat) (y : MethodName) : Prop := pm_nest = .methodLinkNest own idx y "ElasticNets" ∧ Cond.instanceMethod y ∈ lw_gw ∧ Cond.initialized y.cls ∈ lw_gw ∧ y.name = "<init>"
theorem pm_cwN {d : Nat} {k k2 : pm_M} {idx n : Nat} (hts : ∀ w ∈ lw_gw, w.before args s = true) (hR : d + 1 ≤ R.frames ∧ 35 * (d + 1) ≤ R.locals ∧ mC k ≤ R.cells ∧ mS k ≤ R.slots) (hok : pm_ok k2) (hv : pm_nl (mY k).cls idx (mY k2)) (hn : pm_np (mY k2) n) (hT : mT k2 = none) (hz : va_Nw pm_nest s) :
    va_CN R s args (mY k).cls idx (mY k2) "ElasticNets" (mB k2) (mL k2) none (pm_wsm k2) (pm_rm d k2) (mC k2) (mS k2) n ∧ (mY k2).name = "<init>" ∧ (Cond.instanceMethod (mY k2)).before args s = true := by
  obtain ⟨-, -, h2, h3, h4, -⟩ := hok
  exact ⟨va_cnB n hts (pm_good h3) (by unfold pm_wsm; rw [hT]) rfl rfl (hv.1 ▸ hz) (hts _ hv.2.2.1) ⟨h2.1, h2.2, hn⟩ (pm_room (k := k) hR h4), hv.2.2.2, hts _ hv.2.1⟩
end PMZ
end
section
def pm_r_iconst (R : pm_R) : Prop := ∀ (d : Nat) (k : pm_M) (pc : Nat) (ls : List (Option Value)) (st : List Value) (cu su : Nat) (σ : pm_S) (out : pm_O) (n : Int) (v : Int32), (decode (mB k) pc = .ok (.iconst n, 1)) → (Int32.ofInt n = v) → R d k (pc + 1) (ls) (.int v :: st) (cu) (su) (σ) out → R d k (pc) (ls) (st) (cu) (su) (σ) out
def pm_r_bipush (R : pm_R) : Prop := ∀ (d : Nat) (k : pm_M) (pc : Nat) (ls : List (Option Value)) (st : List Value) (cu su : Nat) (σ : pm_S) (out : pm_O) (n : Int) (v : Int32), (decode (mB k) pc = .ok (.bipush n, 2)) → ((Int8.ofInt n).toInt32 = v) → R d k (pc + 2) (ls) (.int v :: st) (cu) (su) (σ) out → R d k (pc) (ls) (st) (cu) (su) (σ) out
def pm_r_sipush (R : pm_R) : Prop := ∀ (d : Nat) (k : pm_M) (pc : Nat) (ls : List (Option Value)) (st : List Value) (cu su : Nat) (σ : pm_S) (out : pm_O) (n : Int) (v : Int32), (decode (mB k) pc = .ok (.sipush n, 3)) → ((Int16.ofInt n).toInt32 = v) → R d k (pc + 3) (ls) (.int v :: st) (cu) (su) (σ) out → R d k (pc) (ls) (st) (cu) (su) (σ) out
def pm_r_lconst (R : pm_R) : Prop := ∀ (d : Nat) (k : pm_M) (pc : Nat) (ls : List (Option Value)) (st : List Value) (cu su : Nat) (σ : pm_S) (out : pm_O) (n : Fin 2) (v : Int64), (decode (mB k) pc = .ok (.lconst n, 1)) → (Int64.ofNat (n : Nat) = v) → R d k (pc + 1) (ls) (.long v :: st) (cu) (su) (σ) out → R d k (pc) (ls) (st) (cu) (su) (σ) out
def pm_r_ldc (R : pm_R) : Prop := ∀ (d : Nat) (k : pm_M) (pc : Nat) (ls : List (Option Value)) (st : List Value) (cu su : Nat) (σ : pm_S) (out : pm_O) (idx : Nat) (v : Int32), (decode (mB k) pc = .ok (.ldc idx, 2)) → (Cond.constant (mY k).cls idx v ∈ lw_gw) → R d k (pc + 2) (ls) (.int v :: st) (cu) (su) (σ) out → R d k (pc) (ls) (st) (cu) (su) (σ) out
def pm_r_ldc2 (R : pm_R) : Prop := ∀ (d : Nat) (k : pm_M) (pc : Nat) (ls : List (Option Value)) (st : List Value) (cu su : Nat) (σ : pm_S) (out : pm_O) (idx : Nat) (v : Int64), (decode (mB k) pc = .ok (.ldc2_w idx, 3)) → (Cond.constantLong (mY k).cls idx v ∈ lw_gw) → R d k (pc + 3) (ls) (.long v :: st) (cu) (su) (σ) out → R d k (pc) (ls) (st) (cu) (su) (σ) out
def pm_r_iload (R : pm_R) : Prop := ∀ (d : Nat) (k : pm_M) (pc : Nat) (ls : List (Option Value)) (st : List Value) (cu su : Nat) (σ : pm_S) (out : pm_O) (i : Nat) (x : Int32), (decode (mB k) pc = .ok (.iload i, 2)) → (ls[i]? = some (some (.int x))) → R d k (pc + 2) (ls) (.int x :: st) (cu) (su) (σ) out → R d k (pc) (ls) (st) (cu) (su) (σ) out
def pm_r_iload_n (R : pm_R) : Prop := ∀ (d : Nat) (k : pm_M) (pc : Nat) (ls : List (Option Value)) (st : List Value) (cu su : Nat) (σ : pm_S) (out : pm_O) (i : Fin 4) (x : Int32), (decode (mB k) pc = .ok (.iload_n i, 1)) → (ls[(i : Nat)]? = some (some (.int x))) → R d k (pc + 1) (ls) (.int x :: st) (cu) (su) (σ) out → R d k (pc) (ls) (st) (cu) (su) (σ) out
def pm_r_lload (R : pm_R) : Prop := ∀ (d : Nat) (k : pm_M) (pc : Nat) (ls : List (Option Value)) (st : List Value) (cu su : Nat) (σ : pm_S) (out : pm_O) (i : Nat) (x : Int64), (decode (mB k) pc = .ok (.lload i, 2)) → (ls[i]? = some (some (.long x))) → R d k (pc + 2) (ls) (.long x :: st) (cu) (su) (σ) out → R d k (pc) (ls) (st) (cu) (su) (σ) out
def pm_r_lload_n (R : pm_R) : Prop := ∀ (d : Nat) (k : pm_M) (pc : Nat) (ls : List (Option Value)) (st : List Value) (cu su : Nat) (σ : pm_S) (out : pm_O) (i : Fin 4) (x : Int64), (decode (mB k) pc = .ok (.lload_n i, 1)) → (ls[(i : Nat)]? = some (some (.long x))) → R d k (pc + 1) (ls) (.long x :: st) (cu) (su) (σ) out → R d k (pc) (ls) (st) (cu) (su) (σ) out
def pm_r_aload (R : pm_R) : Prop := ∀ (d : Nat) (k : pm_M) (pc : Nat) (ls : List (Option Value)) (st : List Value) (cu su : Nat) (σ : pm_S) (out : pm_O) (i : Nat) (x : Nat), (decode (mB k) pc = .ok (.aload i, 2)) → (ls[i]? = some (some (.ref x))) → R d k (pc + 2) (ls) (.ref x :: st) (cu) (su) (σ) out → R d k (pc) (ls) (st) (cu) (su) (σ) out
def pm_r_aload_n (R : pm_R) : Prop := ∀ (d : Nat) (k : pm_M) (pc : Nat) (ls : List (Option Value)) (st : List Value) (cu su : Nat) (σ : pm_S) (out : pm_O) (i : Fin 4) (x : Nat), (decode (mB k) pc = .ok (.aload_n i, 1)) → (ls[(i : Nat)]? = some (some (.ref x))) → R d k (pc + 1) (ls) (.ref x :: st) (cu) (su) (σ) out → R d k (pc) (ls) (st) (cu) (su) (σ) out
def pm_r_iadd (R : pm_R) : Prop := ∀ (d : Nat) (k : pm_M) (pc : Nat) (ls : List (Option Value)) (st : List Value) (cu su : Nat) (σ : pm_S) (out : pm_O) (x y : Int32), (decode (mB k) pc = .ok (.iadd, 1)) → R d k (pc + 1) (ls) (.int (x + y) :: st) (cu) (su) (σ) out → R d k (pc) (ls) (.int y :: .int x :: st) (cu) (su) (σ) out
def pm_r_isub (R : pm_R) : Prop := ∀ (d : Nat) (k : pm_M) (pc : Nat) (ls : List (Option Value)) (st : List Value) (cu su : Nat) (σ : pm_S) (out : pm_O) (x y : Int32), (decode (mB k) pc = .ok (.isub, 1)) → R d k (pc + 1) (ls) (.int (x - y) :: st) (cu) (su) (σ) out → R d k (pc) (ls) (.int y :: .int x :: st) (cu) (su) (σ) out
def pm_r_imul (R : pm_R) : Prop := ∀ (d : Nat) (k : pm_M) (pc : Nat) (ls : List (Option Value)) (st : List Value) (cu su : Nat) (σ : pm_S) (out : pm_O) (x y : Int32), (decode (mB k) pc = .ok (.imul, 1)) → R d k (pc + 1) (ls) (.int (x * y) :: st) (cu) (su) (σ) out → R d k (pc) (ls) (.int y :: .int x :: st) (cu) (su) (σ) out
def pm_r_iand (R : pm_R) : Prop := ∀ (d : Nat) (k : pm_M) (pc : Nat) (ls : List (Option Value)) (st : List Value) (cu su : Nat) (σ : pm_S) (out : pm_O) (x y : Int32), (decode (mB k) pc = .ok (.iand, 1)) → R d k (pc + 1) (ls) (.int (x &&& y) :: st) (cu) (su) (σ) out → R d k (pc) (ls) (.int y :: .int x :: st) (cu) (su) (σ) out
def pm_r_ior (R : pm_R) : Prop := ∀ (d : Nat) (k : pm_M) (pc : Nat) (ls : List (Option Value)) (st : List Value) (cu su : Nat) (σ : pm_S) (out : pm_O) (x y : Int32), (decode (mB k) pc = .ok (.ior, 1)) → R d k (pc + 1) (ls) (.int (x ||| y) :: st) (cu) (su) (σ) out → R d k (pc) (ls) (.int y :: .int x :: st) (cu) (su) (σ) out
def pm_r_ixor (R : pm_R) : Prop := ∀ (d : Nat) (k : pm_M) (pc : Nat) (ls : List (Option Value)) (st : List Value) (cu su : Nat) (σ : pm_S) (out : pm_O) (x y : Int32), (decode (mB k) pc = .ok (.ixor, 1)) → R d k (pc + 1) (ls) (.int (x ^^^ y) :: st) (cu) (su) (σ) out → R d k (pc) (ls) (.int y :: .int x :: st) (cu) (su) (σ) out
def pm_r_ishl (R : pm_R) : Prop := ∀ (d : Nat) (k : pm_M) (pc : Nat) (ls : List (Option Value)) (st : List Value) (cu su : Nat) (σ : pm_S) (out : pm_O) (x y : Int32), (decode (mB k) pc = .ok (.ishl, 1)) → R d k (pc + 1) (ls) (.int (x <<< (y &&& 31)) :: st) (cu) (su) (σ) out → R d k (pc) (ls) (.int y :: .int x :: st) (cu) (su) (σ) out
def pm_r_ishr (R : pm_R) : Prop := ∀ (d : Nat) (k : pm_M) (pc : Nat) (ls : List (Option Value)) (st : List Value) (cu su : Nat) (σ : pm_S) (out : pm_O) (x y : Int32), (decode (mB k) pc = .ok (.ishr, 1)) → R d k (pc + 1) (ls) (.int (x >>> (y &&& 31)) :: st) (cu) (su) (σ) out → R d k (pc) (ls) (.int y :: .int x :: st) (cu) (su) (σ) out
def pm_r_idiv (R : pm_R) : Prop := ∀ (d : Nat) (k : pm_M) (pc : Nat) (ls : List (Option Value)) (st : List Value) (cu su : Nat) (σ : pm_S) (out : pm_O) (x y : Int32), (decode (mB k) pc = .ok (.idiv, 1)) → (¬ y = 0) → R d k (pc + 1) (ls) (.int (x / y) :: st) (cu) (su) (σ) out → R d k (pc) (ls) (.int y :: .int x :: st) (cu) (su) (σ) out
def pm_r_irem (R : pm_R) : Prop := ∀ (d : Nat) (k : pm_M) (pc : Nat) (ls : List (Option Value)) (st : List Value) (cu su : Nat) (σ : pm_S) (out : pm_O) (x y : Int32), (decode (mB k) pc = .ok (.irem, 1)) → (¬ y = 0) → R d k (pc + 1) (ls) (.int (x - x / y * y) :: st) (cu) (su) (σ) out → R d k (pc) (ls) (.int y :: .int x :: st) (cu) (su) (σ) out
def pm_r_land (R : pm_R) : Prop := ∀ (d : Nat) (k : pm_M) (pc : Nat) (ls : List (Option Value)) (st : List Value) (cu su : Nat) (σ : pm_S) (out : pm_O) (x y : Int64), (decode (mB k) pc = .ok (.land, 1)) → R d k (pc + 1) (ls) (.long (x &&& y) :: st) (cu) (su) (σ) out → R d k (pc) (ls) (.long y :: .long x :: st) (cu) (su) (σ) out
def pm_r_lor (R : pm_R) : Prop := ∀ (d : Nat) (k : pm_M) (pc : Nat) (ls : List (Option Value)) (st : List Value) (cu su : Nat) (σ : pm_S) (out : pm_O) (x y : Int64), (decode (mB k) pc = .ok (.lor, 1)) → R d k (pc + 1) (ls) (.long (x ||| y) :: st) (cu) (su) (σ) out → R d k (pc) (ls) (.long y :: .long x :: st) (cu) (su) (σ) out
def pm_r_lshl (R : pm_R) : Prop := ∀ (d : Nat) (k : pm_M) (pc : Nat) (ls : List (Option Value)) (st : List Value) (cu su : Nat) (σ : pm_S) (out : pm_O) (x : Int64) (y : Int32), (decode (mB k) pc = .ok (.lshl, 1)) → R d k (pc + 1) (ls) (.long (x <<< (y.toInt64 &&& 63)) :: st) (cu) (su) (σ) out → R d k (pc) (ls) (.int y :: .long x :: st) (cu) (su) (σ) out
def pm_r_i2l (R : pm_R) : Prop := ∀ (d : Nat) (k : pm_M) (pc : Nat) (ls : List (Option Value)) (st : List Value) (cu su : Nat) (σ : pm_S) (out : pm_O) (x : Int32), (decode (mB k) pc = .ok (.i2l, 1)) → R d k (pc + 1) (ls) (.long x.toInt64 :: st) (cu) (su) (σ) out → R d k (pc) (ls) (.int x :: st) (cu) (su) (σ) out
def pm_r_lcmp (R : pm_R) : Prop := ∀ (d : Nat) (k : pm_M) (pc : Nat) (ls : List (Option Value)) (st : List Value) (cu su : Nat) (σ : pm_S) (out : pm_O) (x y : Int64), (decode (mB k) pc = .ok (.lcmp, 1)) → R d k (pc + 1) (ls) (.int (lg_cmp x y) :: st) (cu) (su) (σ) out → R d k (pc) (ls) (.long y :: .long x :: st) (cu) (su) (σ) out
def pm_r_dup (R : pm_R) : Prop := ∀ (d : Nat) (k : pm_M) (pc : Nat) (ls : List (Option Value)) (st : List Value) (cu su : Nat) (σ : pm_S) (out : pm_O) (va : Value), (decode (mB k) pc = .ok (.dup, 1)) → (va.category = 1) → R d k (pc + 1) (ls) (va :: va :: st) (cu) (su) (σ) out → R d k (pc) (ls) (va :: st) (cu) (su) (σ) out
def pm_r_pop (R : pm_R) : Prop := ∀ (d : Nat) (k : pm_M) (pc : Nat) (ls : List (Option Value)) (st : List Value) (cu su : Nat) (σ : pm_S) (out : pm_O) (va : Value), (decode (mB k) pc = .ok (.pop, 1)) → (va.category = 1) → R d k (pc + 1) (ls) (st) (cu) (su) (σ) out → R d k (pc) (ls) (va :: st) (cu) (su) (σ) out
def pm_r_dup_x1 (R : pm_R) : Prop := ∀ (d : Nat) (k : pm_M) (pc : Nat) (ls : List (Option Value)) (st : List Value) (cu su : Nat) (σ : pm_S) (out : pm_O) (va vb : Value), (decode (mB k) pc = .ok (.dup_x1, 1)) → (va.category = 1) → (vb.category = 1) → R d k (pc + 1) (ls) (va :: vb :: va :: st) (cu) (su) (σ) out → R d k (pc) (ls) (va :: vb :: st) (cu) (su) (σ) out
def pm_r_dup_x2 (R : pm_R) : Prop := ∀ (d : Nat) (k : pm_M) (pc : Nat) (ls : List (Option Value)) (st : List Value) (cu su : Nat) (σ : pm_S) (out : pm_O) (va vb vd : Value), (decode (mB k) pc = .ok (.dup_x2, 1)) → (va.category = 1) → (vb.category = 1) → (vd.category = 1) → R d k (pc + 1) (ls) (va :: vb :: vd :: va :: st) (cu) (su) (σ) out → R d k (pc) (ls) (va :: vb :: vd :: st) (cu) (su) (σ) out
def pm_r_dup2 (R : pm_R) : Prop := ∀ (d : Nat) (k : pm_M) (pc : Nat) (ls : List (Option Value)) (st : List Value) (cu su : Nat) (σ : pm_S) (out : pm_O) (va vb : Value), (decode (mB k) pc = .ok (.dup2, 1)) → (va.category = 1) → (vb.category = 1) → R d k (pc + 1) (ls) (va :: vb :: va :: vb :: st) (cu) (su) (σ) out → R d k (pc) (ls) (va :: vb :: st) (cu) (su) (σ) out
def pm_r_goto (R : pm_R) : Prop := ∀ (d : Nat) (k : pm_M) (pc : Nat) (ls : List (Option Value)) (st : List Value) (cu su : Nat) (σ : pm_S) (out : pm_O) (off : Int) (tgt : Nat), (decode (mB k) pc = .ok (.goto off, 3)) → ((pc : Int) + off = (tgt : Int)) → R d k (tgt) (ls) (st) (cu) (su) (σ) out → R d k (pc) (ls) (st) (cu) (su) (σ) out
def pm_r_if_eq (R : pm_R) : Prop := ∀ (d : Nat) (k : pm_M) (pc : Nat) (ls : List (Option Value)) (st : List Value) (cu su : Nat) (σ : pm_S) (out : pm_O) (x : Int32) (off : Int) (tgt : Nat), (decode (mB k) pc = .ok (.ifCond .eq off, 3)) → ((pc : Int) + off = (tgt : Int)) → (x = 0 → R d k (tgt) (ls) (st) (cu) (su) (σ) out) → (¬ x = 0 → R d k (pc + 3) (ls) (st) (cu) (su) (σ) out) → R d k (pc) (ls) (.int x :: st) (cu) (su) (σ) out
def pm_r_if_ne (R : pm_R) : Prop := ∀ (d : Nat) (k : pm_M) (pc : Nat) (ls : List (Option Value)) (st : List Value) (cu su : Nat) (σ : pm_S) (out : pm_O) (x : Int32) (off : Int) (tgt : Nat), (decode (mB k) pc = .ok (.ifCond .ne off, 3)) → ((pc : Int) + off = (tgt : Int)) → (¬ x = 0 → R d k (tgt) (ls) (st) (cu) (su) (σ) out) → (x = 0 → R d k (pc + 3) (ls) (st) (cu) (su) (σ) out) → R d k (pc) (ls) (.int x :: st) (cu) (su) (σ) out
def pm_r_if_lt (R : pm_R) : Prop := ∀ (d : Nat) (k : pm_M) (pc : Nat) (ls : List (Option Value)) (st : List Value) (cu su : Nat) (σ : pm_S) (out : pm_O) (x : Int32) (off : Int) (tgt : Nat), (decode (mB k) pc = .ok (.ifCond .lt off, 3)) → ((pc : Int) + off = (tgt : Int)) → (x < 0 → R d k (tgt) (ls) (st) (cu) (su) (σ) out) → (¬ x < 0 → R d k (pc + 3) (ls) (st) (cu) (su) (σ) out) → R d k (pc) (ls) (.int x :: st) (cu) (su) (σ) out
def pm_r_if_ge (R : pm_R) : Prop := ∀ (d : Nat) (k : pm_M) (pc : Nat) (ls : List (Option Value)) (st : List Value) (cu su : Nat) (σ : pm_S) (out : pm_O) (x : Int32) (off : Int) (tgt : Nat), (decode (mB k) pc = .ok (.ifCond .ge off, 3)) → ((pc : Int) + off = (tgt : Int)) → (0 ≤ x → R d k (tgt) (ls) (st) (cu) (su) (σ) out) → (¬ 0 ≤ x → R d k (pc + 3) (ls) (st) (cu) (su) (σ) out) → R d k (pc) (ls) (.int x :: st) (cu) (su) (σ) out
def pm_r_if_gt (R : pm_R) : Prop := ∀ (d : Nat) (k : pm_M) (pc : Nat) (ls : List (Option Value)) (st : List Value) (cu su : Nat) (σ : pm_S) (out : pm_O) (x : Int32) (off : Int) (tgt : Nat), (decode (mB k) pc = .ok (.ifCond .gt off, 3)) → ((pc : Int) + off = (tgt : Int)) → (0 < x → R d k (tgt) (ls) (st) (cu) (su) (σ) out) → (¬ 0 < x → R d k (pc + 3) (ls) (st) (cu) (su) (σ) out) → R d k (pc) (ls) (.int x :: st) (cu) (su) (σ) out
def pm_r_if_le (R : pm_R) : Prop := ∀ (d : Nat) (k : pm_M) (pc : Nat) (ls : List (Option Value)) (st : List Value) (cu su : Nat) (σ : pm_S) (out : pm_O) (x : Int32) (off : Int) (tgt : Nat), (decode (mB k) pc = .ok (.ifCond .le off, 3)) → ((pc : Int) + off = (tgt : Int)) → (x ≤ 0 → R d k (tgt) (ls) (st) (cu) (su) (σ) out) → (¬ x ≤ 0 → R d k (pc + 3) (ls) (st) (cu) (su) (σ) out) → R d k (pc) (ls) (.int x :: st) (cu) (su) (σ) out
def pm_r_icmp_eq (R : pm_R) : Prop := ∀ (d : Nat) (k : pm_M) (pc : Nat) (ls : List (Option Value)) (st : List Value) (cu su : Nat) (σ : pm_S) (out : pm_O) (x y : Int32) (off : Int) (tgt : Nat), (decode (mB k) pc = .ok (.if_icmp .eq off, 3)) → ((pc : Int) + off = (tgt : Int)) → (x = y → R d k (tgt) (ls) (st) (cu) (su) (σ) out) → (¬ x = y → R d k (pc + 3) (ls) (st) (cu) (su) (σ) out) → R d k (pc) (ls) (.int y :: .int x :: st) (cu) (su) (σ) out
def pm_r_icmp_ne (R : pm_R) : Prop := ∀ (d : Nat) (k : pm_M) (pc : Nat) (ls : List (Option Value)) (st : List Value) (cu su : Nat) (σ : pm_S) (out : pm_O) (x y : Int32) (off : Int) (tgt : Nat), (decode (mB k) pc = .ok (.if_icmp .ne off, 3)) → ((pc : Int) + off = (tgt : Int)) → (¬ x = y → R d k (tgt) (ls) (st) (cu) (su) (σ) out) → (x = y → R d k (pc + 3) (ls) (st) (cu) (su) (σ) out) → R d k (pc) (ls) (.int y :: .int x :: st) (cu) (su) (σ) out
def pm_r_icmp_lt (R : pm_R) : Prop := ∀ (d : Nat) (k : pm_M) (pc : Nat) (ls : List (Option Value)) (st : List Value) (cu su : Nat) (σ : pm_S) (out : pm_O) (x y : Int32) (off : Int) (tgt : Nat), (decode (mB k) pc = .ok (.if_icmp .lt off, 3)) → ((pc : Int) + off = (tgt : Int)) → (x < y → R d k (tgt) (ls) (st) (cu) (su) (σ) out) → (¬ x < y → R d k (pc + 3) (ls) (st) (cu) (su) (σ) out) → R d k (pc) (ls) (.int y :: .int x :: st) (cu) (su) (σ) out
def pm_r_icmp_ge (R : pm_R) : Prop := ∀ (d : Nat) (k : pm_M) (pc : Nat) (ls : List (Option Value)) (st : List Value) (cu su : Nat) (σ : pm_S) (out : pm_O) (x y : Int32) (off : Int) (tgt : Nat), (decode (mB k) pc = .ok (.if_icmp .ge off, 3)) → ((pc : Int) + off = (tgt : Int)) → (y ≤ x → R d k (tgt) (ls) (st) (cu) (su) (σ) out) → (¬ y ≤ x → R d k (pc + 3) (ls) (st) (cu) (su) (σ) out) → R d k (pc) (ls) (.int y :: .int x :: st) (cu) (su) (σ) out
def pm_r_icmp_gt (R : pm_R) : Prop := ∀ (d : Nat) (k : pm_M) (pc : Nat) (ls : List (Option Value)) (st : List Value) (cu su : Nat) (σ : pm_S) (out : pm_O) (x y : Int32) (off : Int) (tgt : Nat), (decode (mB k) pc = .ok (.if_icmp .gt off, 3)) → ((pc : Int) + off = (tgt : Int)) → (y < x → R d k (tgt) (ls) (st) (cu) (su) (σ) out) → (¬ y < x → R d k (pc + 3) (ls) (st) (cu) (su) (σ) out) → R d k (pc) (ls) (.int y :: .int x :: st) (cu) (su) (σ) out
def pm_r_icmp_le (R : pm_R) : Prop := ∀ (d : Nat) (k : pm_M) (pc : Nat) (ls : List (Option Value)) (st : List Value) (cu su : Nat) (σ : pm_S) (out : pm_O) (x y : Int32) (off : Int) (tgt : Nat), (decode (mB k) pc = .ok (.if_icmp .le off, 3)) → ((pc : Int) + off = (tgt : Int)) → (x ≤ y → R d k (tgt) (ls) (st) (cu) (su) (σ) out) → (¬ x ≤ y → R d k (pc + 3) (ls) (st) (cu) (su) (σ) out) → R d k (pc) (ls) (.int y :: .int x :: st) (cu) (su) (σ) out
def pm_r_tableIn (R : pm_R) : Prop := ∀ (d : Nat) (k : pm_M) (pc : Nat) (ls : List (Option Value)) (st : List Value) (cu su : Nat) (σ : pm_S) (out : pm_O) (dflt lo hi : Int) (offs : Array Int) (len : Nat) (x : Int32) (off : Int) (tgt : Nat), (decode (mB k) pc = .ok (.tableswitch dflt lo hi offs, len)) → (¬ x.toInt < lo) → (¬ hi < x.toInt) → (offs[(x.toInt - lo).toNat]? = some off) → ((pc : Int) + off = (tgt : Int)) → R d k (tgt) (ls) (st) (cu) (su) (σ) out → R d k (pc) (ls) (.int x :: st) (cu) (su) (σ) out
def pm_r_tableOut (R : pm_R) : Prop := ∀ (d : Nat) (k : pm_M) (pc : Nat) (ls : List (Option Value)) (st : List Value) (cu su : Nat) (σ : pm_S) (out : pm_O) (dflt lo hi : Int) (offs : Array Int) (len : Nat) (x : Int32) (tgt : Nat), (decode (mB k) pc = .ok (.tableswitch dflt lo hi offs, len)) → (x.toInt < lo ∨ hi < x.toInt) → ((pc : Int) + dflt = (tgt : Int)) → R d k (tgt) (ls) (st) (cu) (su) (σ) out → R d k (pc) (ls) (.int x :: st) (cu) (su) (σ) out
def pm_r_istore (R : pm_R) : Prop := ∀ (d : Nat) (k : pm_M) (pc : Nat) (ls : List (Option Value)) (st : List Value) (cu su : Nat) (σ : pm_S) (out : pm_O) (i : Nat) (x : Int32), (decode (mB k) pc = .ok (.istore i, 2)) → (i < ls.length) → (pm_pre ls i = true) → R d k (pc + 2) (ls.set i (some (.int x))) (st) (cu) (su) (σ) out → R d k (pc) (ls) (.int x :: st) (cu) (su) (σ) out
def pm_r_istore_n (R : pm_R) : Prop := ∀ (d : Nat) (k : pm_M) (pc : Nat) (ls : List (Option Value)) (st : List Value) (cu su : Nat) (σ : pm_S) (out : pm_O) (i : Fin 4) (x : Int32), (decode (mB k) pc = .ok (.istore_n i, 1)) → ((i : Nat) < ls.length) → (pm_pre ls (i : Nat) = true) → R d k (pc + 1) (ls.set (i : Nat) (some (.int x))) (st) (cu) (su) (σ) out → R d k (pc) (ls) (.int x :: st) (cu) (su) (σ) out
def pm_r_astore (R : pm_R) : Prop := ∀ (d : Nat) (k : pm_M) (pc : Nat) (ls : List (Option Value)) (st : List Value) (cu su : Nat) (σ : pm_S) (out : pm_O) (i : Nat) (x : Nat), (decode (mB k) pc = .ok (.astore i, 2)) → (i < ls.length) → (pm_pre ls i = true) → R d k (pc + 2) (ls.set i (some (.ref x))) (st) (cu) (su) (σ) out → R d k (pc) (ls) (.ref x :: st) (cu) (su) (σ) out
def pm_r_astore_n (R : pm_R) : Prop := ∀ (d : Nat) (k : pm_M) (pc : Nat) (ls : List (Option Value)) (st : List Value) (cu su : Nat) (σ : pm_S) (out : pm_O) (i : Fin 4) (x : Nat), (decode (mB k) pc = .ok (.astore_n i, 1)) → ((i : Nat) < ls.length) → (pm_pre ls (i : Nat) = true) → R d k (pc + 1) (ls.set (i : Nat) (some (.ref x))) (st) (cu) (su) (σ) out → R d k (pc) (ls) (.ref x :: st) (cu) (su) (σ) out
def pm_r_lstore (R : pm_R) : Prop := ∀ (d : Nat) (k : pm_M) (pc : Nat) (ls : List (Option Value)) (st : List Value) (cu su : Nat) (σ : pm_S) (out : pm_O) (i : Nat) (x : Int64), (decode (mB k) pc = .ok (.lstore i, 2)) → (i + 1 < ls.length) → (pm_pre ls i = true) → R d k (pc + 2) ((ls.set i (some (.long x))).set (i + 1) none) (st) (cu) (su) (σ) out → R d k (pc) (ls) (.long x :: st) (cu) (su) (σ) out
def pm_r_lstore_n (R : pm_R) : Prop := ∀ (d : Nat) (k : pm_M) (pc : Nat) (ls : List (Option Value)) (st : List Value) (cu su : Nat) (σ : pm_S) (out : pm_O) (i : Fin 4) (x : Int64), (decode (mB k) pc = .ok (.lstore_n i, 1)) → ((i : Nat) + 1 < ls.length) → (pm_pre ls (i : Nat) = true) → R d k (pc + 1) ((ls.set (i : Nat) (some (.long x))).set ((i : Nat) + 1) none) (st) (cu) (su) (σ) out → R d k (pc) (ls) (.long x :: st) (cu) (su) (σ) out
def pm_r_iinc (R : pm_R) : Prop := ∀ (d : Nat) (k : pm_M) (pc : Nat) (ls : List (Option Value)) (st : List Value) (cu su : Nat) (σ : pm_S) (out : pm_O) (i : Nat) (n : Int) (x v : Int32), (decode (mB k) pc = .ok (.iinc i n, 3)) → (ls[i]? = some (some (.int x))) → (x + Int32.ofInt n = v) → (pm_pre ls i = true) → R d k (pc + 3) (ls.set i (some (.int v))) (st) (cu) (su) (σ) out → R d k (pc) (ls) (st) (cu) (su) (σ) out
def pm_r_getI (R : pm_R) : Prop := ∀ (d : Nat) (k : pm_M) (pc : Nat) (ls : List (Option Value)) (st : List Value) (cu su : Nat) (σ : pm_S) (out : pm_O) (b ci : Nat) (C : String) (T : u_T) (N : Nat) (ty : Nat → FieldType) (j idx : Nat), (decode (mB k) pc = .ok (.getfield idx, 3)) → (b < σ.1) → (pm_shp b = (0, ci)) → (pm_cl ci C T N ty) → (j < N) → (pm_fk ci j ≠ 1) → (Cond.fieldLink (mY k).cls idx (T j).1 (T j).2.1 (T j).2.2.1 ∈ lw_gw) → R d k (pc + 3) (ls) (.int (σ.2.2.1 b j) :: st) (cu) (su) (σ) out → R d k (pc) (ls) (.ref b :: st) (cu) (su) (σ) out
def pm_r_getP (R : pm_R) : Prop := ∀ (d : Nat) (k : pm_M) (pc : Nat) (ls : List (Option Value)) (st : List Value) (cu su : Nat) (σ : pm_S) (out : pm_O) (b ci : Nat) (C : String) (T : u_T) (N : Nat) (ty : Nat → FieldType) (j idx : Nat) (r : Nat), (decode (mB k) pc = .ok (.getfield idx, 3)) → (b < σ.1) → (pm_shp b = (0, ci)) → (pm_cl ci C T N ty) → (j < N) → (pm_fk ci j = 1) → (Cond.fieldLink (mY k).cls idx (T j).1 (T j).2.1 (T j).2.2.1 ∈ lw_gw) → (σ.2.1 b j = some r) → R d k (pc + 3) (ls) (.ref r :: st) (cu) (su) (σ) out → R d k (pc) (ls) (.ref b :: st) (cu) (su) (σ) out
def pm_r_putI (R : pm_R) : Prop := ∀ (d : Nat) (k : pm_M) (pc : Nat) (ls : List (Option Value)) (st : List Value) (cu su : Nat) (σ : pm_S) (out : pm_O) (b ci : Nat) (C : String) (T : u_T) (N : Nat) (ty : Nat → FieldType) (j idx : Nat) (v : Int32), (decode (mB k) pc = .ok (.putfield idx, 3)) → (b < σ.1) → (pm_shp b = (0, ci)) → (pm_cl ci C T N ty) → (j < N) → (pm_fk ci j ≠ 1) → (Cond.fieldLink (mY k).cls idx (T j).1 (T j).2.1 (T j).2.2.1 ∈ lw_gw) → ((T j).2.2.2 = false) → ((ty j = .int ∨ (ty j = .boolean ∧ (v = 0 ∨ v = 1)))) → R d k (pc + 3) (ls) (st) (cu) (su) (pm_sI σ b j v) out → R d k (pc) (ls) (.int v :: .ref b :: st) (cu) (su) (σ) out
def pm_r_putP (R : pm_R) : Prop := ∀ (d : Nat) (k : pm_M) (pc : Nat) (ls : List (Option Value)) (st : List Value) (cu su : Nat) (σ : pm_S) (out : pm_O) (b ci : Nat) (C : String) (T : u_T) (N : Nat) (ty : Nat → FieldType) (j idx : Nat) (r : Nat), (decode (mB k) pc = .ok (.putfield idx, 3)) → (b < σ.1) → (pm_shp b = (0, ci)) → (pm_cl ci C T N ty) → (j < N) → (pm_fk ci j = 1) → (Cond.fieldLink (mY k).cls idx (T j).1 (T j).2.1 (T j).2.2.1 ∈ lw_gw) → ((T j).2.2.2 = true) → ((mY k).name = "<init>") → ((T j).1 = (mY k).cls) → ((ty j).isReference = true) → (r < σ.1) → R d k (pc + 3) (ls) (st) (cu) (su) (pm_sP σ b j (some r)) out → R d k (pc) (ls) (.ref r :: .ref b :: st) (cu) (su) (σ) out
def pm_r_iaload (R : pm_R) : Prop := ∀ (d : Nat) (k : pm_M) (pc : Nat) (ls : List (Option Value)) (st : List Value) (cu su : Nat) (σ : pm_S) (out : pm_O) (b n : Nat) (i : Int32), (decode (mB k) pc = .ok (.iaload, 1)) → (b < σ.1) → (pm_shp b = (1, n)) → (vp_in i n) → R d k (pc + 1) (ls) (.int (σ.2.2.1 b i.toNatClampNeg) :: st) (cu) (su) (σ) out → R d k (pc) (ls) (.int i :: .ref b :: st) (cu) (su) (σ) out
def pm_r_iastore (R : pm_R) : Prop := ∀ (d : Nat) (k : pm_M) (pc : Nat) (ls : List (Option Value)) (st : List Value) (cu su : Nat) (σ : pm_S) (out : pm_O) (b n : Nat) (i v : Int32), (decode (mB k) pc = .ok (.iastore, 1)) → (b < σ.1) → (pm_shp b = (1, n)) → (vp_in i n) → R d k (pc + 1) (ls) (st) (cu) (su) (pm_sI σ b i.toNatClampNeg v) out → R d k (pc) (ls) (.int v :: .int i :: .ref b :: st) (cu) (su) (σ) out
def pm_r_laload (R : pm_R) : Prop := ∀ (d : Nat) (k : pm_M) (pc : Nat) (ls : List (Option Value)) (st : List Value) (cu su : Nat) (σ : pm_S) (out : pm_O) (b n : Nat) (i : Int32), (decode (mB k) pc = .ok (.laload, 1)) → (b < σ.1) → (pm_shp b = (2, n)) → (vp_in i n) → R d k (pc + 1) (ls) (.long (σ.2.2.2 b i.toNatClampNeg) :: st) (cu) (su) (σ) out → R d k (pc) (ls) (.int i :: .ref b :: st) (cu) (su) (σ) out
def pm_r_lastore (R : pm_R) : Prop := ∀ (d : Nat) (k : pm_M) (pc : Nat) (ls : List (Option Value)) (st : List Value) (cu su : Nat) (σ : pm_S) (out : pm_O) (b n : Nat) (i : Int32) (v : Int64), (decode (mB k) pc = .ok (.lastore, 1)) → (b < σ.1) → (pm_shp b = (2, n)) → (vp_in i n) → R d k (pc + 1) (ls) (st) (cu) (su) (pm_sJ σ b i.toNatClampNeg v) out → R d k (pc) (ls) (.long v :: .int i :: .ref b :: st) (cu) (su) (σ) out
def pm_r_aaload3 (R : pm_R) : Prop := ∀ (d : Nat) (k : pm_M) (pc : Nat) (ls : List (Option Value)) (st : List Value) (cu su : Nat) (σ : pm_S) (out : pm_O) (b n : Nat) (i : Int32) (r : Nat), (decode (mB k) pc = .ok (.aaload, 1)) → (b < σ.1) → (pm_shp b = (3, n)) → (vp_in i n) → (σ.2.1 b i.toNatClampNeg = some r) → R d k (pc + 1) (ls) (.ref r :: st) (cu) (su) (σ) out → R d k (pc) (ls) (.int i :: .ref b :: st) (cu) (su) (σ) out
def pm_r_aaload4 (R : pm_R) : Prop := ∀ (d : Nat) (k : pm_M) (pc : Nat) (ls : List (Option Value)) (st : List Value) (cu su : Nat) (σ : pm_S) (out : pm_O) (b n : Nat) (i : Int32) (r : Nat), (decode (mB k) pc = .ok (.aaload, 1)) → (b < σ.1) → (pm_shp b = (4, n)) → (vp_in i n) → (σ.2.1 b i.toNatClampNeg = some r) → R d k (pc + 1) (ls) (.ref r :: st) (cu) (su) (σ) out → R d k (pc) (ls) (.int i :: .ref b :: st) (cu) (su) (σ) out
def pm_r_alen (R : pm_R) : Prop := ∀ (d : Nat) (k : pm_M) (pc : Nat) (ls : List (Option Value)) (st : List Value) (cu su : Nat) (σ : pm_S) (out : pm_O) (b n : Nat), (decode (mB k) pc = .ok (.arraylength, 1)) → (b < σ.1) → (pm_shp b = (1, n)) → R d k (pc + 1) (ls) (.int (Int32.ofNat n) :: st) (cu) (su) (σ) out → R d k (pc) (ls) (.ref b :: st) (cu) (su) (σ) out
def pm_r_sld (R : pm_R) : Prop := ∀ (d : Nat) (k : pm_M) (pc : Nat) (ls : List (Option Value)) (st : List Value) (cu su : Nat) (σ : pm_S) (out : pm_O) (i : Int32), (decode (mB k) pc = .ok (.iaload, 1)) → ((mY k).name = "law") → (vp_in i (σ.2.2.1 1001 0).toNatClampNeg) → R d k (pc + 1) (ls) (.int (σ.2.2.1 1000 i.toNatClampNeg) :: st) (cu) (su) (σ) out → R d k (pc) (ls) (.int i :: .ref 1000 :: st) (cu) (su) (σ) out
def pm_r_slen (R : pm_R) : Prop := ∀ (d : Nat) (k : pm_M) (pc : Nat) (ls : List (Option Value)) (st : List Value) (cu su : Nat) (σ : pm_S) (out : pm_O), (decode (mB k) pc = .ok (.arraylength, 1)) → ((mY k).name = "law") → R d k (pc + 1) (ls) (.int (σ.2.2.1 1001 0) :: st) (cu) (su) (σ) out → R d k (pc) (ls) (.ref 1000 :: st) (cu) (su) (σ) out
def pm_r_new (R : pm_R) : Prop := ∀ (d : Nat) (k : pm_M) (pc : Nat) (ls : List (Option Value)) (st : List Value) (cu su : Nat) (σ : pm_S) (out : pm_O) (ci : Nat) (C : String) (T : u_T) (N : Nat) (ty : Nat → FieldType) (idx : Nat), (decode (mB k) pc = .ok (.new idx, 3)) → (pm_shp σ.1 = (0, ci)) → (pm_cl ci C T N ty) → (Cond.classLink (mY k).cls idx C ∈ lw_gw) → (Cond.instantiable C N ∈ lw_gw) → (Cond.initialized C ∈ lw_gw) → (cu + 1 ≤ mC k) → (su + N ≤ mS k) → (σ.1 + 1 ≤ 1000) → (∀ j, σ.2.2.1 σ.1 j = 0) → (∀ j, σ.2.1 σ.1 j = none) → (pm_lt σ.1 ls st = true) → R d k (pc + 3) (ls) (.ref σ.1 :: st) (cu + 1) (su + N) (σ.1 + 1, σ.2) out → R d k (pc) (ls) (st) (cu) (su) (σ) out
def pm_r_newI (R : pm_R) : Prop := ∀ (d : Nat) (k : pm_M) (pc : Nat) (ls : List (Option Value)) (st : List Value) (cu su : Nat) (σ : pm_S) (out : pm_O) (n : Nat) (x : Int32), (decode (mB k) pc = .ok (.newarray .int, 2)) → (pm_shp σ.1 = (1, n)) → (¬ x < 0) → (x.toNatClampNeg = n) → (n ≤ 1000000) → (Cond.arrayClass .int ∈ lw_gw) → (cu + 1 ≤ mC k) → (su + n ≤ mS k) → (σ.1 + 1 ≤ 1000) → (∀ j, σ.2.2.1 σ.1 j = 0) → (pm_lt σ.1 ls st = true) → R d k (pc + 2) (ls) (.ref σ.1 :: st) (cu + 1) (su + n) (σ.1 + 1, σ.2) out → R d k (pc) (ls) (.int x :: st) (cu) (su) (σ) out
def pm_r_newJ (R : pm_R) : Prop := ∀ (d : Nat) (k : pm_M) (pc : Nat) (ls : List (Option Value)) (st : List Value) (cu su : Nat) (σ : pm_S) (out : pm_O) (n : Nat) (x : Int32), (decode (mB k) pc = .ok (.newarray .long, 2)) → (pm_shp σ.1 = (2, n)) → (¬ x < 0) → (x.toNatClampNeg = n) → (n ≤ 1000000) → (Cond.arrayClass .long ∈ lw_gw) → (cu + 1 ≤ mC k) → (su + n ≤ mS k) → (σ.1 + 1 ≤ 1000) → (∀ j, σ.2.2.2 σ.1 j = 0) → (pm_lt σ.1 ls st = true) → R d k (pc + 2) (ls) (.ref σ.1 :: st) (cu + 1) (su + n) (σ.1 + 1, σ.2) out → R d k (pc) (ls) (.int x :: st) (cu) (su) (σ) out
def pm_r_mnaI (R : pm_R) : Prop := ∀ (d : Nat) (k : pm_M) (pc : Nat) (ls : List (Option Value)) (st : List Value) (cu su : Nat) (σ : pm_S) (out : pm_O) (idx n kk : Nat) (x y : Int32), (decode (mB k) pc = .ok (.multianewarray idx 2, 4)) → (pm_shp σ.1 = (3, n)) → (∀ i, i < n → pm_shp (σ.1 + 1 + i) = (1, kk)) → (¬ x < 0) → (¬ y < 0) → (x.toNatClampNeg = n) → (y.toNatClampNeg = kk) → (n ≤ 1000000 ∧ kk ≤ 1000000) → (Cond.arrayClass .int ∈ lw_gw) → (Cond.classLink (mY k).cls idx ("[" ++ (FieldType.array .int).toString) ∈ lw_gw) → (cu + 1 + n ≤ mC k) → (su + n + n * kk ≤ mS k) → (σ.1 + 1 + n ≤ 1000) → (∀ i j, σ.2.2.1 (σ.1 + 1 + i) j = 0) → (pm_lt σ.1 ls st = true) → R d k (pc + 4) (ls) (.ref σ.1 :: st) (cu + 1 + n) (su + n + n * kk) (pm_mna σ n) out → R d k (pc) (ls) (.int y :: .int x :: st) (cu) (su) (σ) out
def pm_r_mnaJ (R : pm_R) : Prop := ∀ (d : Nat) (k : pm_M) (pc : Nat) (ls : List (Option Value)) (st : List Value) (cu su : Nat) (σ : pm_S) (out : pm_O) (idx n kk : Nat) (x y : Int32), (decode (mB k) pc = .ok (.multianewarray idx 2, 4)) → (pm_shp σ.1 = (4, n)) → (∀ i, i < n → pm_shp (σ.1 + 1 + i) = (2, kk)) → (¬ x < 0) → (¬ y < 0) → (x.toNatClampNeg = n) → (y.toNatClampNeg = kk) → (n ≤ 1000000 ∧ kk ≤ 1000000) → (Cond.arrayClass .long ∈ lw_gw) → (Cond.classLink (mY k).cls idx ("[" ++ (FieldType.array .long).toString) ∈ lw_gw) → (cu + 1 + n ≤ mC k) → (su + n + n * kk ≤ mS k) → (σ.1 + 1 + n ≤ 1000) → (∀ i j, σ.2.2.2 (σ.1 + 1 + i) j = 0) → (pm_lt σ.1 ls st = true) → R d k (pc + 4) (ls) (.ref σ.1 :: st) (cu + 1 + n) (su + n + n * kk) (pm_mna σ n) out → R d k (pc) (ls) (.int y :: .int x :: st) (cu) (su) (σ) out
def pm_r_objInit (R : pm_R) : Prop := ∀ (d : Nat) (k : pm_M) (pc : Nat) (ls : List (Option Value)) (st : List Value) (cu su : Nat) (σ : pm_S) (out : pm_O) (b idx : Nat), (decode (mB k) pc = .ok (.invokespecial idx, 3)) → (Cond.methodLink (mY k).cls idx Lib.objectInit ∈ lw_gw) → (Cond.instanceMethod Lib.objectInit ∈ lw_gw) → (Cond.code Lib.objectInit ⟨#[0xb1]⟩ 1 none ∈ lw_gw) → ((st.map fun v => v.category).sum ≤ 20) → (1 ≤ d) → R d k (pc + 3) (ls) (st) (cu) (su) (σ) out → R d k (pc) (ls) (.ref b :: st) (cu) (su) (σ) out
def pm_r_mmin (R : pm_R) : Prop := ∀ (d : Nat) (k : pm_M) (pc : Nat) (ls : List (Option Value)) (st : List Value) (cu su : Nat) (σ : pm_S) (out : pm_O) (x y : Int32) (idx : Nat), (decode (mB k) pc = .ok (.invokestatic idx, 3)) → (Cond.methodLink (mY k).cls idx Lib.Math.min.name ∈ lw_gw) → (Cond.static Lib.Math.min.name ∈ lw_gw) → (Cond.initialized "java/lang/Math" ∈ lw_gw) → (Cond.code Lib.Math.min.name Lib.Math.min.code 2 (some .int) ∈ lw_gw) → ((st.map fun v => v.category).sum ≤ 20) → (1 ≤ d) → (cu ≤ mC k) → (su ≤ mS k) → R d k (pc + 3) (ls) (.int (if y < x then y else x) :: st) (cu) (su) (σ) out → R d k (pc) (ls) (.int y :: .int x :: st) (cu) (su) (σ) out
def pm_r_mmax (R : pm_R) : Prop := ∀ (d : Nat) (k : pm_M) (pc : Nat) (ls : List (Option Value)) (st : List Value) (cu su : Nat) (σ : pm_S) (out : pm_O) (x y : Int32) (idx : Nat), (decode (mB k) pc = .ok (.invokestatic idx, 3)) → (Cond.methodLink (mY k).cls idx Lib.Math.max.name ∈ lw_gw) → (Cond.static Lib.Math.max.name ∈ lw_gw) → (Cond.initialized "java/lang/Math" ∈ lw_gw) → (Cond.code Lib.Math.max.name Lib.Math.max.code 2 (some .int) ∈ lw_gw) → ((st.map fun v => v.category).sum ≤ 20) → (1 ≤ d) → (cu ≤ mC k) → (su ≤ mS k) → R d k (pc + 3) (ls) (.int (if x < y then y else x) :: st) (cu) (su) (σ) out → R d k (pc) (ls) (.int y :: .int x :: st) (cu) (su) (σ) out
def pm_r_copyi (R : pm_R) : Prop := ∀ (d : Nat) (k : pm_M) (pc : Nat) (ls : List (Option Value)) (st : List Value) (cu su : Nat) (σ : pm_S) (out : pm_O) (b0 b1 n0 n1 : Nat) (sp dp n : Int32) (idx : Nat), (decode (mB k) pc = .ok (.invokestatic idx, 3)) → (Cond.methodLink (mY k).cls idx arraycopyName ∈ lw_gw) → (Cond.native arraycopyName ∈ lw_gw) → (Cond.static arraycopyName ∈ lw_gw) → (Cond.initialized "java/lang/System" ∈ lw_gw) → (b0 < σ.1) → (b1 < σ.1) → (pm_shp b0 = (1, n0)) → (pm_shp b1 = (1, n1)) → (¬ sp < 0) → (¬ dp < 0) → (¬ n < 0) → (sp.toNatClampNeg + n.toNatClampNeg ≤ n0) → (dp.toNatClampNeg + n.toNatClampNeg ≤ n1) → ((st.map fun v => v.category).sum ≤ 20) → (2 ≤ d) → R d k (pc + 3) (ls) (st) (cu) (su) (pm_sA σ b1 (va_cpy (σ.2.2.1 b0) (σ.2.2.1 b1) sp.toNatClampNeg dp.toNatClampNeg n.toNatClampNeg)) out → R d k (pc) (ls) (.int n :: .int dp :: .ref b1 :: .int sp :: .ref b0 :: st) (cu) (su) (σ) out
def pm_r_ireturn (R : pm_R) : Prop := ∀ (d : Nat) (k : pm_M) (pc : Nat) (ls : List (Option Value)) (st : List Value) (cu su : Nat) (σ : pm_S) (out : pm_O) (v : Int32), (decode (mB k) pc = .ok (.ireturn, 1)) → (mT k = some .int) → (cu ≤ mC k) → (su ≤ mS k) → (out = (.inl (some (.int v)), σ)) → R d k (pc) (ls) ([.int v]) (cu) (su) (σ) out
def pm_r_lreturn (R : pm_R) : Prop := ∀ (d : Nat) (k : pm_M) (pc : Nat) (ls : List (Option Value)) (st : List Value) (cu su : Nat) (σ : pm_S) (out : pm_O) (v : Int64), (decode (mB k) pc = .ok (.lreturn, 1)) → (mT k = some .long) → (cu ≤ mC k) → (su ≤ mS k) → (out = (.inl (some (.long v)), σ)) → R d k (pc) (ls) ([.long v]) (cu) (su) (σ) out
def pm_r_zreturn (R : pm_R) : Prop := ∀ (d : Nat) (k : pm_M) (pc : Nat) (ls : List (Option Value)) (st : List Value) (cu su : Nat) (σ : pm_S) (out : pm_O) (v : Int32), (decode (mB k) pc = .ok (.ireturn, 1)) → (mT k = some .boolean) → (cu ≤ mC k) → (su ≤ mS k) → (out = (.inl (some (.int v)), σ)) → ((v = 0 ∨ v = 1)) → R d k (pc) (ls) ([.int v]) (cu) (su) (σ) out
def pm_r_vreturn (R : pm_R) : Prop := ∀ (d : Nat) (k : pm_M) (pc : Nat) (ls : List (Option Value)) (st : List Value) (cu su : Nat) (σ : pm_S) (out : pm_O), (decode (mB k) pc = .ok (.return_, 1)) → (mT k = none) → (cu ≤ mC k) → (su ≤ mS k) → (out = (.inl none, σ)) → R d k (pc) (ls) ([]) (cu) (su) (σ) out
def pm_r_callV (R : pm_R) : Prop := ∀ (d : Nat) (k : pm_M) (pc : Nat) (ls : List (Option Value)) (st : List Value) (cu su : Nat) (σ : pm_S) (out : pm_O) (k2 : pm_M) (idx ci b : Nat) (C : String) (T : u_T) (N : Nat) (ty : Nat → FieldType) (As : List Value) (r : Option Value) (σ2 : pm_S), (decode (mB k) pc = .ok (.invokevirtual idx, 3)) → (pm_ok k2) → (b < σ.1) → (pm_shp b = (0, ci)) → (pm_cl ci C T N ty) → ((mY k2).cls = C) → (pm_vl (mY k).cls idx (mY k2)) → (pm_np (mY k2) As.length) → (pm_cat1 As = true) → ((st.map fun v => v.category).sum ≤ 8) → (As.length + 1 ≤ mL k2) → (cu + mC k2 ≤ mC k) → (su + mS k2 ≤ mS k) → (pm_lt σ.1 ls st = true) → (pm_lt 0 [] r.toList = true) → R d k2 0 (pm_en (.ref b :: As) (mL k2)) [] 0 0 σ (.inl r, σ2) → R (d + 1) k (pc + 3) (ls) (r.toList ++ st) (cu + mC k2) (su + mS k2) (σ2) out → R (d + 1) k (pc) (ls) (As.reverse ++ .ref b :: st) (cu) (su) (σ) out
def pm_r_callS (R : pm_R) : Prop := ∀ (d : Nat) (k : pm_M) (pc : Nat) (ls : List (Option Value)) (st : List Value) (cu su : Nat) (σ : pm_S) (out : pm_O) (k2 : pm_M) (idx : Nat) (As : List Value) (r : Option Value) (σ2 : pm_S), (decode (mB k) pc = .ok (.invokestatic idx, 3)) → (pm_ok k2) → (pm_sl (mY k).cls idx (mY k2)) → (pm_np (mY k2) As.length) → (pm_cat1 As = true) → ((st.map fun v => v.category).sum ≤ 8) → (As.length ≤ mL k2) → (cu + mC k2 ≤ mC k) → (su + mS k2 ≤ mS k) → (pm_lt σ.1 ls st = true) → (pm_lt 0 [] r.toList = true) → R d k2 0 (pm_en (As) (mL k2)) [] 0 0 σ (.inl r, σ2) → R (d + 1) k (pc + 3) (ls) (r.toList ++ st) (cu + mC k2) (su + mS k2) (σ2) out → R (d + 1) k (pc) (ls) (As.reverse ++ st) (cu) (su) (σ) out
def pm_r_callI (R : pm_R) : Prop := ∀ (d : Nat) (k : pm_M) (pc : Nat) (ls : List (Option Value)) (st : List Value) (cu su : Nat) (σ : pm_S) (out : pm_O) (k2 : pm_M) (idx b : Nat) (As : List Value) (r : Option Value) (σ2 : pm_S), (decode (mB k) pc = .ok (.invokespecial idx, 3)) → (pm_ok k2) → (pm_il (mY k).cls idx (mY k2)) → (pm_np (mY k2) As.length) → (pm_cat1 As = true) → ((st.map fun v => v.category).sum ≤ 8) → (As.length + 1 ≤ mL k2) → (cu + mC k2 ≤ mC k) → (su + mS k2 ≤ mS k) → (pm_lt σ.1 ls st = true) → (mT k2 = none) → (pm_lt 0 [] r.toList = true) → R d k2 0 (pm_en (.ref b :: As) (mL k2)) [] 0 0 σ (.inl r, σ2) → R (d + 1) k (pc + 3) (ls) (r.toList ++ st) (cu + mC k2) (su + mS k2) (σ2) out → R (d + 1) k (pc) (ls) (As.reverse ++ .ref b :: st) (cu) (su) (σ) out
def pm_r_callW (R : pm_R) : Prop := ∀ (d : Nat) (k : pm_M) (pc : Nat) (ls : List (Option Value)) (st : List Value) (cu su : Nat) (σ : pm_S) (out : pm_O) (k2 : pm_M) (idx : Nat) (As : List Value) (r : Option Value) (σ2 : pm_S), (decode (mB k) pc = .ok (.invokestatic idx, 3)) → (pm_okH k2) → (pm_sl (mY k).cls idx (mY k2)) → (pm_np (mY k2) As.length) → (pm_cat1 As = true) → ((st.map fun v => v.category).sum ≤ 8) → (As.length ≤ mL k2) → (cu + mC k2 ≤ mC k) → (su + mS k2 ≤ mS k) → (pm_lt σ.1 ls st = true) → (pm_lt 0 [] r.toList = true) → R d k2 0 (pm_en (As) (mL k2)) [] 0 0 σ (.inl r, σ2) → R (d + 1) k (pc + 3) (ls) (r.toList ++ st) (cu + mC k2) (su + mS k2) (σ2) out → R (d + 1) k (pc) (ls) (As.reverse ++ st) (cu) (su) (σ) out
def pm_r_callN (R : pm_R) : Prop := ∀ (d : Nat) (k : pm_M) (pc : Nat) (ls : List (Option Value)) (st : List Value) (cu su : Nat) (σ : pm_S) (out : pm_O) (k2 : pm_M) (idx b : Nat) (As : List Value) (r : Option Value) (σ2 : pm_S), (decode (mB k) pc = .ok (.invokespecial idx, 3)) → (pm_ok k2) → (pm_nl (mY k).cls idx (mY k2)) → (pm_np (mY k2) As.length) → (pm_cat1 As = true) → ((st.map fun v => v.category).sum ≤ 8) → (As.length + 1 ≤ mL k2) → (cu + mC k2 ≤ mC k) → (su + mS k2 ≤ mS k) → (pm_lt σ.1 ls st = true) → (mT k2 = none) → (pm_lt 0 [] r.toList = true) → R d k2 0 (pm_en (.ref b :: As) (mL k2)) [] 0 0 σ (.inl r, σ2) → R (d + 1) k (pc + 3) (ls) (r.toList ++ st) (cu + mC k2) (su + mS k2) (σ2) out → R (d + 1) k (pc) (ls) (As.reverse ++ .ref b :: st) (cu) (su) (σ) out
def pm_r_callVx (R : pm_R) : Prop := ∀ (d : Nat) (k : pm_M) (pc : Nat) (ls : List (Option Value)) (st : List Value) (cu su : Nat) (σ : pm_S) (out : pm_O) (k2 : pm_M) (idx ci b : Nat) (C : String) (T : u_T) (N : Nat) (ty : Nat → FieldType) (As : List Value) (E : String) (σ2 : pm_S), (decode (mB k) pc = .ok (.invokevirtual idx, 3)) → (pm_ok k2) → (b < σ.1) → (pm_shp b = (0, ci)) → (pm_cl ci C T N ty) → ((mY k2).cls = C) → (pm_vl (mY k).cls idx (mY k2)) → (pm_np (mY k2) As.length) → (pm_cat1 As = true) → ((st.map fun v => v.category).sum ≤ 8) → (As.length + 1 ≤ mL k2) → (cu + mC k2 ≤ mC k) → (su + mS k2 ≤ mS k) → (pm_lt σ.1 ls st = true) → (mH k = []) → (out = (.inr E, σ2)) → R d k2 0 (pm_en (.ref b :: As) (mL k2)) [] 0 0 σ (.inr E, σ2) → R (d + 1) k (pc) (ls) (As.reverse ++ .ref b :: st) (cu) (su) (σ) out
def pm_r_callSx (R : pm_R) : Prop := ∀ (d : Nat) (k : pm_M) (pc : Nat) (ls : List (Option Value)) (st : List Value) (cu su : Nat) (σ : pm_S) (out : pm_O) (k2 : pm_M) (idx : Nat) (As : List Value) (E : String) (σ2 : pm_S), (decode (mB k) pc = .ok (.invokestatic idx, 3)) → (pm_ok k2) → (pm_sl (mY k).cls idx (mY k2)) → (pm_np (mY k2) As.length) → (pm_cat1 As = true) → ((st.map fun v => v.category).sum ≤ 8) → (As.length ≤ mL k2) → (cu + mC k2 ≤ mC k) → (su + mS k2 ≤ mS k) → (pm_lt σ.1 ls st = true) → (mH k = []) → (out = (.inr E, σ2)) → R d k2 0 (pm_en (As) (mL k2)) [] 0 0 σ (.inr E, σ2) → R (d + 1) k (pc) (ls) (As.reverse ++ st) (cu) (su) (σ) out
def pm_r_callVc_n (R : pm_R) : Prop := ∀ (d : Nat) (k : pm_M) (pc : Nat) (ls : List (Option Value)) (st : List Value) (cu su : Nat) (σ : pm_S) (out : pm_O) (k2 : pm_M) (idx ci b : Nat) (C : String) (T : u_T) (N : Nat) (ty : Nat → FieldType) (As : List Value) (E : String) (σ2 : pm_S) (hpc : Nat) (i : Fin 4), (decode (mB k) pc = .ok (.invokevirtual idx, 3)) → (pm_ok k2) → (b < σ.1) → (pm_shp b = (0, ci)) → (pm_cl ci C T N ty) → ((mY k2).cls = C) → (pm_vl (mY k).cls idx (mY k2)) → (pm_np (mY k2) As.length) → (pm_cat1 As = true) → ((st.map fun v => v.category).sum ≤ 8) → (As.length + 1 ≤ mL k2) → (cu + mC k2 ≤ mC k) → (su + mS k2 ≤ mS k) → (pm_lt σ.1 ls st = true) → (pm_hd k pc E hpc) → (decode (mB k) hpc = .ok (.astore_n i, 1)) → ((i : Nat) < ls.length) → (pm_pre ls (i : Nat) = true) → R d k2 0 (pm_en (.ref b :: As) (mL k2)) [] 0 0 σ (.inr E, σ2) → R (d + 1) k (hpc + 1) (ls.set (i : Nat) none) ([]) (cu + mC k2) (su + mS k2) (σ2) out → R (d + 1) k (pc) (ls) (As.reverse ++ .ref b :: st) (cu) (su) (σ) out
def pm_r_callVc (R : pm_R) : Prop := ∀ (d : Nat) (k : pm_M) (pc : Nat) (ls : List (Option Value)) (st : List Value) (cu su : Nat) (σ : pm_S) (out : pm_O) (k2 : pm_M) (idx ci b : Nat) (C : String) (T : u_T) (N : Nat) (ty : Nat → FieldType) (As : List Value) (E : String) (σ2 : pm_S) (hpc : Nat) (i : Nat), (decode (mB k) pc = .ok (.invokevirtual idx, 3)) → (pm_ok k2) → (b < σ.1) → (pm_shp b = (0, ci)) → (pm_cl ci C T N ty) → ((mY k2).cls = C) → (pm_vl (mY k).cls idx (mY k2)) → (pm_np (mY k2) As.length) → (pm_cat1 As = true) → ((st.map fun v => v.category).sum ≤ 8) → (As.length + 1 ≤ mL k2) → (cu + mC k2 ≤ mC k) → (su + mS k2 ≤ mS k) → (pm_lt σ.1 ls st = true) → (pm_hd k pc E hpc) → (decode (mB k) hpc = .ok (.astore i, 2)) → (i < ls.length) → (pm_pre ls i = true) → R d k2 0 (pm_en (.ref b :: As) (mL k2)) [] 0 0 σ (.inr E, σ2) → R (d + 1) k (hpc + 2) (ls.set i none) ([]) (cu + mC k2) (su + mS k2) (σ2) out → R (d + 1) k (pc) (ls) (As.reverse ++ .ref b :: st) (cu) (su) (σ) out
def pm_r_throwS (R : pm_R) : Prop := ∀ (d : Nat) (k : pm_M) (pc : Nat) (ls : List (Option Value)) (st : List Value) (cu su : Nat) (σ : pm_S) (out : pm_O) (E text : String) (nms : List String) (ik is ic : Nat), (decode (mB k) pc = .ok (.new ik, 3)) → (decode (mB k) (pc + 3) = .ok (.dup, 1)) → (decode (mB k) (pc + 4) = .ok (.ldc is, 2)) → (decode (mB k) (pc + 6) = .ok (.invokespecial ic, 3)) → (decode (mB k) (pc + 9) = .ok (.athrow, 1)) → (pm_tw (mY k).cls ik is ic E text nms) → (mH k = []) → (nms.length + 3 < d) → ((st.map fun v => v.category).sum + (13 * (nms.length + 1) + 43) ≤ 35 * d) → (cu + 1 ≤ mC k) → (su + 6 ≤ mS k) → (out = (.inr E, σ)) → R d k (pc) (ls) (st) (cu) (su) (σ) out
def pm_Cl (R : pm_R) : Prop := pm_r_iconst R ∧ pm_r_bipush R ∧ pm_r_sipush R ∧ pm_r_lconst R ∧ pm_r_ldc R ∧ pm_r_ldc2 R ∧ pm_r_iload R ∧ pm_r_iload_n R ∧ pm_r_lload R ∧ pm_r_lload_n R ∧ pm_r_aload R ∧ pm_r_aload_n R ∧ pm_r_iadd R ∧ pm_r_isub R ∧ pm_r_imul R ∧ pm_r_iand R ∧ pm_r_ior R ∧ pm_r_ixor R ∧ pm_r_ishl R ∧ pm_r_ishr R ∧ pm_r_idiv R ∧ pm_r_irem R ∧ pm_r_land R ∧ pm_r_lor R ∧ pm_r_lshl R ∧ pm_r_i2l R ∧ pm_r_lcmp R ∧ pm_r_dup R ∧ pm_r_pop R ∧ pm_r_dup_x1 R ∧ pm_r_dup_x2 R ∧ pm_r_dup2 R ∧ pm_r_goto R ∧ pm_r_if_eq R ∧ pm_r_if_ne R ∧ pm_r_if_lt R ∧ pm_r_if_ge R ∧ pm_r_if_gt R ∧ pm_r_if_le R ∧ pm_r_icmp_eq R ∧ pm_r_icmp_ne R ∧ pm_r_icmp_lt R ∧ pm_r_icmp_ge R ∧ pm_r_icmp_gt R ∧ pm_r_icmp_le R ∧ pm_r_tableIn R ∧ pm_r_tableOut R ∧ pm_r_istore R ∧ pm_r_istore_n R ∧ pm_r_astore R ∧ pm_r_astore_n R ∧ pm_r_lstore R ∧ pm_r_lstore_n R ∧ pm_r_iinc R ∧ pm_r_getI R ∧ pm_r_getP R ∧ pm_r_putI R ∧ pm_r_putP R ∧ pm_r_iaload R ∧ pm_r_iastore R ∧ pm_r_laload R ∧ pm_r_lastore R ∧ pm_r_aaload3 R ∧ pm_r_aaload4 R ∧ pm_r_alen R ∧ pm_r_sld R ∧ pm_r_slen R ∧ pm_r_new R ∧ pm_r_newI R ∧ pm_r_newJ R ∧ pm_r_mnaI R ∧ pm_r_mnaJ R ∧ pm_r_objInit R ∧ pm_r_mmin R ∧ pm_r_mmax R ∧ pm_r_copyi R ∧ pm_r_ireturn R ∧ pm_r_lreturn R ∧ pm_r_zreturn R ∧ pm_r_vreturn R ∧ pm_r_callV R ∧ pm_r_callS R ∧ pm_r_callI R ∧ pm_r_callW R ∧ pm_r_callN R ∧ pm_r_callVx R ∧ pm_r_callSx R ∧ pm_r_callVc_n R ∧ pm_r_callVc R ∧ pm_r_throwS R
/-- the least relation that keeps the rules -/
def pm_Go : pm_R := fun d k pc ls st cu su σ out => ∀ R : pm_R, pm_Cl R → R d k pc ls st cu su σ out
theorem go_iconst {d : Nat} {k : pm_M} {pc : Nat} {ls : List (Option Value)} {st : List Value} {cu su : Nat} {σ : pm_S} {out : pm_O} {n : Int} {v : Int32} (hd : decode (mB k) pc = .ok (.iconst n, 1)) (h1 : Int32.ofInt n = v) (ih : pm_Go d k (pc + 1) (ls) (.int v :: st) (cu) (su) (σ) out) : pm_Go d k (pc) (ls) (st) (cu) (su) (σ) out := fun R hR => hR.1 d k pc ls st cu su σ out n v hd h1 (ih R hR)
theorem go_bipush {d : Nat} {k : pm_M} {pc : Nat} {ls : List (Option Value)} {st : List Value} {cu su : Nat} {σ : pm_S} {out : pm_O} {n : Int} {v : Int32} (hd : decode (mB k) pc = .ok (.bipush n, 2)) (h1 : (Int8.ofInt n).toInt32 = v) (ih : pm_Go d k (pc + 2) (ls) (.int v :: st) (cu) (su) (σ) out) : pm_Go d k (pc) (ls) (st) (cu) (su) (σ) out := fun R hR => hR.2.1 d k pc ls st cu su σ out n v hd h1 (ih R hR)
theorem go_sipush {d : Nat} {k : pm_M} {pc : Nat} {ls : List (Option Value)} {st : List Value} {cu su : Nat} {σ : pm_S} {out : pm_O} {n : Int} {v : Int32} (hd : decode (mB k) pc = .ok (.sipush n, 3)) (h1 : (Int16.ofInt n).toInt32 = v) (ih : pm_Go d k (pc + 3) (ls) (.int v :: st) (cu) (su) (σ) out) : pm_Go d k (pc) (ls) (st) (cu) (su) (σ) out := fun R hR => hR.2.2.1 d k pc ls st cu su σ out n v hd h1 (ih R hR)
theorem go_lconst {d : Nat} {k : pm_M} {pc : Nat} {ls : List (Option Value)} {st : List Value} {cu su : Nat} {σ : pm_S} {out : pm_O} {n : Fin 2} {v : Int64} (hd : decode (mB k) pc = .ok (.lconst n, 1)) (h1 : Int64.ofNat (n : Nat) = v) (ih : pm_Go d k (pc + 1) (ls) (.long v :: st) (cu) (su) (σ) out) : pm_Go d k (pc) (ls) (st) (cu) (su) (σ) out := fun R hR => hR.2.2.2.1 d k pc ls st cu su σ out n v hd h1 (ih R hR)
theorem go_ldc {d : Nat} {k : pm_M} {pc : Nat} {ls : List (Option Value)} {st : List Value} {cu su : Nat} {σ : pm_S} {out : pm_O} {idx : Nat} {v : Int32} (hd : decode (mB k) pc = .ok (.ldc idx, 2)) (h1 : Cond.constant (mY k).cls idx v ∈ lw_gw) (ih : pm_Go d k (pc + 2) (ls) (.int v :: st) (cu) (su) (σ) out) : pm_Go d k (pc) (ls) (st) (cu) (su) (σ) out := fun R hR => hR.2.2.2.2.1 d k pc ls st cu su σ out idx v hd h1 (ih R hR)
theorem go_ldc2 {d : Nat} {k : pm_M} {pc : Nat} {ls : List (Option Value)} {st : List Value} {cu su : Nat} {σ : pm_S} {out : pm_O} {idx : Nat} {v : Int64} (hd : decode (mB k) pc = .ok (.ldc2_w idx, 3)) (h1 : Cond.constantLong (mY k).cls idx v ∈ lw_gw) (ih : pm_Go d k (pc + 3) (ls) (.long v :: st) (cu) (su) (σ) out) : pm_Go d k (pc) (ls) (st) (cu) (su) (σ) out := fun R hR => hR.2.2.2.2.2.1 d k pc ls st cu su σ out idx v hd h1 (ih R hR)
theorem go_iload {d : Nat} {k : pm_M} {pc : Nat} {ls : List (Option Value)} {st : List Value} {cu su : Nat} {σ : pm_S} {out : pm_O} {i : Nat} {x : Int32} (hd : decode (mB k) pc = .ok (.iload i, 2)) (h1 : ls[i]? = some (some (.int x))) (ih : pm_Go d k (pc + 2) (ls) (.int x :: st) (cu) (su) (σ) out) : pm_Go d k (pc) (ls) (st) (cu) (su) (σ) out := fun R hR => hR.2.2.2.2.2.2.1 d k pc ls st cu su σ out i x hd h1 (ih R hR)
theorem go_iload_n {d : Nat} {k : pm_M} {pc : Nat} {ls : List (Option Value)} {st : List Value} {cu su : Nat} {σ : pm_S} {out : pm_O} {i : Fin 4} {x : Int32} (hd : decode (mB k) pc = .ok (.iload_n i, 1)) (h1 : ls[(i : Nat)]? = some (some (.int x))) (ih : pm_Go d k (pc + 1) (ls) (.int x :: st) (cu) (su) (σ) out) : pm_Go d k (pc) (ls) (st) (cu) (su) (σ) out := fun R hR => hR.2.2.2.2.2.2.2.1 d k pc ls st cu su σ out i x hd h1 (ih R hR)
theorem go_lload {d : Nat} {k : pm_M} {pc : Nat} {ls : List (Option Value)} {st : List Value} {cu su : Nat} {σ : pm_S} {out : pm_O} {i : Nat} {x : Int64} (hd : decode (mB k) pc = .ok (.lload i, 2)) (h1 : ls[i]? = some (some (.long x))) (ih : pm_Go d k (pc + 2) (ls) (.long x :: st) (cu) (su) (σ) out) : pm_Go d k (pc) (ls) (st) (cu) (su) (σ) out := fun R hR => hR.2.2.2.2.2.2.2.2.1 d k pc ls st cu su σ out i x hd h1 (ih R hR)
theorem go_lload_n {d : Nat} {k : pm_M} {pc : Nat} {ls : List (Option Value)} {st : List Value} {cu su : Nat} {σ : pm_S} {out : pm_O} {i : Fin 4} {x : Int64} (hd : decode (mB k) pc = .ok (.lload_n i, 1)) (h1 : ls[(i : Nat)]? = some (some (.long x))) (ih : pm_Go d k (pc + 1) (ls) (.long x :: st) (cu) (su) (σ) out) : pm_Go d k (pc) (ls) (st) (cu) (su) (σ) out := fun R hR => hR.2.2.2.2.2.2.2.2.2.1 d k pc ls st cu su σ out i x hd h1 (ih R hR)
theorem go_aload {d : Nat} {k : pm_M} {pc : Nat} {ls : List (Option Value)} {st : List Value} {cu su : Nat} {σ : pm_S} {out : pm_O} {i : Nat} {x : Nat} (hd : decode (mB k) pc = .ok (.aload i, 2)) (h1 : ls[i]? = some (some (.ref x))) (ih : pm_Go d k (pc + 2) (ls) (.ref x :: st) (cu) (su) (σ) out) : pm_Go d k (pc) (ls) (st) (cu) (su) (σ) out := fun R hR => hR.2.2.2.2.2.2.2.2.2.2.1 d k pc ls st cu su σ out i x hd h1 (ih R hR)
theorem go_aload_n {d : Nat} {k : pm_M} {pc : Nat} {ls : List (Option Value)} {st : List Value} {cu su : Nat} {σ : pm_S} {out : pm_O} {i : Fin 4} {x : Nat} (hd : decode (mB k) pc = .ok (.aload_n i, 1)) (h1 : ls[(i : Nat)]? = some (some (.ref x))) (ih : pm_Go d k (pc + 1) (ls) (.ref x :: st) (cu) (su) (σ) out) : pm_Go d k (pc) (ls) (st) (cu) (su) (σ) out := fun R hR => hR.2.2.2.2.2.2.2.2.2.2.2.1 d k pc ls st cu su σ out i x hd h1 (ih R hR)
theorem go_iadd {d : Nat} {k : pm_M} {pc : Nat} {ls : List (Option Value)} {st : List Value} {cu su : Nat} {σ : pm_S} {out : pm_O} {x y : Int32} (hd : decode (mB k) pc = .ok (.iadd, 1)) (ih : pm_Go d k (pc + 1) (ls) (.int (x + y) :: st) (cu) (su) (σ) out) : pm_Go d k (pc) (ls) (.int y :: .int x :: st) (cu) (su) (σ) out := fun R hR => hR.2.2.2.2.2.2.2.2.2.2.2.2.1 d k pc ls st cu su σ out x y hd (ih R hR)
theorem go_isub {d : Nat} {k : pm_M} {pc : Nat} {ls : List (Option Value)} {st : List Value} {cu su : Nat} {σ : pm_S} {out : pm_O} {x y : Int32} (hd : decode (mB k) pc = .ok (.isub, 1)) (ih : pm_Go d k (pc + 1) (ls) (.int (x - y) :: st) (cu) (su) (σ) out) : pm_Go d k (pc) (ls) (.int y :: .int x :: st) (cu) (su) (σ) out := fun R hR => hR.2.2.2.2.2.2.2.2.2.2.2.2.2.1 d k pc ls st cu su σ out x y hd (ih R hR)
theorem go_imul {d : Nat} {k : pm_M} {pc : Nat} {ls : List (Option Value)} {st : List Value} {cu su : Nat} {σ : pm_S} {out : pm_O} {x y : Int32} (hd : decode (mB k) pc = .ok (.imul, 1)) (ih : pm_Go d k (pc + 1) (ls) (.int (x * y) :: st) (cu) (su) (σ) out) : pm_Go d k (pc) (ls) (.int y :: .int x :: st) (cu) (su) (σ) out := fun R hR => hR.2.2.2.2.2.2.2.2.2.2.2.2.2.2.1 d k pc ls st cu su σ out x y hd (ih R hR)
theorem go_iand {d : Nat} {k : pm_M} {pc : Nat} {ls : List (Option Value)} {st : List Value} {cu su : Nat} {σ : pm_S} {out : pm_O} {x y : Int32} (hd : decode (mB k) pc = .ok (.iand, 1)) (ih : pm_Go d k (pc + 1) (ls) (.int (x &&& y) :: st) (cu) (su) (σ) out) : pm_Go d k (pc) (ls) (.int y :: .int x :: st) (cu) (su) (σ) out := fun R hR => hR.2.2.2.2.2.2.2.2.2.2.2.2.2.2.2.1 d k pc ls st cu su σ out x y hd (ih R hR)
theorem go_ior {d : Nat} {k : pm_M} {pc : Nat} {ls : List (Option Value)} {st : List Value} {cu su : Nat} {σ : pm_S} {out : pm_O} {x y : Int32} (hd : decode (mB k) pc = .ok (.ior, 1)) (ih : pm_Go d k (pc + 1) (ls) (.int (x ||| y) :: st) (cu) (su) (σ) out) : pm_Go d k (pc) (ls) (.int y :: .int x :: st) (cu) (su) (σ) out := fun R hR => hR.2.2.2.2.2.2.2.2.2.2.2.2.2.2.2.2.1 d k pc ls st cu su σ out x y hd (ih R hR)
theorem go_ixor {d : Nat} {k : pm_M} {pc : Nat} {ls : List (Option Value)} {st : List Value} {cu su : Nat} {σ : pm_S} {out : pm_O} {x y : Int32} (hd : decode (mB k) pc = .ok (.ixor, 1)) (ih : pm_Go d k (pc + 1) (ls) (.int (x ^^^ y) :: st) (cu) (su) (σ) out) : pm_Go d k (pc) (ls) (.int y :: .int x :: st) (cu) (su) (σ) out := fun R hR => hR.2.2.2.2.2.2.2.2.2.2.2.2.2.2.2.2.2.1 d k pc ls st cu su σ out x y hd (ih R hR)
theorem go_ishl {d : Nat} {k : pm_M} {pc : Nat} {ls : List (Option Value)} {st : List Value} {cu su : Nat} {σ : pm_S} {out : pm_O} {x y : Int32} (hd : decode (mB k) pc = .ok (.ishl, 1)) (ih : pm_Go d k (pc + 1) (ls) (.int (x <<< (y &&& 31)) :: st) (cu) (su) (σ) out) : pm_Go d k (pc) (ls) (.int y :: .int x :: st) (cu) (su) (σ) out := fun R hR => hR.2.2.2.2.2.2.2.2.2.2.2.2.2.2.2.2.2.2.1 d k pc ls st cu su σ out x y hd (ih R hR)
theorem go_ishr {d : Nat} {k : pm_M} {pc : Nat} {ls : List (Option Value)} {st : List Value} {cu su : Nat} {σ : pm_S} {out : pm_O} {x y : Int32} (hd : decode (mB k) pc = .ok (.ishr, 1)) (ih : pm_Go d k (pc + 1) (ls) (.int (x >>> (y &&& 31)) :: st) (cu) (su) (σ) out) : pm_Go d k (pc) (ls) (.int y :: .int x :: st) (cu) (su) (σ) out := fun R hR => hR.2.2.2.2.2.2.2.2.2.2.2.2.2.2.2.2.2.2.2.1 d k pc ls st cu su σ out x y hd (ih R hR)
theorem go_idiv {d : Nat} {k : pm_M} {pc : Nat} {ls : List (Option Value)} {st : List Value} {cu su : Nat} {σ : pm_S} {out : pm_O} {x y : Int32} (hd : decode (mB k) pc = .ok (.idiv, 1)) (h1 : ¬ y = 0) (ih : pm_Go d k (pc + 1) (ls) (.int (x / y) :: st) (cu) (su) (σ) out) : pm_Go d k (pc) (ls) (.int y :: .int x :: st) (cu) (su) (σ) out := fun R hR => hR.2.2.2.2.2.2.2.2.2.2.2.2.2.2.2.2.2.2.2.2.1 d k pc ls st cu su σ out x y hd h1 (ih R hR)
theorem go_irem {d : Nat} {k : pm_M} {pc : Nat} {ls : List (Option Value)} {st : List Value} {cu su : Nat} {σ : pm_S} {out : pm_O} {x y : Int32} (hd : decode (mB k) pc = .ok (.irem, 1)) (h1 : ¬ y = 0) (ih : pm_Go d k (pc + 1) (ls) (.int (x - x / y * y) :: st) (cu) (su) (σ) out) : pm_Go d k (pc) (ls) (.int y :: .int x :: st) (cu) (su) (σ) out := fun R hR => hR.2.2.2.2.2.2.2.2.2.2.2.2.2.2.2.2.2.2.2.2.2.1 d k pc ls st cu su σ out x y hd h1 (ih R hR)
theorem go_land {d : Nat} {k : pm_M} {pc : Nat} {ls : List (Option Value)} {st : List Value} {cu su : Nat} {σ : pm_S} {out : pm_O} {x y : Int64} (hd : decode (mB k) pc = .ok (.land, 1)) (ih : pm_Go d k (pc + 1) (ls) (.long (x &&& y) :: st) (cu) (su) (σ) out) : pm_Go d k (pc) (ls) (.long y :: .long x :: st) (cu) (su) (σ) out := fun R hR => hR.2.2.2.2.2.2.2.2.2.2.2.2.2.2.2.2.2.2.2.2.2.2.1 d k pc ls st cu su σ out x y hd (ih R hR)
theorem go_lor {d : Nat} {k : pm_M} {pc : Nat} {ls : List (Option Value)} {st : List Value} {cu su : Nat} {σ : pm_S} {out : pm_O} {x y : Int64} (hd : decode (mB k) pc = .ok (.lor, 1)) (ih : pm_Go d k (pc + 1) (ls) (.long (x ||| y) :: st) (cu) (su) (σ) out) : pm_Go d k (pc) (ls) (.long y :: .long x :: st) (cu) (su) (σ) out := fun R hR => hR.2.2.2.2.2.2.2.2.2.2.2.2.2.2.2.2.2.2.2.2.2.2.2.1 d k pc ls st cu su σ out x y hd (ih R hR)
theorem go_lshl {d : Nat} {k : pm_M} {pc : Nat} {ls : List (Option Value)} {st : List Value} {cu su : Nat} {σ : pm_S} {out : pm_O} {x : Int64} {y : Int32} (hd : decode (mB k) pc = .ok (.lshl, 1)) (ih : pm_Go d k (pc + 1) (ls) (.long (x <<< (y.toInt64 &&& 63)) :: st) (cu) (su) (σ) out) : pm_Go d k (pc) (ls) (.int y :: .long x :: st) (cu) (su) (σ) out := fun R hR => hR.2.2.2.2.2.2.2.2.2.2.2.2.2.2.2.2.2.2.2.2.2.2.2.2.1 d k pc ls st cu su σ out x y hd (ih R hR)
theorem go_i2l {d : Nat} {k : pm_M} {pc : Nat} {ls : List (Option Value)} {st : List Value} {cu su : Nat} {σ : pm_S} {out : pm_O} {x : Int32} (hd : decode (mB k) pc = .ok (.i2l, 1)) (ih : pm_Go d k (pc + 1) (ls) (.long x.toInt64 :: st) (cu) (su) (σ) out) : pm_Go d k (pc) (ls) (.int x :: st) (cu) (su) (σ) out := fun R hR => hR.2.2.2.2.2.2.2.2.2.2.2.2.2.2.2.2.2.2.2.2.2.2.2.2.2.1 d k pc ls st cu su σ out x hd (ih R hR)
theorem go_lcmp {d : Nat} {k : pm_M} {pc : Nat} {ls : List (Option Value)} {st : List Value} {cu su : Nat} {σ : pm_S} {out : pm_O} {x y : Int64} (hd : decode (mB k) pc = .ok (.lcmp, 1)) (ih : pm_Go d k (pc + 1) (ls) (.int (lg_cmp x y) :: st) (cu) (su) (σ) out) : pm_Go d k (pc) (ls) (.long y :: .long x :: st) (cu) (su) (σ) out := fun R hR => hR.2.2.2.2.2.2.2.2.2.2.2.2.2.2.2.2.2.2.2.2.2.2.2.2.2.2.1 d k pc ls st cu su σ out x y hd (ih R hR)
theorem go_dup {d : Nat} {k : pm_M} {pc : Nat} {ls : List (Option Value)} {st : List Value} {cu su : Nat} {σ : pm_S} {out : pm_O} {va : Value} (hd : decode (mB k) pc = .ok (.dup, 1)) (h1 : va.category = 1) (ih : pm_Go d k (pc + 1) (ls) (va :: va :: st) (cu) (su) (σ) out) : pm_Go d k (pc) (ls) (va :: st) (cu) (su) (σ) out := fun R hR => hR.2.2.2.2.2.2.2.2.2.2.2.2.2.2.2.2.2.2.2.2.2.2.2.2.2.2.2.1 d k pc ls st cu su σ out va hd h1 (ih R hR)
theorem go_pop {d : Nat} {k : pm_M} {pc : Nat} {ls : List (Option Value)} {st : List Value} {cu su : Nat} {σ : pm_S} {out : pm_O} {va : Value} (hd : decode (mB k) pc = .ok (.pop, 1)) (h1 : va.category = 1) (ih : pm_Go d k (pc + 1) (ls) (st) (cu) (su) (σ) out) : pm_Go d k (pc) (ls) (va :: st) (cu) (su) (σ) out := fun R hR => hR.2.2.2.2.2.2.2.2.2.2.2.2.2.2.2.2.2.2.2.2.2.2.2.2.2.2.2.2.1 d k pc ls st cu su σ out va hd h1 (ih R hR)
theorem go_dup_x1 {d : Nat} {k : pm_M} {pc : Nat} {ls : List (Option Value)} {st : List Value} {cu su : Nat} {σ : pm_S} {out : pm_O} {va vb : Value} (hd : decode (mB k) pc = .ok (.dup_x1, 1)) (h1 : va.category = 1) (h2 : vb.category = 1) (ih : pm_Go d k (pc + 1) (ls) (va :: vb :: va :: st) (cu) (su) (σ) out) : pm_Go d k (pc) (ls) (va :: vb :: st) (cu) (su) (σ) out := fun R hR => hR.2.2.2.2.2.2.2.2.2.2.2.2.2.2.2.2.2.2.2.2.2.2.2.2.2.2.2.2.2.1 d k pc ls st cu su σ out va vb hd h1 h2 (ih R hR)
theorem go_dup_x2 {d : Nat} {k : pm_M} {pc : Nat} {ls : List (Option Value)} {st : List Value} {cu su : Nat} {σ : pm_S} {out : pm_O} {va vb vd : Value} (hd : decode (mB k) pc = .ok (.dup_x2, 1)) (h1 : va.category = 1) (h2 : vb.category = 1) (h3 : vd.category = 1) (ih : pm_Go d k (pc + 1) (ls) (va :: vb :: vd :: va :: st) (cu) (su) (σ) out) : pm_Go d k (pc) (ls) (va :: vb :: vd :: st) (cu) (su) (σ) out := fun R hR => hR.2.2.2.2.2.2.2.2.2.2.2.2.2.2.2.2.2.2.2.2.2.2.2.2.2.2.2.2.2.2.1 d k pc ls st cu su σ out va vb vd hd h1 h2 h3 (ih R hR)
theorem go_dup2 {d : Nat} {k : pm_M} {pc : Nat} {ls : List (Option Value)} {st : List Value} {cu su : Nat} {σ : pm_S} {out : pm_O} {va vb : Value} (hd : decode (mB k) pc = .ok (.dup2, 1)) (h1 : va.category = 1) (h2 : vb.category = 1) (ih : pm_Go d k (pc + 1) (ls) (va :: vb :: va :: vb :: st) (cu) (su) (σ) out) : pm_Go d k (pc) (ls) (va :: vb :: st) (cu) (su) (σ) out := fun R hR => hR.2.2.2.2.2.2.2.2.2.2.2.2.2.2.2.2.2.2.2.2.2.2.2.2.2.2.2.2.2.2.2.1 d k pc ls st cu su σ out va vb hd h1 h2 (ih R hR)
theorem go_goto {d : Nat} {k : pm_M} {pc : Nat} {ls : List (Option Value)} {st : List Value} {cu su : Nat} {σ : pm_S} {out : pm_O} {off : Int} {tgt : Nat} (hd : decode (mB k) pc = .ok (.goto off, 3)) (h1 : (pc : Int) + off = (tgt : Int)) (ih : pm_Go d k (tgt) (ls) (st) (cu) (su) (σ) out) : pm_Go d k (pc) (ls) (st) (cu) (su) (σ) out := fun R hR => hR.2.2.2.2.2.2.2.2.2.2.2.2.2.2.2.2.2.2.2.2.2.2.2.2.2.2.2.2.2.2.2.2.1 d k pc ls st cu su σ out off tgt hd h1 (ih R hR)
theorem go_if_eq {d : Nat} {k : pm_M} {pc : Nat} {ls : List (Option Value)} {st : List Value} {cu su : Nat} {σ : pm_S} {out : pm_O} {x : Int32} {off : Int} {tgt : Nat} (hd : decode (mB k) pc = .ok (.ifCond .eq off, 3)) (h1 : (pc : Int) + off = (tgt : Int)) (ih : x = 0 → pm_Go d k (tgt) (ls) (st) (cu) (su) (σ) out) (ih2 : ¬ x = 0 → pm_Go d k (pc + 3) (ls) (st) (cu) (su) (σ) out) : pm_Go d k (pc) (ls) (.int x :: st) (cu) (su) (σ) out := fun R hR => hR.2.2.2.2.2.2.2.2.2.2.2.2.2.2.2.2.2.2.2.2.2.2.2.2.2.2.2.2.2.2.2.2.2.1 d k pc ls st cu su σ out x off tgt hd h1 (fun z => ih z R hR) (fun z => ih2 z R hR)
theorem go_if_ne {d : Nat} {k : pm_M} {pc : Nat} {ls : List (Option Value)} {st : List Value} {cu su : Nat} {σ : pm_S} {out : pm_O} {x : Int32} {off : Int} {tgt : Nat} (hd : decode (mB k) pc = .ok (.ifCond .ne off, 3)) (h1 : (pc : Int) + off = (tgt : Int)) (ih : ¬ x = 0 → pm_Go d k (tgt) (ls) (st) (cu) (su) (σ) out) (ih2 : x = 0 → pm_Go d k (pc + 3) (ls) (st) (cu) (su) (σ) out) : pm_Go d k (pc) (ls) (.int x :: st) (cu) (su) (σ) out := fun R hR => hR.2.2.2.2.2.2.2.2.2.2.2.2.2.2.2.2.2.2.2.2.2.2.2.2.2.2.2.2.2.2.2.2.2.2.1 d k pc ls st cu su σ out x off tgt hd h1 (fun z => ih z R hR) (fun z => ih2 z R hR)
theorem go_if_lt {d : Nat} {k : pm_M} {pc : Nat} {ls : List (Option Value)} {st : List Value} {cu su : Nat} {σ : pm_S} {out : pm_O} {x : Int32} {off : Int} {tgt : Nat} (hd : decode (mB k) pc = .ok (.ifCond .lt off, 3)) (h1 : (pc : Int) + off = (tgt : Int)) (ih : x < 0 → pm_Go d k (tgt) (ls) (st) (cu) (su) (σ) out) (ih2 : ¬ x < 0 → pm_Go d k (pc + 3) (ls) (st) (cu) (su) (σ) out) : pm_Go d k (pc) (ls) (.int x :: st) (cu) (su) (σ) out := fun R hR => hR.2.2.2.2.2.2.2.2.2.2.2.2.2.2.2.2.2.2.2.2.2.2.2.2.2.2.2.2.2.2.2.2.2.2.2.1 d k pc ls st cu su σ out x off tgt hd h1 (fun z => ih z R hR) (fun z => ih2 z R hR)
theorem go_if_ge {d : Nat} {k : pm_M} {pc : Nat} {ls : List (Option Value)} {st : List Value} {cu su : Nat} {σ : pm_S} {out : pm_O} {x : Int32} {off : Int} {tgt : Nat} (hd : decode (mB k) pc = .ok (.ifCond .ge off, 3)) (h1 : (pc : Int) + off = (tgt : Int)) (ih : 0 ≤ x → pm_Go d k (tgt) (ls) (st) (cu) (su) (σ) out) (ih2 : ¬ 0 ≤ x → pm_Go d k (pc + 3) (ls) (st) (cu) (su) (σ) out) : pm_Go d k (pc) (ls) (.int x :: st) (cu) (su) (σ) out := fun R hR => hR.2.2.2.2.2.2.2.2.2.2.2.2.2.2.2.2.2.2.2.2.2.2.2.2.2.2.2.2.2.2.2.2.2.2.2.2.1 d k pc ls st cu su σ out x off tgt hd h1 (fun z => ih z R hR) (fun z => ih2 z R hR)
theorem go_if_gt {d : Nat} {k : pm_M} {pc : Nat} {ls : List (Option Value)} {st : List Value} {cu su : Nat} {σ : pm_S} {out : pm_O} {x : Int32} {off : Int} {tgt : Nat} (hd : decode (mB k) pc = .ok (.ifCond .gt off, 3)) (h1 : (pc : Int) + off = (tgt : Int)) (ih : 0 < x → pm_Go d k (tgt) (ls) (st) (cu) (su) (σ) out) (ih2 : ¬ 0 < x → pm_Go d k (pc + 3) (ls) (st) (cu) (su) (σ) out) : pm_Go d k (pc) (ls) (.int x :: st) (cu) (su) (σ) out := fun R hR => hR.2.2.2.2.2.2.2.2.2.2.2.2.2.2.2.2.2.2.2.2.2.2.2.2.2.2.2.2.2.2.2.2.2.2.2.2.2.1 d k pc ls st cu su σ out x off tgt hd h1 (fun z => ih z R hR) (fun z => ih2 z R hR)
theorem go_if_le {d : Nat} {k : pm_M} {pc : Nat} {ls : List (Option Value)} {st : List Value} {cu su : Nat} {σ : pm_S} {out : pm_O} {x : Int32} {off : Int} {tgt : Nat} (hd : decode (mB k) pc = .ok (.ifCond .le off, 3)) (h1 : (pc : Int) + off = (tgt : Int)) (ih : x ≤ 0 → pm_Go d k (tgt) (ls) (st) (cu) (su) (σ) out) (ih2 : ¬ x ≤ 0 → pm_Go d k (pc + 3) (ls) (st) (cu) (su) (σ) out) : pm_Go d k (pc) (ls) (.int x :: st) (cu) (su) (σ) out := fun R hR => hR.2.2.2.2.2.2.2.2.2.2.2.2.2.2.2.2.2.2.2.2.2.2.2.2.2.2.2.2.2.2.2.2.2.2.2.2.2.2.1 d k pc ls st cu su σ out x off tgt hd h1 (fun z => ih z R hR) (fun z => ih2 z R hR)
theorem go_icmp_eq {d : Nat} {k : pm_M} {pc : Nat} {ls : List (Option Value)} {st : List Value} {cu su : Nat} {σ : pm_S} {out : pm_O} {x y : Int32} {off : Int} {tgt : Nat} (hd : decode (mB k) pc = .ok (.if_icmp .eq off, 3)) (h1 : (pc : Int) + off = (tgt : Int)) (ih : x = y → pm_Go d k (tgt) (ls) (st) (cu) (su) (σ) out) (ih2 : ¬ x = y → pm_Go d k (pc + 3) (ls) (st) (cu) (su) (σ) out) : pm_Go d k (pc) (ls) (.int y :: .int x :: st) (cu) (su) (σ) out := fun R hR => hR.2.2.2.2.2.2.2.2.2.2.2.2.2.2.2.2.2.2.2.2.2.2.2.2.2.2.2.2.2.2.2.2.2.2.2.2.2.2.2.1 d k pc ls st cu su σ out x y off tgt hd h1 (fun z => ih z R hR) (fun z => ih2 z R hR)
theorem go_icmp_ne {d : Nat} {k : pm_M} {pc : Nat} {ls : List (Option Value)} {st : List Value} {cu su : Nat} {σ : pm_S} {out : pm_O} {x y : Int32} {off : Int} {tgt : Nat} (hd : decode (mB k) pc = .ok (.if_icmp .ne off, 3)) (h1 : (pc : Int) + off = (tgt : Int)) (ih : ¬ x = y → pm_Go d k (tgt) (ls) (st) (cu) (su) (σ) out) (ih2 : x = y → pm_Go d k (pc + 3) (ls) (st) (cu) (su) (σ) out) : pm_Go d k (pc) (ls) (.int y :: .int x :: st) (cu) (su) (σ) out := fun R hR => hR.2.2.2.2.2.2.2.2.2.2.2.2.2.2.2.2.2.2.2.2.2.2.2.2.2.2.2.2.2.2.2.2.2.2.2.2.2.2.2.2.1 d k pc ls st cu su σ out x y off tgt hd h1 (fun z => ih z R hR) (fun z => ih2 z R hR)
theorem go_icmp_lt {d : Nat} {k : pm_M} {pc : Nat} {ls : List (Option Value)} {st : List Value} {cu su : Nat} {σ : pm_S} {out : pm_O} {x y : Int32} {off : Int} {tgt : Nat} (hd : decode (mB k) pc = .ok (.if_icmp .lt off, 3)) (h1 : (pc : Int) + off = (tgt : Int)) (ih : x < y → pm_Go d k (tgt) (ls) (st) (cu) (su) (σ) out) (ih2 : ¬ x < y → pm_Go d k (pc + 3) (ls) (st) (cu) (su) (σ) out) : pm_Go d k (pc) (ls) (.int y :: .int x :: st) (cu) (su) (σ) out := fun R hR => hR.2.2.2.2.2.2.2.2.2.2.2.2.2.2.2.2.2.2.2.2.2.2.2.2.2.2.2.2.2.2.2.2.2.2.2.2.2.2.2.2.2.1 d k pc ls st cu su σ out x y off tgt hd h1 (fun z => ih z R hR) (fun z => ih2 z R hR)
theorem go_icmp_ge {d : Nat} {k : pm_M} {pc : Nat} {ls : List (Option Value)} {st : List Value} {cu su : Nat} {σ : pm_S} {out : pm_O} {x y : Int32} {off : Int} {tgt : Nat} (hd : decode (mB k) pc = .ok (.if_icmp .ge off, 3)) (h1 : (pc : Int) + off = (tgt : Int)) (ih : y ≤ x → pm_Go d k (tgt) (ls) (st) (cu) (su) (σ) out) (ih2 : ¬ y ≤ x → pm_Go d k (pc + 3) (ls) (st) (cu) (su) (σ) out) : pm_Go d k (pc) (ls) (.int y :: .int x :: st) (cu) (su) (σ) out := fun R hR => hR.2.2.2.2.2.2.2.2.2.2.2.2.2.2.2.2.2.2.2.2.2.2.2.2.2.2.2.2.2.2.2.2.2.2.2.2.2.2.2.2.2.2.1 d k pc ls st cu su σ out x y off tgt hd h1 (fun z => ih z R hR) (fun z => ih2 z R hR)
theorem go_icmp_gt {d : Nat} {k : pm_M} {pc : Nat} {ls : List (Option Value)} {st : List Value} {cu su : Nat} {σ : pm_S} {out : pm_O} {x y : Int32} {off : Int} {tgt : Nat} (hd : decode (mB k) pc = .ok (.if_icmp .gt off, 3)) (h1 : (pc : Int) + off = (tgt : Int)) (ih : y < x → pm_Go d k (tgt) (ls) (st) (cu) (su) (σ) out) (ih2 : ¬ y < x → pm_Go d k (pc + 3) (ls) (st) (cu) (su) (σ) out) : pm_Go d k (pc) (ls) (.int y :: .int x :: st) (cu) (su) (σ) out := fun R hR => hR.2.2.2.2.2.2.2.2.2.2.2.2.2.2.2.2.2.2.2.2.2.2.2.2.2.2.2.2.2.2.2.2.2.2.2.2.2.2.2.2.2.2.2.1 d k pc ls st cu su σ out x y off tgt hd h1 (fun z => ih z R hR) (fun z => ih2 z R hR)
theorem go_icmp_le {d : Nat} {k : pm_M} {pc : Nat} {ls : List (Option Value)} {st : List Value} {cu su : Nat} {σ : pm_S} {out : pm_O} {x y : Int32} {off : Int} {tgt : Nat} (hd : decode (mB k) pc = .ok (.if_icmp .le off, 3)) (h1 : (pc : Int) + off = (tgt : Int)) (ih : x ≤ y → pm_Go d k (tgt) (ls) (st) (cu) (su) (σ) out) (ih2 : ¬ x ≤ y → pm_Go d k (pc + 3) (ls) (st) (cu) (su) (σ) out) : pm_Go d k (pc) (ls) (.int y :: .int x :: st) (cu) (su) (σ) out := fun R hR => hR.2.2.2.2.2.2.2.2.2.2.2.2.2.2.2.2.2.2.2.2.2.2.2.2.2.2.2.2.2.2.2.2.2.2.2.2.2.2.2.2.2.2.2.2.1 d k pc ls st cu su σ out x y off tgt hd h1 (fun z => ih z R hR) (fun z => ih2 z R hR)
theorem go_tableIn {d : Nat} {k : pm_M} {pc : Nat} {ls : List (Option Value)} {st : List Value} {cu su : Nat} {σ : pm_S} {out : pm_O} {dflt lo hi : Int} {offs : Array Int} {len : Nat} {x : Int32} {off : Int} {tgt : Nat} (hd : decode (mB k) pc = .ok (.tableswitch dflt lo hi offs, len)) (h1 : ¬ x.toInt < lo) (h2 : ¬ hi < x.toInt) (h3 : offs[(x.toInt - lo).toNat]? = some off) (h4 : (pc : Int) + off = (tgt : Int)) (ih : pm_Go d k (tgt) (ls) (st) (cu) (su) (σ) out) : pm_Go d k (pc) (ls) (.int x :: st) (cu) (su) (σ) out := fun R hR => hR.2.2.2.2.2.2.2.2.2.2.2.2.2.2.2.2.2.2.2.2.2.2.2.2.2.2.2.2.2.2.2.2.2.2.2.2.2.2.2.2.2.2.2.2.2.1 d k pc ls st cu su σ out dflt lo hi offs len x off tgt hd h1 h2 h3 h4 (ih R hR)
theorem go_tableOut {d : Nat} {k : pm_M} {pc : Nat} {ls : List (Option Value)} {st : List Value} {cu su : Nat} {σ : pm_S} {out : pm_O} {dflt lo hi : Int} {offs : Array Int} {len : Nat} {x : Int32} {tgt : Nat} (hd : decode (mB k) pc = .ok (.tableswitch dflt lo hi offs, len)) (h1 : x.toInt < lo ∨ hi < x.toInt) (h2 : (pc : Int) + dflt = (tgt : Int)) (ih : pm_Go d k (tgt) (ls) (st) (cu) (su) (σ) out) : pm_Go d k (pc) (ls) (.int x :: st) (cu) (su) (σ) out := fun R hR => hR.2.2.2.2.2.2.2.2.2.2.2.2.2.2.2.2.2.2.2.2.2.2.2.2.2.2.2.2.2.2.2.2.2.2.2.2.2.2.2.2.2.2.2.2.2.2.1 d k pc ls st cu su σ out dflt lo hi offs len x tgt hd h1 h2 (ih R hR)
theorem go_istore {d : Nat} {k : pm_M} {pc : Nat} {ls : List (Option Value)} {st : List Value} {cu su : Nat} {σ : pm_S} {out : pm_O} {i : Nat} {x : Int32} (hd : decode (mB k) pc = .ok (.istore i, 2)) (h1 : i < ls.length) (h2 : pm_pre ls i = true) (ih : pm_Go d k (pc + 2) (ls.set i (some (.int x))) (st) (cu) (su) (σ) out) : pm_Go d k (pc) (ls) (.int x :: st) (cu) (su) (σ) out := fun R hR => hR.2.2.2.2.2.2.2.2.2.2.2.2.2.2.2.2.2.2.2.2.2.2.2.2.2.2.2.2.2.2.2.2.2.2.2.2.2.2.2.2.2.2.2.2.2.2.2.1 d k pc ls st cu su σ out i x hd h1 h2 (ih R hR)
theorem go_istore_n {d : Nat} {k : pm_M} {pc : Nat} {ls : List (Option Value)} {st : List Value} {cu su : Nat} {σ : pm_S} {out : pm_O} {i : Fin 4} {x : Int32} (hd : decode (mB k) pc = .ok (.istore_n i, 1)) (h1 : (i : Nat) < ls.length) (h2 : pm_pre ls (i : Nat) = true) (ih : pm_Go d k (pc + 1) (ls.set (i : Nat) (some (.int x))) (st) (cu) (su) (σ) out) : pm_Go d k (pc) (ls) (.int x :: st) (cu) (su) (σ) out := fun R hR => hR.2.2.2.2.2.2.2.2.2.2.2.2.2.2.2.2.2.2.2.2.2.2.2.2.2.2.2.2.2.2.2.2.2.2.2.2.2.2.2.2.2.2.2.2.2.2.2.2.1 d k pc ls st cu su σ out i x hd h1 h2 (ih R hR)
theorem go_astore {d : Nat} {k : pm_M} {pc : Nat} {ls : List (Option Value)} {st : List Value} {cu su : Nat} {σ : pm_S} {out : pm_O} {i : Nat} {x : Nat} (hd : decode (mB k) pc = .ok (.astore i, 2)) (h1 : i < ls.length) (h2 : pm_pre ls i = true) (ih : pm_Go d k (pc + 2) (ls.set i (some (.ref x))) (st) (cu) (su) (σ) out) : pm_Go d k (pc) (ls) (.ref x :: st) (cu) (su) (σ) out := fun R hR => hR.2.2.2.2.2.2.2.2.2.2.2.2.2.2.2.2.2.2.2.2.2.2.2.2.2.2.2.2.2.2.2.2.2.2.2.2.2.2.2.2.2.2.2.2.2.2.2.2.2.1 d k pc ls st cu su σ out i x hd h1 h2 (ih R hR)
theorem go_astore_n {d : Nat} {k : pm_M} {pc : Nat} {ls : List (Option Value)} {st : List Value} {cu su : Nat} {σ : pm_S} {out : pm_O} {i : Fin 4} {x : Nat} (hd : decode (mB k) pc = .ok (.astore_n i, 1)) (h1 : (i : Nat) < ls.length) (h2 : pm_pre ls (i : Nat) = true) (ih : pm_Go d k (pc + 1) (ls.set (i : Nat) (some (.ref x))) (st) (cu) (su) (σ) out) : pm_Go d k (pc) (ls) (.ref x :: st) (cu) (su) (σ) out := fun R hR => hR.2.2.2.2.2.2.2.2.2.2.2.2.2.2.2.2.2.2.2.2.2.2.2.2.2.2.2.2.2.2.2.2.2.2.2.2.2.2.2.2.2.2.2.2.2.2.2.2.2.2.1 d k pc ls st cu su σ out i x hd h1 h2 (ih R hR)
theorem go_lstore {d : Nat} {k : pm_M} {pc : Nat} {ls : List (Option Value)} {st : List Value} {cu su : Nat} {σ : pm_S} {out : pm_O} {i : Nat} {x : Int64} (hd : decode (mB k) pc = .ok (.lstore i, 2)) (h1 : i + 1 < ls.length) (h2 : pm_pre ls i = true) (ih : pm_Go d k (pc + 2) ((ls.set i (some (.long x))).set (i + 1) none) (st) (cu) (su) (σ) out) : pm_Go d k (pc) (ls) (.long x :: st) (cu) (su) (σ) out := fun R hR => hR.2.2.2.2.2.2.2.2.2.2.2.2.2.2.2.2.2.2.2.2.2.2.2.2.2.2.2.2.2.2.2.2.2.2.2.2.2.2.2.2.2.2.2.2.2.2.2.2.2.2.2.1 d k pc ls st cu su σ out i x hd h1 h2 (ih R hR)
theorem go_lstore_n {d : Nat} {k : pm_M} {pc : Nat} {ls : List (Option Value)} {st : List Value} {cu su : Nat} {σ : pm_S} {out : pm_O} {i : Fin 4} {x : Int64} (hd : decode (mB k) pc = .ok (.lstore_n i, 1)) (h1 : (i : Nat) + 1 < ls.length) (h2 : pm_pre ls (i : Nat) = true) (ih : pm_Go d k (pc + 1) ((ls.set (i : Nat) (some (.long x))).set ((i : Nat) + 1) none) (st) (cu) (su) (σ) out) : pm_Go d k (pc) (ls) (.long x :: st) (cu) (su) (σ) out := fun R hR => hR.2.2.2.2.2.2.2.2.2.2.2.2.2.2.2.2.2.2.2.2.2.2.2.2.2.2.2.2.2.2.2.2.2.2.2.2.2.2.2.2.2.2.2.2.2.2.2.2.2.2.2.2.1 d k pc ls st cu su σ out i x hd h1 h2 (ih R hR)
theorem go_iinc {d : Nat} {k : pm_M} {pc : Nat} {ls : List (Option Value)} {st : List Value} {cu su : Nat} {σ : pm_S} {out : pm_O} {i : Nat} {n : Int} {x v : Int32} (hd : decode (mB k) pc = .ok (.iinc i n, 3)) (h1 : ls[i]? = some (some (.int x))) (h2 : x + Int32.ofInt n = v) (h3 : pm_pre ls i = true) (ih : pm_Go d k (pc + 3) (ls.set i (some (.int v))) (st) (cu) (su) (σ) out) : pm_Go d k (pc) (ls) (st) (cu) (su) (σ) out := fun R hR => hR.2.2.2.2.2.2.2.2.2.2.2.2.2.2.2.2.2.2.2.2.2.2.2.2.2.2.2.2.2.2.2.2.2.2.2.2.2.2.2.2.2.2.2.2.2.2.2.2.2.2.2.2.2.1 d k pc ls st cu su σ out i n x v hd h1 h2 h3 (ih R hR)
theorem go_getI {d : Nat} {k : pm_M} {pc : Nat} {ls : List (Option Value)} {st : List Value} {cu su : Nat} {σ : pm_S} {out : pm_O} {b ci : Nat} {C : String} {T : u_T} {N : Nat} {ty : Nat → FieldType} {j idx : Nat} (hd : decode (mB k) pc = .ok (.getfield idx, 3)) (h1 : b < σ.1) (h2 : pm_shp b = (0, ci)) (h3 : pm_cl ci C T N ty) (h4 : j < N) (h5 : pm_fk ci j ≠ 1) (h6 : Cond.fieldLink (mY k).cls idx (T j).1 (T j).2.1 (T j).2.2.1 ∈ lw_gw) (ih : pm_Go d k (pc + 3) (ls) (.int (σ.2.2.1 b j) :: st) (cu) (su) (σ) out) : pm_Go d k (pc) (ls) (.ref b :: st) (cu) (su) (σ) out := fun R hR => hR.2.2.2.2.2.2.2.2.2.2.2.2.2.2.2.2.2.2.2.2.2.2.2.2.2.2.2.2.2.2.2.2.2.2.2.2.2.2.2.2.2.2.2.2.2.2.2.2.2.2.2.2.2.2.1 d k pc ls st cu su σ out b ci C T N ty j idx hd h1 h2 h3 h4 h5 h6 (ih R hR)
theorem go_getP {d : Nat} {k : pm_M} {pc : Nat} {ls : List (Option Value)} {st : List Value} {cu su : Nat} {σ : pm_S} {out : pm_O} {b ci : Nat} {C : String} {T : u_T} {N : Nat} {ty : Nat → FieldType} {j idx : Nat} {r : Nat} (hd : decode (mB k) pc = .ok (.getfield idx, 3)) (h1 : b < σ.1) (h2 : pm_shp b = (0, ci)) (h3 : pm_cl ci C T N ty) (h4 : j < N) (h5 : pm_fk ci j = 1) (h6 : Cond.fieldLink (mY k).cls idx (T j).1 (T j).2.1 (T j).2.2.1 ∈ lw_gw) (h7 : σ.2.1 b j = some r) (ih : pm_Go d k (pc + 3) (ls) (.ref r :: st) (cu) (su) (σ) out) : pm_Go d k (pc) (ls) (.ref b :: st) (cu) (su) (σ) out := fun R hR => hR.2.2.2.2.2.2.2.2.2.2.2.2.2.2.2.2.2.2.2.2.2.2.2.2.2.2.2.2.2.2.2.2.2.2.2.2.2.2.2.2.2.2.2.2.2.2.2.2.2.2.2.2.2.2.2.1 d k pc ls st cu su σ out b ci C T N ty j idx r hd h1 h2 h3 h4 h5 h6 h7 (ih R hR)
theorem go_putI {d : Nat} {k : pm_M} {pc : Nat} {ls : List (Option Value)} {st : List Value} {cu su : Nat} {σ : pm_S} {out : pm_O} {b ci : Nat} {C : String} {T : u_T} {N : Nat} {ty : Nat → FieldType} {j idx : Nat} {v : Int32} (hd : decode (mB k) pc = .ok (.putfield idx, 3)) (h1 : b < σ.1) (h2 : pm_shp b = (0, ci)) (h3 : pm_cl ci C T N ty) (h4 : j < N) (h5 : pm_fk ci j ≠ 1) (h6 : Cond.fieldLink (mY k).cls idx (T j).1 (T j).2.1 (T j).2.2.1 ∈ lw_gw) (h7 : (T j).2.2.2 = false) (h8 : (ty j = .int ∨ (ty j = .boolean ∧ (v = 0 ∨ v = 1)))) (ih : pm_Go d k (pc + 3) (ls) (st) (cu) (su) (pm_sI σ b j v) out) : pm_Go d k (pc) (ls) (.int v :: .ref b :: st) (cu) (su) (σ) out := fun R hR => hR.2.2.2.2.2.2.2.2.2.2.2.2.2.2.2.2.2.2.2.2.2.2.2.2.2.2.2.2.2.2.2.2.2.2.2.2.2.2.2.2.2.2.2.2.2.2.2.2.2.2.2.2.2.2.2.2.1 d k pc ls st cu su σ out b ci C T N ty j idx v hd h1 h2 h3 h4 h5 h6 h7 h8 (ih R hR)
theorem go_putP {d : Nat} {k : pm_M} {pc : Nat} {ls : List (Option Value)} {st : List Value} {cu su : Nat} {σ : pm_S} {out : pm_O} {b ci : Nat} {C : String} {T : u_T} {N : Nat} {ty : Nat → FieldType} {j idx : Nat} {r : Nat} (hd : decode (mB k) pc = .ok (.putfield idx, 3)) (h1 : b < σ.1) (h2 : pm_shp b = (0, ci)) (h3 : pm_cl ci C T N ty) (h4 : j < N) (h5 : pm_fk ci j = 1) (h6 : Cond.fieldLink (mY k).cls idx (T j).1 (T j).2.1 (T j).2.2.1 ∈ lw_gw) (h7 : (T j).2.2.2 = true) (h8 : (mY k).name = "<init>") (h9 : (T j).1 = (mY k).cls) (h10 : (ty j).isReference = true) (h11 : r < σ.1) (ih : pm_Go d k (pc + 3) (ls) (st) (cu) (su) (pm_sP σ b j (some r)) out) : pm_Go d k (pc) (ls) (.ref r :: .ref b :: st) (cu) (su) (σ) out := fun R hR => hR.2.2.2.2.2.2.2.2.2.2.2.2.2.2.2.2.2.2.2.2.2.2.2.2.2.2.2.2.2.2.2.2.2.2.2.2.2.2.2.2.2.2.2.2.2.2.2.2.2.2.2.2.2.2.2.2.2.1 d k pc ls st cu su σ out b ci C T N ty j idx r hd h1 h2 h3 h4 h5 h6 h7 h8 h9 h10 h11 (ih R hR)
theorem go_iaload {d : Nat} {k : pm_M} {pc : Nat} {ls : List (Option Value)} {st : List Value} {cu su : Nat} {σ : pm_S} {out : pm_O} {b n : Nat} {i : Int32} (hd : decode (mB k) pc = .ok (.iaload, 1)) (h1 : b < σ.1) (h2 : pm_shp b = (1, n)) (h3 : vp_in i n) (ih : pm_Go d k (pc + 1) (ls) (.int (σ.2.2.1 b i.toNatClampNeg) :: st) (cu) (su) (σ) out) : pm_Go d k (pc) (ls) (.int i :: .ref b :: st) (cu) (su) (σ) out := fun R hR => hR.2.2.2.2.2.2.2.2.2.2.2.2.2.2.2.2.2.2.2.2.2.2.2.2.2.2.2.2.2.2.2.2.2.2.2.2.2.2.2.2.2.2.2.2.2.2.2.2.2.2.2.2.2.2.2.2.2.2.1 d k pc ls st cu su σ out b n i hd h1 h2 h3 (ih R hR)
theorem go_iastore {d : Nat} {k : pm_M} {pc : Nat} {ls : List (Option Value)} {st : List Value} {cu su : Nat} {σ : pm_S} {out : pm_O} {b n : Nat} {i v : Int32} (hd : decode (mB k) pc = .ok (.iastore, 1)) (h1 : b < σ.1) (h2 : pm_shp b = (1, n)) (h3 : vp_in i n) (ih : pm_Go d k (pc + 1) (ls) (st) (cu) (su) (pm_sI σ b i.toNatClampNeg v) out) : pm_Go d k (pc) (ls) (.int v :: .int i :: .ref b :: st) (cu) (su) (σ) out := fun R hR => hR.2.2.2.2.2.2.2.2.2.2.2.2.2.2.2.2.2.2.2.2.2.2.2.2.2.2.2.2.2.2.2.2.2.2.2.2.2.2.2.2.2.2.2.2.2.2.2.2.2.2.2.2.2.2.2.2.2.2.2.1 d k pc ls st cu su σ out b n i v hd h1 h2 h3 (ih R hR)
theorem go_laload {d : Nat} {k : pm_M} {pc : Nat} {ls : List (Option Value)} {st : List Value} {cu su : Nat} {σ : pm_S} {out : pm_O} {b n : Nat} {i : Int32} (hd : decode (mB k) pc = .ok (.laload, 1)) (h1 : b < σ.1) (h2 : pm_shp b = (2, n)) (h3 : vp_in i n) (ih : pm_Go d k (pc + 1) (ls) (.long (σ.2.2.2 b i.toNatClampNeg) :: st) (cu) (su) (σ) out) : pm_Go d k (pc) (ls) (.int i :: .ref b :: st) (cu) (su) (σ) out := fun R hR => hR.2.2.2.2.2.2.2.2.2.2.2.2.2.2.2.2.2.2.2.2.2.2.2.2.2.2.2.2.2.2.2.2.2.2.2.2.2.2.2.2.2.2.2.2.2.2.2.2.2.2.2.2.2.2.2.2.2.2.2.2.1 d k pc ls st cu su σ out b n i hd h1 h2 h3 (ih R hR)
theorem go_lastore {d : Nat} {k : pm_M} {pc : Nat} {ls : List (Option Value)} {st : List Value} {cu su : Nat} {σ : pm_S} {out : pm_O} {b n : Nat} {i : Int32} {v : Int64} (hd : decode (mB k) pc = .ok (.lastore, 1)) (h1 : b < σ.1) (h2 : pm_shp b = (2, n)) (h3 : vp_in i n) (ih : pm_Go d k (pc + 1) (ls) (st) (cu) (su) (pm_sJ σ b i.toNatClampNeg v) out) : pm_Go d k (pc) (ls) (.long v :: .int i :: .ref b :: st) (cu) (su) (σ) out := fun R hR => hR.2.2.2.2.2.2.2.2.2.2.2.2.2.2.2.2.2.2.2.2.2.2.2.2.2.2.2.2.2.2.2.2.2.2.2.2.2.2.2.2.2.2.2.2.2.2.2.2.2.2.2.2.2.2.2.2.2.2.2.2.2.1 d k pc ls st cu su σ out b n i v hd h1 h2 h3 (ih R hR)
theorem go_aaload3 {d : Nat} {k : pm_M} {pc : Nat} {ls : List (Option Value)} {st : List Value} {cu su : Nat} {σ : pm_S} {out : pm_O} {b n : Nat} {i : Int32} {r : Nat} (hd : decode (mB k) pc = .ok (.aaload, 1)) (h1 : b < σ.1) (h2 : pm_shp b = (3, n)) (h3 : vp_in i n) (h4 : σ.2.1 b i.toNatClampNeg = some r) (ih : pm_Go d k (pc + 1) (ls) (.ref r :: st) (cu) (su) (σ) out) : pm_Go d k (pc) (ls) (.int i :: .ref b :: st) (cu) (su) (σ) out := fun R hR => hR.2.2.2.2.2.2.2.2.2.2.2.2.2.2.2.2.2.2.2.2.2.2.2.2.2.2.2.2.2.2.2.2.2.2.2.2.2.2.2.2.2.2.2.2.2.2.2.2.2.2.2.2.2.2.2.2.2.2.2.2.2.2.1 d k pc ls st cu su σ out b n i r hd h1 h2 h3 h4 (ih R hR)
theorem go_aaload4 {d : Nat} {k : pm_M} {pc : Nat} {ls : List (Option Value)} {st : List Value} {cu su : Nat} {σ : pm_S} {out : pm_O} {b n : Nat} {i : Int32} {r : Nat} (hd : decode (mB k) pc = .ok (.aaload, 1)) (h1 : b < σ.1) (h2 : pm_shp b = (4, n)) (h3 : vp_in i n) (h4 : σ.2.1 b i.toNatClampNeg = some r) (ih : pm_Go d k (pc + 1) (ls) (.ref r :: st) (cu) (su) (σ) out) : pm_Go d k (pc) (ls) (.int i :: .ref b :: st) (cu) (su) (σ) out := fun R hR => hR.2.2.2.2.2.2.2.2.2.2.2.2.2.2.2.2.2.2.2.2.2.2.2.2.2.2.2.2.2.2.2.2.2.2.2.2.2.2.2.2.2.2.2.2.2.2.2.2.2.2.2.2.2.2.2.2.2.2.2.2.2.2.2.1 d k pc ls st cu su σ out b n i r hd h1 h2 h3 h4 (ih R hR)
theorem go_alen {d : Nat} {k : pm_M} {pc : Nat} {ls : List (Option Value)} {st : List Value} {cu su : Nat} {σ : pm_S} {out : pm_O} {b n : Nat} (hd : decode (mB k) pc = .ok (.arraylength, 1)) (h1 : b < σ.1) (h2 : pm_shp b = (1, n)) (ih : pm_Go d k (pc + 1) (ls) (.int (Int32.ofNat n) :: st) (cu) (su) (σ) out) : pm_Go d k (pc) (ls) (.ref b :: st) (cu) (su) (σ) out := fun R hR => hR.2.2.2.2.2.2.2.2.2.2.2.2.2.2.2.2.2.2.2.2.2.2.2.2.2.2.2.2.2.2.2.2.2.2.2.2.2.2.2.2.2.2.2.2.2.2.2.2.2.2.2.2.2.2.2.2.2.2.2.2.2.2.2.2.1 d k pc ls st cu su σ out b n hd h1 h2 (ih R hR)
theorem go_sld {d : Nat} {k : pm_M} {pc : Nat} {ls : List (Option Value)} {st : List Value} {cu su : Nat} {σ : pm_S} {out : pm_O} {i : Int32} (hd : decode (mB k) pc = .ok (.iaload, 1)) (h1 : (mY k).name = "law") (h2 : vp_in i (σ.2.2.1 1001 0).toNatClampNeg) (ih : pm_Go d k (pc + 1) (ls) (.int (σ.2.2.1 1000 i.toNatClampNeg) :: st) (cu) (su) (σ) out) : pm_Go d k (pc) (ls) (.int i :: .ref 1000 :: st) (cu) (su) (σ) out := fun R hR => hR.2.2.2.2.2.2.2.2.2.2.2.2.2.2.2.2.2.2.2.2.2.2.2.2.2.2.2.2.2.2.2.2.2.2.2.2.2.2.2.2.2.2.2.2.2.2.2.2.2.2.2.2.2.2.2.2.2.2.2.2.2.2.2.2.2.1 d k pc ls st cu su σ out i hd h1 h2 (ih R hR)
theorem go_slen {d : Nat} {k : pm_M} {pc : Nat} {ls : List (Option Value)} {st : List Value} {cu su : Nat} {σ : pm_S} {out : pm_O} (hd : decode (mB k) pc = .ok (.arraylength, 1)) (h1 : (mY k).name = "law") (ih : pm_Go d k (pc + 1) (ls) (.int (σ.2.2.1 1001 0) :: st) (cu) (su) (σ) out) : pm_Go d k (pc) (ls) (.ref 1000 :: st) (cu) (su) (σ) out := fun R hR => hR.2.2.2.2.2.2.2.2.2.2.2.2.2.2.2.2.2.2.2.2.2.2.2.2.2.2.2.2.2.2.2.2.2.2.2.2.2.2.2.2.2.2.2.2.2.2.2.2.2.2.2.2.2.2.2.2.2.2.2.2.2.2.2.2.2.2.1 d k pc ls st cu su σ out hd h1 (ih R hR)
theorem go_new {d : Nat} {k : pm_M} {pc : Nat} {ls : List (Option Value)} {st : List Value} {cu su : Nat} {σ : pm_S} {out : pm_O} {ci : Nat} {C : String} {T : u_T} {N : Nat} {ty : Nat → FieldType} {idx : Nat} (hd : decode (mB k) pc = .ok (.new idx, 3)) (h1 : pm_shp σ.1 = (0, ci)) (h2 : pm_cl ci C T N ty) (h3 : Cond.classLink (mY k).cls idx C ∈ lw_gw) (h4 : Cond.instantiable C N ∈ lw_gw) (h5 : Cond.initialized C ∈ lw_gw) (h6 : cu + 1 ≤ mC k) (h7 : su + N ≤ mS k) (h8 : σ.1 + 1 ≤ 1000) (h9 : ∀ j, σ.2.2.1 σ.1 j = 0) (h10 : ∀ j, σ.2.1 σ.1 j = none) (h11 : pm_lt σ.1 ls st = true) (ih : pm_Go d k (pc + 3) (ls) (.ref σ.1 :: st) (cu + 1) (su + N) (σ.1 + 1, σ.2) out) : pm_Go d k (pc) (ls) (st) (cu) (su) (σ) out := fun R hR => hR.2.2.2.2.2.2.2.2.2.2.2.2.2.2.2.2.2.2.2.2.2.2.2.2.2.2.2.2.2.2.2.2.2.2.2.2.2.2.2.2.2.2.2.2.2.2.2.2.2.2.2.2.2.2.2.2.2.2.2.2.2.2.2.2.2.2.2.1 d k pc ls st cu su σ out ci C T N ty idx hd h1 h2 h3 h4 h5 h6 h7 h8 h9 h10 h11 (ih R hR)
theorem go_newI {d : Nat} {k : pm_M} {pc : Nat} {ls : List (Option Value)} {st : List Value} {cu su : Nat} {σ : pm_S} {out : pm_O} {n : Nat} {x : Int32} (hd : decode (mB k) pc = .ok (.newarray .int, 2)) (h1 : pm_shp σ.1 = (1, n)) (h2 : ¬ x < 0) (h3 : x.toNatClampNeg = n) (h4 : n ≤ 1000000) (h5 : Cond.arrayClass .int ∈ lw_gw) (h6 : cu + 1 ≤ mC k) (h7 : su + n ≤ mS k) (h8 : σ.1 + 1 ≤ 1000) (h9 : ∀ j, σ.2.2.1 σ.1 j = 0) (h10 : pm_lt σ.1 ls st = true) (ih : pm_Go d k (pc + 2) (ls) (.ref σ.1 :: st) (cu + 1) (su + n) (σ.1 + 1, σ.2) out) : pm_Go d k (pc) (ls) (.int x :: st) (cu) (su) (σ) out := fun R hR => hR.2.2.2.2.2.2.2.2.2.2.2.2.2.2.2.2.2.2.2.2.2.2.2.2.2.2.2.2.2.2.2.2.2.2.2.2.2.2.2.2.2.2.2.2.2.2.2.2.2.2.2.2.2.2.2.2.2.2.2.2.2.2.2.2.2.2.2.2.1 d k pc ls st cu su σ out n x hd h1 h2 h3 h4 h5 h6 h7 h8 h9 h10 (ih R hR)
theorem go_newJ {d : Nat} {k : pm_M} {pc : Nat} {ls : List (Option Value)} {st : List Value} {cu su : Nat} {σ : pm_S} {out : pm_O} {n : Nat} {x : Int32} (hd : decode (mB k) pc = .ok (.newarray .long, 2)) (h1 : pm_shp σ.1 = (2, n)) (h2 : ¬ x < 0) (h3 : x.toNatClampNeg = n) (h4 : n ≤ 1000000) (h5 : Cond.arrayClass .long ∈ lw_gw) (h6 : cu + 1 ≤ mC k) (h7 : su + n ≤ mS k) (h8 : σ.1 + 1 ≤ 1000) (h9 : ∀ j, σ.2.2.2 σ.1 j = 0) (h10 : pm_lt σ.1 ls st = true) (ih : pm_Go d k (pc + 2) (ls) (.ref σ.1 :: st) (cu + 1) (su + n) (σ.1 + 1, σ.2) out) : pm_Go d k (pc) (ls) (.int x :: st) (cu) (su) (σ) out := fun R hR => hR.2.2.2.2.2.2.2.2.2.2.2.2.2.2.2.2.2.2.2.2.2.2.2.2.2.2.2.2.2.2.2.2.2.2.2.2.2.2.2.2.2.2.2.2.2.2.2.2.2.2.2.2.2.2.2.2.2.2.2.2.2.2.2.2.2.2.2.2.2.1 d k pc ls st cu su σ out n x hd h1 h2 h3 h4 h5 h6 h7 h8 h9 h10 (ih R hR)
theorem go_mnaI {d : Nat} {k : pm_M} {pc : Nat} {ls : List (Option Value)} {st : List Value} {cu su : Nat} {σ : pm_S} {out : pm_O} {idx n kk : Nat} {x y : Int32} (hd : decode (mB k) pc = .ok (.multianewarray idx 2, 4)) (h1 : pm_shp σ.1 = (3, n)) (h2 : ∀ i, i < n → pm_shp (σ.1 + 1 + i) = (1, kk)) (h3 : ¬ x < 0) (h4 : ¬ y < 0) (h5 : x.toNatClampNeg = n) (h6 : y.toNatClampNeg = kk) (h7 : n ≤ 1000000 ∧ kk ≤ 1000000) (h8 : Cond.arrayClass .int ∈ lw_gw) (h9 : Cond.classLink (mY k).cls idx ("[" ++ (FieldType.array .int).toString) ∈ lw_gw) (h10 : cu + 1 + n ≤ mC k) (h11 : su + n + n * kk ≤ mS k) (h12 : σ.1 + 1 + n ≤ 1000) (h13 : ∀ i j, σ.2.2.1 (σ.1 + 1 + i) j = 0) (h14 : pm_lt σ.1 ls st = true) (ih : pm_Go d k (pc + 4) (ls) (.ref σ.1 :: st) (cu + 1 + n) (su + n + n * kk) (pm_mna σ n) out) : pm_Go d k (pc) (ls) (.int y :: .int x :: st) (cu) (su) (σ) out := fun R hR => hR.2.2.2.2.2.2.2.2.2.2.2.2.2.2.2.2.2.2.2.2.2.2.2.2.2.2.2.2.2.2.2.2.2.2.2.2.2.2.2.2.2.2.2.2.2.2.2.2.2.2.2.2.2.2.2.2.2.2.2.2.2.2.2.2.2.2.2.2.2.2.1 d k pc ls st cu su σ out idx n kk x y hd h1 h2 h3 h4 h5 h6 h7 h8 h9 h10 h11 h12 h13 h14 (ih R hR)
theorem go_mnaJ {d : Nat} {k : pm_M} {pc : Nat} {ls : List (Option Value)} {st : List Value} {cu su : Nat} {σ : pm_S} {out : pm_O} {idx n kk : Nat} {x y : Int32} (hd : decode (mB k) pc = .ok (.multianewarray idx 2, 4)) (h1 : pm_shp σ.1 = (4, n)) (h2 : ∀ i, i < n → pm_shp (σ.1 + 1 + i) = (2, kk)) (h3 : ¬ x < 0) (h4 : ¬ y < 0) (h5 : x.toNatClampNeg = n) (h6 : y.toNatClampNeg = kk) (h7 : n ≤ 1000000 ∧ kk ≤ 1000000) (h8 : Cond.arrayClass .long ∈ lw_gw) (h9 : Cond.classLink (mY k).cls idx ("[" ++ (FieldType.array .long).toString) ∈ lw_gw) (h10 : cu + 1 + n ≤ mC k) (h11 : su + n + n * kk ≤ mS k) (h12 : σ.1 + 1 + n ≤ 1000) (h13 : ∀ i j, σ.2.2.2 (σ.1 + 1 + i) j = 0) (h14 : pm_lt σ.1 ls st = true) (ih : pm_Go d k (pc + 4) (ls) (.ref σ.1 :: st) (cu + 1 + n) (su + n + n * kk) (pm_mna σ n) out) : pm_Go d k (pc) (ls) (.int y :: .int x :: st) (cu) (su) (σ) out := fun R hR => hR.2.2.2.2.2.2.2.2.2.2.2.2.2.2.2.2.2.2.2.2.2.2.2.2.2.2.2.2.2.2.2.2.2.2.2.2.2.2.2.2.2.2.2.2.2.2.2.2.2.2.2.2.2.2.2.2.2.2.2.2.2.2.2.2.2.2.2.2.2.2.2.1 d k pc ls st cu su σ out idx n kk x y hd h1 h2 h3 h4 h5 h6 h7 h8 h9 h10 h11 h12 h13 h14 (ih R hR)
theorem go_objInit {d : Nat} {k : pm_M} {pc : Nat} {ls : List (Option Value)} {st : List Value} {cu su : Nat} {σ : pm_S} {out : pm_O} {b idx : Nat} (hd : decode (mB k) pc = .ok (.invokespecial idx, 3)) (h1 : Cond.methodLink (mY k).cls idx Lib.objectInit ∈ lw_gw) (h2 : Cond.instanceMethod Lib.objectInit ∈ lw_gw) (h3 : Cond.code Lib.objectInit ⟨#[0xb1]⟩ 1 none ∈ lw_gw) (h4 : (st.map fun v => v.category).sum ≤ 20) (h5 : 1 ≤ d) (ih : pm_Go d k (pc + 3) (ls) (st) (cu) (su) (σ) out) : pm_Go d k (pc) (ls) (.ref b :: st) (cu) (su) (σ) out := fun R hR => hR.2.2.2.2.2.2.2.2.2.2.2.2.2.2.2.2.2.2.2.2.2.2.2.2.2.2.2.2.2.2.2.2.2.2.2.2.2.2.2.2.2.2.2.2.2.2.2.2.2.2.2.2.2.2.2.2.2.2.2.2.2.2.2.2.2.2.2.2.2.2.2.2.1 d k pc ls st cu su σ out b idx hd h1 h2 h3 h4 h5 (ih R hR)
theorem go_mmin {d : Nat} {k : pm_M} {pc : Nat} {ls : List (Option Value)} {st : List Value} {cu su : Nat} {σ : pm_S} {out : pm_O} {x y : Int32} {idx : Nat} (hd : decode (mB k) pc = .ok (.invokestatic idx, 3)) (h1 : Cond.methodLink (mY k).cls idx Lib.Math.min.name ∈ lw_gw) (h2 : Cond.static Lib.Math.min.name ∈ lw_gw) (h3 : Cond.initialized "java/lang/Math" ∈ lw_gw) (h4 : Cond.code Lib.Math.min.name Lib.Math.min.code 2 (some .int) ∈ lw_gw) (h5 : (st.map fun v => v.category).sum ≤ 20) (h6 : 1 ≤ d) (h7 : cu ≤ mC k) (h8 : su ≤ mS k) (ih : pm_Go d k (pc + 3) (ls) (.int (if y < x then y else x) :: st) (cu) (su) (σ) out) : pm_Go d k (pc) (ls) (.int y :: .int x :: st) (cu) (su) (σ) out := fun R hR => hR.2.2.2.2.2.2.2.2.2.2.2.2.2.2.2.2.2.2.2.2.2.2.2.2.2.2.2.2.2.2.2.2.2.2.2.2.2.2.2.2.2.2.2.2.2.2.2.2.2.2.2.2.2.2.2.2.2.2.2.2.2.2.2.2.2.2.2.2.2.2.2.2.2.1 d k pc ls st cu su σ out x y idx hd h1 h2 h3 h4 h5 h6 h7 h8 (ih R hR)
theorem go_mmax {d : Nat} {k : pm_M} {pc : Nat} {ls : List (Option Value)} {st : List Value} {cu su : Nat} {σ : pm_S} {out : pm_O} {x y : Int32} {idx : Nat} (hd : decode (mB k) pc = .ok (.invokestatic idx, 3)) (h1 : Cond.methodLink (mY k).cls idx Lib.Math.max.name ∈ lw_gw) (h2 : Cond.static Lib.Math.max.name ∈ lw_gw) (h3 : Cond.initialized "java/lang/Math" ∈ lw_gw) (h4 : Cond.code Lib.Math.max.name Lib.Math.max.code 2 (some .int) ∈ lw_gw) (h5 : (st.map fun v => v.category).sum ≤ 20) (h6 : 1 ≤ d) (h7 : cu ≤ mC k) (h8 : su ≤ mS k) (ih : pm_Go d k (pc + 3) (ls) (.int (if x < y then y else x) :: st) (cu) (su) (σ) out) : pm_Go d k (pc) (ls) (.int y :: .int x :: st) (cu) (su) (σ) out := fun R hR => hR.2.2.2.2.2.2.2.2.2.2.2.2.2.2.2.2.2.2.2.2.2.2.2.2.2.2.2.2.2.2.2.2.2.2.2.2.2.2.2.2.2.2.2.2.2.2.2.2.2.2.2.2.2.2.2.2.2.2.2.2.2.2.2.2.2.2.2.2.2.2.2.2.2.2.1 d k pc ls st cu su σ out x y idx hd h1 h2 h3 h4 h5 h6 h7 h8 (ih R hR)
theorem go_copyi {d : Nat} {k : pm_M} {pc : Nat} {ls : List (Option Value)} {st : List Value} {cu su : Nat} {σ : pm_S} {out : pm_O} {b0 b1 n0 n1 : Nat} {sp dp n : Int32} {idx : Nat} (hd : decode (mB k) pc = .ok (.invokestatic idx, 3)) (h1 : Cond.methodLink (mY k).cls idx arraycopyName ∈ lw_gw) (h2 : Cond.native arraycopyName ∈ lw_gw) (h3 : Cond.static arraycopyName ∈ lw_gw) (h4 : Cond.initialized "java/lang/System" ∈ lw_gw) (h5 : b0 < σ.1) (h6 : b1 < σ.1) (h7 : pm_shp b0 = (1, n0)) (h8 : pm_shp b1 = (1, n1)) (h9 : ¬ sp < 0) (h10 : ¬ dp < 0) (h11 : ¬ n < 0) (h12 : sp.toNatClampNeg + n.toNatClampNeg ≤ n0) (h13 : dp.toNatClampNeg + n.toNatClampNeg ≤ n1) (h14 : (st.map fun v => v.category).sum ≤ 20) (h15 : 2 ≤ d) (ih : pm_Go d k (pc + 3) (ls) (st) (cu) (su) (pm_sA σ b1 (va_cpy (σ.2.2.1 b0) (σ.2.2.1 b1) sp.toNatClampNeg dp.toNatClampNeg n.toNatClampNeg)) out) : pm_Go d k (pc) (ls) (.int n :: .int dp :: .ref b1 :: .int sp :: .ref b0 :: st) (cu) (su) (σ) out := fun R hR => hR.2.2.2.2.2.2.2.2.2.2.2.2.2.2.2.2.2.2.2.2.2.2.2.2.2.2.2.2.2.2.2.2.2.2.2.2.2.2.2.2.2.2.2.2.2.2.2.2.2.2.2.2.2.2.2.2.2.2.2.2.2.2.2.2.2.2.2.2.2.2.2.2.2.2.2.1 d k pc ls st cu su σ out b0 b1 n0 n1 sp dp n idx hd h1 h2 h3 h4 h5 h6 h7 h8 h9 h10 h11 h12 h13 h14 h15 (ih R hR)
theorem go_ireturn {d : Nat} {k : pm_M} {pc : Nat} {ls : List (Option Value)} {st : List Value} {cu su : Nat} {σ : pm_S} {out : pm_O} {v : Int32} (hd : decode (mB k) pc = .ok (.ireturn, 1)) (h1 : mT k = some .int) (h2 : cu ≤ mC k) (h3 : su ≤ mS k) (h4 : out = (.inl (some (.int v)), σ)) : pm_Go d k (pc) (ls) ([.int v]) (cu) (su) (σ) out := fun R hR => hR.2.2.2.2.2.2.2.2.2.2.2.2.2.2.2.2.2.2.2.2.2.2.2.2.2.2.2.2.2.2.2.2.2.2.2.2.2.2.2.2.2.2.2.2.2.2.2.2.2.2.2.2.2.2.2.2.2.2.2.2.2.2.2.2.2.2.2.2.2.2.2.2.2.2.2.2.1 d k pc ls st cu su σ out v hd h1 h2 h3 h4
theorem go_lreturn {d : Nat} {k : pm_M} {pc : Nat} {ls : List (Option Value)} {st : List Value} {cu su : Nat} {σ : pm_S} {out : pm_O} {v : Int64} (hd : decode (mB k) pc = .ok (.lreturn, 1)) (h1 : mT k = some .long) (h2 : cu ≤ mC k) (h3 : su ≤ mS k) (h4 : out = (.inl (some (.long v)), σ)) : pm_Go d k (pc) (ls) ([.long v]) (cu) (su) (σ) out := fun R hR => hR.2.2.2.2.2.2.2.2.2.2.2.2.2.2.2.2.2.2.2.2.2.2.2.2.2.2.2.2.2.2.2.2.2.2.2.2.2.2.2.2.2.2.2.2.2.2.2.2.2.2.2.2.2.2.2.2.2.2.2.2.2.2.2.2.2.2.2.2.2.2.2.2.2.2.2.2.2.1 d k pc ls st cu su σ out v hd h1 h2 h3 h4
theorem go_zreturn {d : Nat} {k : pm_M} {pc : Nat} {ls : List (Option Value)} {st : List Value} {cu su : Nat} {σ : pm_S} {out : pm_O} {v : Int32} (hd : decode (mB k) pc = .ok (.ireturn, 1)) (h1 : mT k = some .boolean) (h2 : cu ≤ mC k) (h3 : su ≤ mS k) (h4 : out = (.inl (some (.int v)), σ)) (h5 : (v = 0 ∨ v = 1)) : pm_Go d k (pc) (ls) ([.int v]) (cu) (su) (σ) out := fun R hR => hR.2.2.2.2.2.2.2.2.2.2.2.2.2.2.2.2.2.2.2.2.2.2.2.2.2.2.2.2.2.2.2.2.2.2.2.2.2.2.2.2.2.2.2.2.2.2.2.2.2.2.2.2.2.2.2.2.2.2.2.2.2.2.2.2.2.2.2.2.2.2.2.2.2.2.2.2.2.2.1 d k pc ls st cu su σ out v hd h1 h2 h3 h4 h5
theorem go_vreturn {d : Nat} {k : pm_M} {pc : Nat} {ls : List (Option Value)} {st : List Value} {cu su : Nat} {σ : pm_S} {out : pm_O} (hd : decode (mB k) pc = .ok (.return_, 1)) (h1 : mT k = none) (h2 : cu ≤ mC k) (h3 : su ≤ mS k) (h4 : out = (.inl none, σ)) : pm_Go d k (pc) (ls) ([]) (cu) (su) (σ) out := fun R hR => hR.2.2.2.2.2.2.2.2.2.2.2.2.2.2.2.2.2.2.2.2.2.2.2.2.2.2.2.2.2.2.2.2.2.2.2.2.2.2.2.2.2.2.2.2.2.2.2.2.2.2.2.2.2.2.2.2.2.2.2.2.2.2.2.2.2.2.2.2.2.2.2.2.2.2.2.2.2.2.2.1 d k pc ls st cu su σ out hd h1 h2 h3 h4
theorem go_callV {d : Nat} {k : pm_M} {pc : Nat} {ls : List (Option Value)} {st : List Value} {cu su : Nat} {σ : pm_S} {out : pm_O} {k2 : pm_M} {idx ci b : Nat} {C : String} {T : u_T} {N : Nat} {ty : Nat → FieldType} {As : List Value} {r : Option Value} {σ2 : pm_S} (hd : decode (mB k) pc = .ok (.invokevirtual idx, 3)) (h1 : pm_ok k2) (h2 : b < σ.1) (h3 : pm_shp b = (0, ci)) (h4 : pm_cl ci C T N ty) (h5 : (mY k2).cls = C) (h6 : pm_vl (mY k).cls idx (mY k2)) (h7 : pm_np (mY k2) As.length) (h8 : pm_cat1 As = true) (h9 : (st.map fun v => v.category).sum ≤ 8) (h10 : As.length + 1 ≤ mL k2) (h11 : cu + mC k2 ≤ mC k) (h12 : su + mS k2 ≤ mS k) (h13 : pm_lt σ.1 ls st = true) (h14 : pm_lt 0 [] r.toList = true) (ih : pm_Go d k2 0 (pm_en (.ref b :: As) (mL k2)) [] 0 0 σ (.inl r, σ2)) (ih2 : pm_Go (d + 1) k (pc + 3) (ls) (r.toList ++ st) (cu + mC k2) (su + mS k2) (σ2) out) : pm_Go (d + 1) k (pc) (ls) (As.reverse ++ .ref b :: st) (cu) (su) (σ) out := fun R hR => hR.2.2.2.2.2.2.2.2.2.2.2.2.2.2.2.2.2.2.2.2.2.2.2.2.2.2.2.2.2.2.2.2.2.2.2.2.2.2.2.2.2.2.2.2.2.2.2.2.2.2.2.2.2.2.2.2.2.2.2.2.2.2.2.2.2.2.2.2.2.2.2.2.2.2.2.2.2.2.2.2.1 d k pc ls st cu su σ out k2 idx ci b C T N ty As r σ2 hd h1 h2 h3 h4 h5 h6 h7 h8 h9 h10 h11 h12 h13 h14 (ih R hR) (ih2 R hR)
theorem go_callS {d : Nat} {k : pm_M} {pc : Nat} {ls : List (Option Value)} {st : List Value} {cu su : Nat} {σ : pm_S} {out : pm_O} {k2 : pm_M} {idx : Nat} {As : List Value} {r : Option Value} {σ2 : pm_S} (hd : decode (mB k) pc = .ok (.invokestatic idx, 3)) (h1 : pm_ok k2) (h2 : pm_sl (mY k).cls idx (mY k2)) (h3 : pm_np (mY k2) As.length) (h4 : pm_cat1 As = true) (h5 : (st.map fun v => v.category).sum ≤ 8) (h6 : As.length ≤ mL k2) (h7 : cu + mC k2 ≤ mC k) (h8 : su + mS k2 ≤ mS k) (h9 : pm_lt σ.1 ls st = true) (h10 : pm_lt 0 [] r.toList = true) (ih : pm_Go d k2 0 (pm_en (As) (mL k2)) [] 0 0 σ (.inl r, σ2)) (ih2 : pm_Go (d + 1) k (pc + 3) (ls) (r.toList ++ st) (cu + mC k2) (su + mS k2) (σ2) out) : pm_Go (d + 1) k (pc) (ls) (As.reverse ++ st) (cu) (su) (σ) out := fun R hR => hR.2.2.2.2.2.2.2.2.2.2.2.2.2.2.2.2.2.2.2.2.2.2.2.2.2.2.2.2.2.2.2.2.2.2.2.2.2.2.2.2.2.2.2.2.2.2.2.2.2.2.2.2.2.2.2.2.2.2.2.2.2.2.2.2.2.2.2.2.2.2.2.2.2.2.2.2.2.2.2.2.2.1 d k pc ls st cu su σ out k2 idx As r σ2 hd h1 h2 h3 h4 h5 h6 h7 h8 h9 h10 (ih R hR) (ih2 R hR)
theorem go_callI {d : Nat} {k : pm_M} {pc : Nat} {ls : List (Option Value)} {st : List Value} {cu su : Nat} {σ : pm_S} {out : pm_O} {k2 : pm_M} {idx b : Nat} {As : List Value} {r : Option Value} {σ2 : pm_S} (hd : decode (mB k) pc = .ok (.invokespecial idx, 3)) (h1 : pm_ok k2) (h2 : pm_il (mY k).cls idx (mY k2)) (h3 : pm_np (mY k2) As.length) (h4 : pm_cat1 As = true) (h5 : (st.map fun v => v.category).sum ≤ 8) (h6 : As.length + 1 ≤ mL k2) (h7 : cu + mC k2 ≤ mC k) (h8 : su + mS k2 ≤ mS k) (h9 : pm_lt σ.1 ls st = true) (h10 : mT k2 = none) (h11 : pm_lt 0 [] r.toList = true) (ih : pm_Go d k2 0 (pm_en (.ref b :: As) (mL k2)) [] 0 0 σ (.inl r, σ2)) (ih2 : pm_Go (d + 1) k (pc + 3) (ls) (r.toList ++ st) (cu + mC k2) (su + mS k2) (σ2) out) : pm_Go (d + 1) k (pc) (ls) (As.reverse ++ .ref b :: st) (cu) (su) (σ) out := fun R hR => hR.2.2.2.2.2.2.2.2.2.2.2.2.2.2.2.2.2.2.2.2.2.2.2.2.2.2.2.2.2.2.2.2.2.2.2.2.2.2.2.2.2.2.2.2.2.2.2.2.2.2.2.2.2.2.2.2.2.2.2.2.2.2.2.2.2.2.2.2.2.2.2.2.2.2.2.2.2.2.2.2.2.2.1 d k pc ls st cu su σ out k2 idx b As r σ2 hd h1 h2 h3 h4 h5 h6 h7 h8 h9 h10 h11 (ih R hR) (ih2 R hR)
theorem go_callW {d : Nat} {k : pm_M} {pc : Nat} {ls : List (Option Value)} {st : List Value} {cu su : Nat} {σ : pm_S} {out : pm_O} {k2 : pm_M} {idx : Nat} {As : List Value} {r : Option Value} {σ2 : pm_S} (hd : decode (mB k) pc = .ok (.invokestatic idx, 3)) (h1 : pm_okH k2) (h2 : pm_sl (mY k).cls idx (mY k2)) (h3 : pm_np (mY k2) As.length) (h4 : pm_cat1 As = true) (h5 : (st.map fun v => v.category).sum ≤ 8) (h6 : As.length ≤ mL k2) (h7 : cu + mC k2 ≤ mC k) (h8 : su + mS k2 ≤ mS k) (h9 : pm_lt σ.1 ls st = true) (h10 : pm_lt 0 [] r.toList = true) (ih : pm_Go d k2 0 (pm_en (As) (mL k2)) [] 0 0 σ (.inl r, σ2)) (ih2 : pm_Go (d + 1) k (pc + 3) (ls) (r.toList ++ st) (cu + mC k2) (su + mS k2) (σ2) out) : pm_Go (d + 1) k (pc) (ls) (As.reverse ++ st) (cu) (su) (σ) out := fun R hR => hR.2.2.2.2.2.2.2.2.2.2.2.2.2.2.2.2.2.2.2.2.2.2.2.2.2.2.2.2.2.2.2.2.2.2.2.2.2.2.2.2.2.2.2.2.2.2.2.2.2.2.2.2.2.2.2.2.2.2.2.2.2.2.2.2.2.2.2.2.2.2.2.2.2.2.2.2.2.2.2.2.2.2.2.1 d k pc ls st cu su σ out k2 idx As r σ2 hd h1 h2 h3 h4 h5 h6 h7 h8 h9 h10 (ih R hR) (ih2 R hR)
theorem go_callN {d : Nat} {k : pm_M} {pc : Nat} {ls : List (Option Value)} {st : List Value} {cu su : Nat} {σ : pm_S} {out : pm_O} {k2 : pm_M} {idx b : Nat} {As : List Value} {r : Option Value} {σ2 : pm_S} (hd : decode (mB k) pc = .ok (.invokespecial idx, 3)) (h1 : pm_ok k2) (h2 : pm_nl (mY k).cls idx (mY k2)) (h3 : pm_np (mY k2) As.length) (h4 : pm_cat1 As = true) (h5 : (st.map fun v => v.category).sum ≤ 8) (h6 : As.length + 1 ≤ mL k2) (h7 : cu + mC k2 ≤ mC k) (h8 : su + mS k2 ≤ mS k) (h9 : pm_lt σ.1 ls st = true) (h10 : mT k2 = none) (h11 : pm_lt 0 [] r.toList = true) (ih : pm_Go d k2 0 (pm_en (.ref b :: As) (mL k2)) [] 0 0 σ (.inl r, σ2)) (ih2 : pm_Go (d + 1) k (pc + 3) (ls) (r.toList ++ st) (cu + mC k2) (su + mS k2) (σ2) out) : pm_Go (d + 1) k (pc) (ls) (As.reverse ++ .ref b :: st) (cu) (su) (σ) out := fun R hR => hR.2.2.2.2.2.2.2.2.2.2.2.2.2.2.2.2.2.2.2.2.2.2.2.2.2.2.2.2.2.2.2.2.2.2.2.2.2.2.2.2.2.2.2.2.2.2.2.2.2.2.2.2.2.2.2.2.2.2.2.2.2.2.2.2.2.2.2.2.2.2.2.2.2.2.2.2.2.2.2.2.2.2.2.2.1 d k pc ls st cu su σ out k2 idx b As r σ2 hd h1 h2 h3 h4 h5 h6 h7 h8 h9 h10 h11 (ih R hR) (ih2 R hR)
theorem go_callVx {d : Nat} {k : pm_M} {pc : Nat} {ls : List (Option Value)} {st : List Value} {cu su : Nat} {σ : pm_S} {out : pm_O} {k2 : pm_M} {idx ci b : Nat} {C : String} {T : u_T} {N : Nat} {ty : Nat → FieldType} {As : List Value} {E : String} {σ2 : pm_S} (hd : decode (mB k) pc = .ok (.invokevirtual idx, 3)) (h1 : pm_ok k2) (h2 : b < σ.1) (h3 : pm_shp b = (0, ci)) (h4 : pm_cl ci C T N ty) (h5 : (mY k2).cls = C) (h6 : pm_vl (mY k).cls idx (mY k2)) (h7 : pm_np (mY k2) As.length) (h8 : pm_cat1 As = true) (h9 : (st.map fun v => v.category).sum ≤ 8) (h10 : As.length + 1 ≤ mL k2) (h11 : cu + mC k2 ≤ mC k) (h12 : su + mS k2 ≤ mS k) (h13 : pm_lt σ.1 ls st = true) (h14 : mH k = []) (h15 : out = (.inr E, σ2)) (ih : pm_Go d k2 0 (pm_en (.ref b :: As) (mL k2)) [] 0 0 σ (.inr E, σ2)) : pm_Go (d + 1) k (pc) (ls) (As.reverse ++ .ref b :: st) (cu) (su) (σ) out := fun R hR => hR.2.2.2.2.2.2.2.2.2.2.2.2.2.2.2.2.2.2.2.2.2.2.2.2.2.2.2.2.2.2.2.2.2.2.2.2.2.2.2.2.2.2.2.2.2.2.2.2.2.2.2.2.2.2.2.2.2.2.2.2.2.2.2.2.2.2.2.2.2.2.2.2.2.2.2.2.2.2.2.2.2.2.2.2.2.1 d k pc ls st cu su σ out k2 idx ci b C T N ty As E σ2 hd h1 h2 h3 h4 h5 h6 h7 h8 h9 h10 h11 h12 h13 h14 h15 (ih R hR)
theorem go_callSx {d : Nat} {k : pm_M} {pc : Nat} {ls : List (Option Value)} {st : List Value} {cu su : Nat} {σ : pm_S} {out : pm_O} {k2 : pm_M} {idx : Nat} {As : List Value} {E : String} {σ2 : pm_S} (hd : decode (mB k) pc = .ok (.invokestatic idx, 3)) (h1 : pm_ok k2) (h2 : pm_sl (mY k).cls idx (mY k2)) (h3 : pm_np (mY k2) As.length) (h4 : pm_cat1 As = true) (h5 : (st.map fun v => v.category).sum ≤ 8) (h6 : As.length ≤ mL k2) (h7 : cu + mC k2 ≤ mC k) (h8 : su + mS k2 ≤ mS k) (h9 : pm_lt σ.1 ls st = true) (h10 : mH k = []) (h11 : out = (.inr E, σ2)) (ih : pm_Go d k2 0 (pm_en (As) (mL k2)) [] 0 0 σ (.inr E, σ2)) : pm_Go (d + 1) k (pc) (ls) (As.reverse ++ st) (cu) (su) (σ) out := fun R hR => hR.2.2.2.2.2.2.2.2.2.2.2.2.2.2.2.2.2.2.2.2.2.2.2.2.2.2.2.2.2.2.2.2.2.2.2.2.2.2.2.2.2.2.2.2.2.2.2.2.2.2.2.2.2.2.2.2.2.2.2.2.2.2.2.2.2.2.2.2.2.2.2.2.2.2.2.2.2.2.2.2.2.2.2.2.2.2.1 d k pc ls st cu su σ out k2 idx As E σ2 hd h1 h2 h3 h4 h5 h6 h7 h8 h9 h10 h11 (ih R hR)
theorem go_callVc_n {d : Nat} {k : pm_M} {pc : Nat} {ls : List (Option Value)} {st : List Value} {cu su : Nat} {σ : pm_S} {out : pm_O} {k2 : pm_M} {idx ci b : Nat} {C : String} {T : u_T} {N : Nat} {ty : Nat → FieldType} {As : List Value} {E : String} {σ2 : pm_S} {hpc : Nat} {i : Fin 4} (hd : decode (mB k) pc = .ok (.invokevirtual idx, 3)) (h1 : pm_ok k2) (h2 : b < σ.1) (h3 : pm_shp b = (0, ci)) (h4 : pm_cl ci C T N ty) (h5 : (mY k2).cls = C) (h6 : pm_vl (mY k).cls idx (mY k2)) (h7 : pm_np (mY k2) As.length) (h8 : pm_cat1 As = true) (h9 : (st.map fun v => v.category).sum ≤ 8) (h10 : As.length + 1 ≤ mL k2) (h11 : cu + mC k2 ≤ mC k) (h12 : su + mS k2 ≤ mS k) (h13 : pm_lt σ.1 ls st = true) (h14 : pm_hd k pc E hpc) (h15 : decode (mB k) hpc = .ok (.astore_n i, 1)) (h16 : (i : Nat) < ls.length) (h17 : pm_pre ls (i : Nat) = true) (ih : pm_Go d k2 0 (pm_en (.ref b :: As) (mL k2)) [] 0 0 σ (.inr E, σ2)) (ih2 : pm_Go (d + 1) k (hpc + 1) (ls.set (i : Nat) none) ([]) (cu + mC k2) (su + mS k2) (σ2) out) : pm_Go (d + 1) k (pc) (ls) (As.reverse ++ .ref b :: st) (cu) (su) (σ) out := fun R hR => hR.2.2.2.2.2.2.2.2.2.2.2.2.2.2.2.2.2.2.2.2.2.2.2.2.2.2.2.2.2.2.2.2.2.2.2.2.2.2.2.2.2.2.2.2.2.2.2.2.2.2.2.2.2.2.2.2.2.2.2.2.2.2.2.2.2.2.2.2.2.2.2.2.2.2.2.2.2.2.2.2.2.2.2.2.2.2.2.1 d k pc ls st cu su σ out k2 idx ci b C T N ty As E σ2 hpc i hd h1 h2 h3 h4 h5 h6 h7 h8 h9 h10 h11 h12 h13 h14 h15 h16 h17 (ih R hR) (ih2 R hR)
theorem go_callVc {d : Nat} {k : pm_M} {pc : Nat} {ls : List (Option Value)} {st : List Value} {cu su : Nat} {σ : pm_S} {out : pm_O} {k2 : pm_M} {idx ci b : Nat} {C : String} {T : u_T} {N : Nat} {ty : Nat → FieldType} {As : List Value} {E : String} {σ2 : pm_S} {hpc : Nat} {i : Nat} (hd : decode (mB k) pc = .ok (.invokevirtual idx, 3)) (h1 : pm_ok k2) (h2 : b < σ.1) (h3 : pm_shp b = (0, ci)) (h4 : pm_cl ci C T N ty) (h5 : (mY k2).cls = C) (h6 : pm_vl (mY k).cls idx (mY k2)) (h7 : pm_np (mY k2) As.length) (h8 : pm_cat1 As = true) (h9 : (st.map fun v => v.category).sum ≤ 8) (h10 : As.length + 1 ≤ mL k2) (h11 : cu + mC k2 ≤ mC k) (h12 : su + mS k2 ≤ mS k) (h13 : pm_lt σ.1 ls st = true) (h14 : pm_hd k pc E hpc) (h15 : decode (mB k) hpc = .ok (.astore i, 2)) (h16 : i < ls.length) (h17 : pm_pre ls i = true) (ih : pm_Go d k2 0 (pm_en (.ref b :: As) (mL k2)) [] 0 0 σ (.inr E, σ2)) (ih2 : pm_Go (d + 1) k (hpc + 2) (ls.set i none) ([]) (cu + mC k2) (su + mS k2) (σ2) out) : pm_Go (d + 1) k (pc) (ls) (As.reverse ++ .ref b :: st) (cu) (su) (σ) out := fun R hR => hR.2.2.2.2.2.2.2.2.2.2.2.2.2.2.2.2.2.2.2.2.2.2.2.2.2.2.2.2.2.2.2.2.2.2.2.2.2.2.2.2.2.2.2.2.2.2.2.2.2.2.2.2.2.2.2.2.2.2.2.2.2.2.2.2.2.2.2.2.2.2.2.2.2.2.2.2.2.2.2.2.2.2.2.2.2.2.2.2.1 d k pc ls st cu su σ out k2 idx ci b C T N ty As E σ2 hpc i hd h1 h2 h3 h4 h5 h6 h7 h8 h9 h10 h11 h12 h13 h14 h15 h16 h17 (ih R hR) (ih2 R hR)
theorem go_throwS {d : Nat} {k : pm_M} {pc : Nat} {ls : List (Option Value)} {st : List Value} {cu su : Nat} {σ : pm_S} {out : pm_O} {E text : String} {nms : List String} {ik is ic : Nat} (hd : decode (mB k) pc = .ok (.new ik, 3)) (h1 : decode (mB k) (pc + 3) = .ok (.dup, 1)) (h2 : decode (mB k) (pc + 4) = .ok (.ldc is, 2)) (h3 : decode (mB k) (pc + 6) = .ok (.invokespecial ic, 3)) (h4 : decode (mB k) (pc + 9) = .ok (.athrow, 1)) (h5 : pm_tw (mY k).cls ik is ic E text nms) (h6 : mH k = []) (h7 : nms.length + 3 < d) (h8 : (st.map fun v => v.category).sum + (13 * (nms.length + 1) + 43) ≤ 35 * d) (h9 : cu + 1 ≤ mC k) (h10 : su + 6 ≤ mS k) (h11 : out = (.inr E, σ)) : pm_Go d k (pc) (ls) (st) (cu) (su) (σ) out := fun R hR => hR.2.2.2.2.2.2.2.2.2.2.2.2.2.2.2.2.2.2.2.2.2.2.2.2.2.2.2.2.2.2.2.2.2.2.2.2.2.2.2.2.2.2.2.2.2.2.2.2.2.2.2.2.2.2.2.2.2.2.2.2.2.2.2.2.2.2.2.2.2.2.2.2.2.2.2.2.2.2.2.2.2.2.2.2.2.2.2.2.2 d k pc ls st cu su σ out E text nms ik is ic hd h1 h2 h3 h4 h5 h6 h7 h8 h9 h10 h11
end
section
theorem so_iconst (l : Launch) (D : va_G) (G : pm_G) : pm_r_iconst (pm_sound l D G) := by
  intro d k pc ls st cu su σ out n v hd h1 ih p e R s m args below meth c H locs A ad real Qc XC free hC hX hL hP hD hS hwf hf hE
  have ih := ih p e R s m args below meth c H locs A ad real Qc XC free hC hX hL hP hD hS hwf hf hE
  obtain ⟨hx, hb, hr, hml, hown, hts, hlocks, hex, hA, hR, hin, hV, hlt⟩ := id hC
  exact lv_iconst hx hb hd h1 ih
theorem so_bipush (l : Launch) (D : va_G) (G : pm_G) : pm_r_bipush (pm_sound l D G) := by
  intro d k pc ls st cu su σ out n v hd h1 ih p e R s m args below meth c H locs A ad real Qc XC free hC hX hL hP hD hS hwf hf hE
  have ih := ih p e R s m args below meth c H locs A ad real Qc XC free hC hX hL hP hD hS hwf hf hE
  obtain ⟨hx, hb, hr, hml, hown, hts, hlocks, hex, hA, hR, hin, hV, hlt⟩ := id hC
  exact lv_bipush hx hb hd h1 ih
theorem so_sipush (l : Launch) (D : va_G) (G : pm_G) : pm_r_sipush (pm_sound l D G) := by
  intro d k pc ls st cu su σ out n v hd h1 ih p e R s m args below meth c H locs A ad real Qc XC free hC hX hL hP hD hS hwf hf hE
  have ih := ih p e R s m args below meth c H locs A ad real Qc XC free hC hX hL hP hD hS hwf hf hE
  obtain ⟨hx, hb, hr, hml, hown, hts, hlocks, hex, hA, hR, hin, hV, hlt⟩ := id hC
  exact lv_sipush hx hb hd h1 ih
theorem so_lconst (l : Launch) (D : va_G) (G : pm_G) : pm_r_lconst (pm_sound l D G) := by
  intro d k pc ls st cu su σ out n v hd h1 ih p e R s m args below meth c H locs A ad real Qc XC free hC hX hL hP hD hS hwf hf hE
  have ih := ih p e R s m args below meth c H locs A ad real Qc XC free hC hX hL hP hD hS hwf hf hE
  obtain ⟨hx, hb, hr, hml, hown, hts, hlocks, hex, hA, hR, hin, hV, hlt⟩ := id hC
  exact lv_lconst hx hb hd h1 ih
theorem so_ldc (l : Launch) (D : va_G) (G : pm_G) : pm_r_ldc (pm_sound l D G) := by
  intro d k pc ls st cu su σ out idx v hd h1 ih p e R s m args below meth c H locs A ad real Qc XC free hC hX hL hP hD hS hwf hf hE
  have ih := ih p e R s m args below meth c H locs A ad real Qc XC free hC hX hL hP hD hS hwf hf hE
  obtain ⟨hx, hb, hr, hml, hown, hts, hlocks, hex, hA, hR, hin, hV, hlt⟩ := id hC
  exact lv_ldc hx hb hown (hts _ h1) hd ih
theorem so_ldc2 (l : Launch) (D : va_G) (G : pm_G) : pm_r_ldc2 (pm_sound l D G) := by
  intro d k pc ls st cu su σ out idx v hd h1 ih p e R s m args below meth c H locs A ad real Qc XC free hC hX hL hP hD hS hwf hf hE
  have ih := ih p e R s m args below meth c H locs A ad real Qc XC free hC hX hL hP hD hS hwf hf hE
  obtain ⟨hx, hb, hr, hml, hown, hts, hlocks, hex, hA, hR, hin, hV, hlt⟩ := id hC
  exact lv_ldc2 hx hb hown (hts _ h1) hd ih
theorem so_iload (l : Launch) (D : va_G) (G : pm_G) : pm_r_iload (pm_sound l D G) := by
  intro d k pc ls st cu su σ out i x hd h1 ih p e R s m args below meth c H locs A ad real Qc XC free hC hX hL hP hD hS hwf hf hE
  have ih := ih p e R s m args below meth c H locs A ad real Qc XC free hC hX hL hP hD hS hwf hf hE
  obtain ⟨hx, hb, hr, hml, hown, hts, hlocks, hex, hA, hR, hin, hV, hlt⟩ := id hC
  exact lv_iload hx hb hd (pm_at hL h1) ih
theorem so_iload_n (l : Launch) (D : va_G) (G : pm_G) : pm_r_iload_n (pm_sound l D G) := by
  intro d k pc ls st cu su σ out i x hd h1 ih p e R s m args below meth c H locs A ad real Qc XC free hC hX hL hP hD hS hwf hf hE
  have ih := ih p e R s m args below meth c H locs A ad real Qc XC free hC hX hL hP hD hS hwf hf hE
  obtain ⟨hx, hb, hr, hml, hown, hts, hlocks, hex, hA, hR, hin, hV, hlt⟩ := id hC
  exact lv_iload_n hx hb hd rfl (pm_at hL h1) ih
theorem so_lload (l : Launch) (D : va_G) (G : pm_G) : pm_r_lload (pm_sound l D G) := by
  intro d k pc ls st cu su σ out i x hd h1 ih p e R s m args below meth c H locs A ad real Qc XC free hC hX hL hP hD hS hwf hf hE
  have ih := ih p e R s m args below meth c H locs A ad real Qc XC free hC hX hL hP hD hS hwf hf hE
  obtain ⟨hx, hb, hr, hml, hown, hts, hlocks, hex, hA, hR, hin, hV, hlt⟩ := id hC
  exact lv_lload hx hb hd (pm_at hL h1) ih
theorem so_lload_n (l : Launch) (D : va_G) (G : pm_G) : pm_r_lload_n (pm_sound l D G) := by
  intro d k pc ls st cu su σ out i x hd h1 ih p e R s m args below meth c H locs A ad real Qc XC free hC hX hL hP hD hS hwf hf hE
  have ih := ih p e R s m args below meth c H locs A ad real Qc XC free hC hX hL hP hD hS hwf hf hE
  obtain ⟨hx, hb, hr, hml, hown, hts, hlocks, hex, hA, hR, hin, hV, hlt⟩ := id hC
  exact lv_lload_n hx hb hd rfl (pm_at hL h1) ih
theorem so_aload (l : Launch) (D : va_G) (G : pm_G) : pm_r_aload (pm_sound l D G) := by
  intro d k pc ls st cu su σ out i x hd h1 ih p e R s m args below meth c H locs A ad real Qc XC free hC hX hL hP hD hS hwf hf hE
  have ih := ih p e R s m args below meth c H locs A ad real Qc XC free hC hX hL hP hD hS hwf hf hE
  obtain ⟨hx, hb, hr, hml, hown, hts, hlocks, hex, hA, hR, hin, hV, hlt⟩ := id hC
  exact lv_aload hx hb hd (pm_at hL h1) ih
theorem so_aload_n (l : Launch) (D : va_G) (G : pm_G) : pm_r_aload_n (pm_sound l D G) := by
  intro d k pc ls st cu su σ out i x hd h1 ih p e R s m args below meth c H locs A ad real Qc XC free hC hX hL hP hD hS hwf hf hE
  have ih := ih p e R s m args below meth c H locs A ad real Qc XC free hC hX hL hP hD hS hwf hf hE
  obtain ⟨hx, hb, hr, hml, hown, hts, hlocks, hex, hA, hR, hin, hV, hlt⟩ := id hC
  exact lv_aload_n hx hb hd rfl (pm_at hL h1) ih
theorem so_iadd (l : Launch) (D : va_G) (G : pm_G) : pm_r_iadd (pm_sound l D G) := by
  intro d k pc ls st cu su σ out x y hd ih p e R s m args below meth c H locs A ad real Qc XC free hC hX hL hP hD hS hwf hf hE
  have ih := ih p e R s m args below meth c H locs A ad real Qc XC free hC hX hL hP hD hS hwf hf hE
  obtain ⟨hx, hb, hr, hml, hown, hts, hlocks, hex, hA, hR, hin, hV, hlt⟩ := id hC
  exact lv_iadd hx hb hd ih
theorem so_isub (l : Launch) (D : va_G) (G : pm_G) : pm_r_isub (pm_sound l D G) := by
  intro d k pc ls st cu su σ out x y hd ih p e R s m args below meth c H locs A ad real Qc XC free hC hX hL hP hD hS hwf hf hE
  have ih := ih p e R s m args below meth c H locs A ad real Qc XC free hC hX hL hP hD hS hwf hf hE
  obtain ⟨hx, hb, hr, hml, hown, hts, hlocks, hex, hA, hR, hin, hV, hlt⟩ := id hC
  exact lv_isub hx hb hd ih
theorem so_imul (l : Launch) (D : va_G) (G : pm_G) : pm_r_imul (pm_sound l D G) := by
  intro d k pc ls st cu su σ out x y hd ih p e R s m args below meth c H locs A ad real Qc XC free hC hX hL hP hD hS hwf hf hE
  have ih := ih p e R s m args below meth c H locs A ad real Qc XC free hC hX hL hP hD hS hwf hf hE
  obtain ⟨hx, hb, hr, hml, hown, hts, hlocks, hex, hA, hR, hin, hV, hlt⟩ := id hC
  exact lv_imul hx hb hd ih
theorem so_iand (l : Launch) (D : va_G) (G : pm_G) : pm_r_iand (pm_sound l D G) := by
  intro d k pc ls st cu su σ out x y hd ih p e R s m args below meth c H locs A ad real Qc XC free hC hX hL hP hD hS hwf hf hE
  have ih := ih p e R s m args below meth c H locs A ad real Qc XC free hC hX hL hP hD hS hwf hf hE
  obtain ⟨hx, hb, hr, hml, hown, hts, hlocks, hex, hA, hR, hin, hV, hlt⟩ := id hC
  exact lv_iand hx hb hd ih
theorem so_ior (l : Launch) (D : va_G) (G : pm_G) : pm_r_ior (pm_sound l D G) := by
  intro d k pc ls st cu su σ out x y hd ih p e R s m args below meth c H locs A ad real Qc XC free hC hX hL hP hD hS hwf hf hE
  have ih := ih p e R s m args below meth c H locs A ad real Qc XC free hC hX hL hP hD hS hwf hf hE
  obtain ⟨hx, hb, hr, hml, hown, hts, hlocks, hex, hA, hR, hin, hV, hlt⟩ := id hC
  exact lv_ior hx hb hd ih
theorem so_ixor (l : Launch) (D : va_G) (G : pm_G) : pm_r_ixor (pm_sound l D G) := by
  intro d k pc ls st cu su σ out x y hd ih p e R s m args below meth c H locs A ad real Qc XC free hC hX hL hP hD hS hwf hf hE
  have ih := ih p e R s m args below meth c H locs A ad real Qc XC free hC hX hL hP hD hS hwf hf hE
  obtain ⟨hx, hb, hr, hml, hown, hts, hlocks, hex, hA, hR, hin, hV, hlt⟩ := id hC
  exact lv_ixor hx hb hd ih
theorem so_ishl (l : Launch) (D : va_G) (G : pm_G) : pm_r_ishl (pm_sound l D G) := by
  intro d k pc ls st cu su σ out x y hd ih p e R s m args below meth c H locs A ad real Qc XC free hC hX hL hP hD hS hwf hf hE
  have ih := ih p e R s m args below meth c H locs A ad real Qc XC free hC hX hL hP hD hS hwf hf hE
  obtain ⟨hx, hb, hr, hml, hown, hts, hlocks, hex, hA, hR, hin, hV, hlt⟩ := id hC
  exact lv_ishl hx hb hd ih
theorem so_ishr (l : Launch) (D : va_G) (G : pm_G) : pm_r_ishr (pm_sound l D G) := by
  intro d k pc ls st cu su σ out x y hd ih p e R s m args below meth c H locs A ad real Qc XC free hC hX hL hP hD hS hwf hf hE
  have ih := ih p e R s m args below meth c H locs A ad real Qc XC free hC hX hL hP hD hS hwf hf hE
  obtain ⟨hx, hb, hr, hml, hown, hts, hlocks, hex, hA, hR, hin, hV, hlt⟩ := id hC
  exact lv_ishr hx hb hd ih
theorem so_idiv (l : Launch) (D : va_G) (G : pm_G) : pm_r_idiv (pm_sound l D G) := by
  intro d k pc ls st cu su σ out x y hd h1 ih p e R s m args below meth c H locs A ad real Qc XC free hC hX hL hP hD hS hwf hf hE
  have ih := ih p e R s m args below meth c H locs A ad real Qc XC free hC hX hL hP hD hS hwf hf hE
  obtain ⟨hx, hb, hr, hml, hown, hts, hlocks, hex, hA, hR, hin, hV, hlt⟩ := id hC
  exact lv_idiv hx hb hd h1 ih
theorem so_irem (l : Launch) (D : va_G) (G : pm_G) : pm_r_irem (pm_sound l D G) := by
  intro d k pc ls st cu su σ out x y hd h1 ih p e R s m args below meth c H locs A ad real Qc XC free hC hX hL hP hD hS hwf hf hE
  have ih := ih p e R s m args below meth c H locs A ad real Qc XC free hC hX hL hP hD hS hwf hf hE
  obtain ⟨hx, hb, hr, hml, hown, hts, hlocks, hex, hA, hR, hin, hV, hlt⟩ := id hC
  exact lv_irem hx hb hd h1 ih
theorem so_land (l : Launch) (D : va_G) (G : pm_G) : pm_r_land (pm_sound l D G) := by
  intro d k pc ls st cu su σ out x y hd ih p e R s m args below meth c H locs A ad real Qc XC free hC hX hL hP hD hS hwf hf hE
  have ih := ih p e R s m args below meth c H locs A ad real Qc XC free hC hX hL hP hD hS hwf hf hE
  obtain ⟨hx, hb, hr, hml, hown, hts, hlocks, hex, hA, hR, hin, hV, hlt⟩ := id hC
  exact lv_land hx hb hd ih
theorem so_lor (l : Launch) (D : va_G) (G : pm_G) : pm_r_lor (pm_sound l D G) := by
  intro d k pc ls st cu su σ out x y hd ih p e R s m args below meth c H locs A ad real Qc XC free hC hX hL hP hD hS hwf hf hE
  have ih := ih p e R s m args below meth c H locs A ad real Qc XC free hC hX hL hP hD hS hwf hf hE
  obtain ⟨hx, hb, hr, hml, hown, hts, hlocks, hex, hA, hR, hin, hV, hlt⟩ := id hC
  exact lv_lor hx hb hd ih
theorem so_lshl (l : Launch) (D : va_G) (G : pm_G) : pm_r_lshl (pm_sound l D G) := by
  intro d k pc ls st cu su σ out x y hd ih p e R s m args below meth c H locs A ad real Qc XC free hC hX hL hP hD hS hwf hf hE
  have ih := ih p e R s m args below meth c H locs A ad real Qc XC free hC hX hL hP hD hS hwf hf hE
  obtain ⟨hx, hb, hr, hml, hown, hts, hlocks, hex, hA, hR, hin, hV, hlt⟩ := id hC
  exact lv_lshl hx hb hd rfl ih
theorem so_i2l (l : Launch) (D : va_G) (G : pm_G) : pm_r_i2l (pm_sound l D G) := by
  intro d k pc ls st cu su σ out x hd ih p e R s m args below meth c H locs A ad real Qc XC free hC hX hL hP hD hS hwf hf hE
  have ih := ih p e R s m args below meth c H locs A ad real Qc XC free hC hX hL hP hD hS hwf hf hE
  obtain ⟨hx, hb, hr, hml, hown, hts, hlocks, hex, hA, hR, hin, hV, hlt⟩ := id hC
  exact lv_i2l hx hb hd rfl ih
theorem so_lcmp (l : Launch) (D : va_G) (G : pm_G) : pm_r_lcmp (pm_sound l D G) := by
  intro d k pc ls st cu su σ out x y hd ih p e R s m args below meth c H locs A ad real Qc XC free hC hX hL hP hD hS hwf hf hE
  have ih := ih p e R s m args below meth c H locs A ad real Qc XC free hC hX hL hP hD hS hwf hf hE
  obtain ⟨hx, hb, hr, hml, hown, hts, hlocks, hex, hA, hR, hin, hV, hlt⟩ := id hC
  exact W.lcmp hx hb hd ih
theorem so_dup (l : Launch) (D : va_G) (G : pm_G) : pm_r_dup (pm_sound l D G) := by
  intro d k pc ls st cu su σ out va hd h1 ih p e R s m args below meth c H locs A ad real Qc XC free hC hX hL hP hD hS hwf hf hE
  have ih := ih p e R s m args below meth c H locs A ad real Qc XC free hC hX hL hP hD hS hwf hf hE
  obtain ⟨hx, hb, hr, hml, hown, hts, hlocks, hex, hA, hR, hin, hV, hlt⟩ := id hC
  exact lv_dup hx hb hd ((pm_cat ad va).trans h1) ih
theorem so_pop (l : Launch) (D : va_G) (G : pm_G) : pm_r_pop (pm_sound l D G) := by
  intro d k pc ls st cu su σ out va hd h1 ih p e R s m args below meth c H locs A ad real Qc XC free hC hX hL hP hD hS hwf hf hE
  have ih := ih p e R s m args below meth c H locs A ad real Qc XC free hC hX hL hP hD hS hwf hf hE
  obtain ⟨hx, hb, hr, hml, hown, hts, hlocks, hex, hA, hR, hin, hV, hlt⟩ := id hC
  exact lv_pop hx hb hd ((pm_cat ad va).trans h1) ih
theorem so_dup_x1 (l : Launch) (D : va_G) (G : pm_G) : pm_r_dup_x1 (pm_sound l D G) := by
  intro d k pc ls st cu su σ out va vb hd h1 h2 ih p e R s m args below meth c H locs A ad real Qc XC free hC hX hL hP hD hS hwf hf hE
  have ih := ih p e R s m args below meth c H locs A ad real Qc XC free hC hX hL hP hD hS hwf hf hE
  obtain ⟨hx, hb, hr, hml, hown, hts, hlocks, hex, hA, hR, hin, hV, hlt⟩ := id hC
  exact lv_dup_x1 hx hb hd ((pm_cat ad va).trans h1) ((pm_cat ad vb).trans h2) ih
theorem so_dup_x2 (l : Launch) (D : va_G) (G : pm_G) : pm_r_dup_x2 (pm_sound l D G) := by
  intro d k pc ls st cu su σ out va vb vd hd h1 h2 h3 ih p e R s m args below meth c H locs A ad real Qc XC free hC hX hL hP hD hS hwf hf hE
  have ih := ih p e R s m args below meth c H locs A ad real Qc XC free hC hX hL hP hD hS hwf hf hE
  obtain ⟨hx, hb, hr, hml, hown, hts, hlocks, hex, hA, hR, hin, hV, hlt⟩ := id hC
  exact lv_dup_x2 hx hb hd ((pm_cat ad va).trans h1) ((pm_cat ad vb).trans h2) ((pm_cat ad vd).trans h3) ih
theorem so_dup2 (l : Launch) (D : va_G) (G : pm_G) : pm_r_dup2 (pm_sound l D G) := by
  intro d k pc ls st cu su σ out va vb hd h1 h2 ih p e R s m args below meth c H locs A ad real Qc XC free hC hX hL hP hD hS hwf hf hE
  have ih := ih p e R s m args below meth c H locs A ad real Qc XC free hC hX hL hP hD hS hwf hf hE
  obtain ⟨hx, hb, hr, hml, hown, hts, hlocks, hex, hA, hR, hin, hV, hlt⟩ := id hC
  exact lv_dup2_11 hx hb hd ((pm_cat ad va).trans h1) ((pm_cat ad vb).trans h2) ih
theorem so_goto (l : Launch) (D : va_G) (G : pm_G) : pm_r_goto (pm_sound l D G) := by
  intro d k pc ls st cu su σ out off tgt hd h1 ih p e R s m args below meth c H locs A ad real Qc XC free hC hX hL hP hD hS hwf hf hE
  have ih := ih p e R s m args below meth c H locs A ad real Qc XC free hC hX hL hP hD hS hwf hf hE
  obtain ⟨hx, hb, hr, hml, hown, hts, hlocks, hex, hA, hR, hin, hV, hlt⟩ := id hC
  exact lv_goto hx hb hd h1 ih
theorem so_if_eq (l : Launch) (D : va_G) (G : pm_G) : pm_r_if_eq (pm_sound l D G) := by
  intro d k pc ls st cu su σ out x off tgt hd h1 ih ih2 p e R s m args below meth c H locs A ad real Qc XC free hC hX hL hP hD hS hwf hf hE
  obtain ⟨hx, hb, hr, hml, hown, hts, hlocks, hex, hA, hR, hin, hV, hlt⟩ := id hC
  exact lv_if_eq hx hb hd h1 (fun z => ih z p e R s m args below meth c H locs A ad real Qc XC free hC hX hL hP hD hS hwf hf hE) (fun z => ih2 z p e R s m args below meth c H locs A ad real Qc XC free hC hX hL hP hD hS hwf hf hE)
theorem so_if_ne (l : Launch) (D : va_G) (G : pm_G) : pm_r_if_ne (pm_sound l D G) := by
  intro d k pc ls st cu su σ out x off tgt hd h1 ih ih2 p e R s m args below meth c H locs A ad real Qc XC free hC hX hL hP hD hS hwf hf hE
  obtain ⟨hx, hb, hr, hml, hown, hts, hlocks, hex, hA, hR, hin, hV, hlt⟩ := id hC
  exact lv_if_ne hx hb hd h1 (fun z => ih z p e R s m args below meth c H locs A ad real Qc XC free hC hX hL hP hD hS hwf hf hE) (fun z => ih2 z p e R s m args below meth c H locs A ad real Qc XC free hC hX hL hP hD hS hwf hf hE)
theorem so_if_lt (l : Launch) (D : va_G) (G : pm_G) : pm_r_if_lt (pm_sound l D G) := by
  intro d k pc ls st cu su σ out x off tgt hd h1 ih ih2 p e R s m args below meth c H locs A ad real Qc XC free hC hX hL hP hD hS hwf hf hE
  obtain ⟨hx, hb, hr, hml, hown, hts, hlocks, hex, hA, hR, hin, hV, hlt⟩ := id hC
  exact lv_if_lt hx hb hd h1 (fun z => ih z p e R s m args below meth c H locs A ad real Qc XC free hC hX hL hP hD hS hwf hf hE) (fun z => ih2 z p e R s m args below meth c H locs A ad real Qc XC free hC hX hL hP hD hS hwf hf hE)
theorem so_if_ge (l : Launch) (D : va_G) (G : pm_G) : pm_r_if_ge (pm_sound l D G) := by
  intro d k pc ls st cu su σ out x off tgt hd h1 ih ih2 p e R s m args below meth c H locs A ad real Qc XC free hC hX hL hP hD hS hwf hf hE
  obtain ⟨hx, hb, hr, hml, hown, hts, hlocks, hex, hA, hR, hin, hV, hlt⟩ := id hC
  exact lv_if_ge hx hb hd h1 (fun z => ih z p e R s m args below meth c H locs A ad real Qc XC free hC hX hL hP hD hS hwf hf hE) (fun z => ih2 z p e R s m args below meth c H locs A ad real Qc XC free hC hX hL hP hD hS hwf hf hE)
theorem so_if_gt (l : Launch) (D : va_G) (G : pm_G) : pm_r_if_gt (pm_sound l D G) := by
  intro d k pc ls st cu su σ out x off tgt hd h1 ih ih2 p e R s m args below meth c H locs A ad real Qc XC free hC hX hL hP hD hS hwf hf hE
  obtain ⟨hx, hb, hr, hml, hown, hts, hlocks, hex, hA, hR, hin, hV, hlt⟩ := id hC
  exact lv_if_gt hx hb hd h1 (fun z => ih z p e R s m args below meth c H locs A ad real Qc XC free hC hX hL hP hD hS hwf hf hE) (fun z => ih2 z p e R s m args below meth c H locs A ad real Qc XC free hC hX hL hP hD hS hwf hf hE)
theorem so_if_le (l : Launch) (D : va_G) (G : pm_G) : pm_r_if_le (pm_sound l D G) := by
  intro d k pc ls st cu su σ out x off tgt hd h1 ih ih2 p e R s m args below meth c H locs A ad real Qc XC free hC hX hL hP hD hS hwf hf hE
  obtain ⟨hx, hb, hr, hml, hown, hts, hlocks, hex, hA, hR, hin, hV, hlt⟩ := id hC
  exact lv_if_le hx hb hd h1 (fun z => ih z p e R s m args below meth c H locs A ad real Qc XC free hC hX hL hP hD hS hwf hf hE) (fun z => ih2 z p e R s m args below meth c H locs A ad real Qc XC free hC hX hL hP hD hS hwf hf hE)
theorem so_icmp_eq (l : Launch) (D : va_G) (G : pm_G) : pm_r_icmp_eq (pm_sound l D G) := by
  intro d k pc ls st cu su σ out x y off tgt hd h1 ih ih2 p e R s m args below meth c H locs A ad real Qc XC free hC hX hL hP hD hS hwf hf hE
  obtain ⟨hx, hb, hr, hml, hown, hts, hlocks, hex, hA, hR, hin, hV, hlt⟩ := id hC
  exact lv_icmp_eq hx hb hd h1 (fun z => ih z p e R s m args below meth c H locs A ad real Qc XC free hC hX hL hP hD hS hwf hf hE) (fun z => ih2 z p e R s m args below meth c H locs A ad real Qc XC free hC hX hL hP hD hS hwf hf hE)
theorem so_icmp_ne (l : Launch) (D : va_G) (G : pm_G) : pm_r_icmp_ne (pm_sound l D G) := by
  intro d k pc ls st cu su σ out x y off tgt hd h1 ih ih2 p e R s m args below meth c H locs A ad real Qc XC free hC hX hL hP hD hS hwf hf hE
  obtain ⟨hx, hb, hr, hml, hown, hts, hlocks, hex, hA, hR, hin, hV, hlt⟩ := id hC
  exact lv_icmp_ne hx hb hd h1 (fun z => ih z p e R s m args below meth c H locs A ad real Qc XC free hC hX hL hP hD hS hwf hf hE) (fun z => ih2 z p e R s m args below meth c H locs A ad real Qc XC free hC hX hL hP hD hS hwf hf hE)
theorem so_icmp_lt (l : Launch) (D : va_G) (G : pm_G) : pm_r_icmp_lt (pm_sound l D G) := by
  intro d k pc ls st cu su σ out x y off tgt hd h1 ih ih2 p e R s m args below meth c H locs A ad real Qc XC free hC hX hL hP hD hS hwf hf hE
  obtain ⟨hx, hb, hr, hml, hown, hts, hlocks, hex, hA, hR, hin, hV, hlt⟩ := id hC
  exact lv_icmp_lt hx hb hd h1 (fun z => ih z p e R s m args below meth c H locs A ad real Qc XC free hC hX hL hP hD hS hwf hf hE) (fun z => ih2 z p e R s m args below meth c H locs A ad real Qc XC free hC hX hL hP hD hS hwf hf hE)
theorem so_icmp_ge (l : Launch) (D : va_G) (G : pm_G) : pm_r_icmp_ge (pm_sound l D G) := by
  intro d k pc ls st cu su σ out x y off tgt hd h1 ih ih2 p e R s m args below meth c H locs A ad real Qc XC free hC hX hL hP hD hS hwf hf hE
  obtain ⟨hx, hb, hr, hml, hown, hts, hlocks, hex, hA, hR, hin, hV, hlt⟩ := id hC
  exact lv_icmp_ge hx hb hd h1 (fun z => ih z p e R s m args below meth c H locs A ad real Qc XC free hC hX hL hP hD hS hwf hf hE) (fun z => ih2 z p e R s m args below meth c H locs A ad real Qc XC free hC hX hL hP hD hS hwf hf hE)
theorem so_icmp_gt (l : Launch) (D : va_G) (G : pm_G) : pm_r_icmp_gt (pm_sound l D G) := by
  intro d k pc ls st cu su σ out x y off tgt hd h1 ih ih2 p e R s m args below meth c H locs A ad real Qc XC free hC hX hL hP hD hS hwf hf hE
  obtain ⟨hx, hb, hr, hml, hown, hts, hlocks, hex, hA, hR, hin, hV, hlt⟩ := id hC
  exact lv_icmp_gt hx hb hd h1 (fun z => ih z p e R s m args below meth c H locs A ad real Qc XC free hC hX hL hP hD hS hwf hf hE) (fun z => ih2 z p e R s m args below meth c H locs A ad real Qc XC free hC hX hL hP hD hS hwf hf hE)
theorem so_icmp_le (l : Launch) (D : va_G) (G : pm_G) : pm_r_icmp_le (pm_sound l D G) := by
  intro d k pc ls st cu su σ out x y off tgt hd h1 ih ih2 p e R s m args below meth c H locs A ad real Qc XC free hC hX hL hP hD hS hwf hf hE
  obtain ⟨hx, hb, hr, hml, hown, hts, hlocks, hex, hA, hR, hin, hV, hlt⟩ := id hC
  exact lv_icmp_le hx hb hd h1 (fun z => ih z p e R s m args below meth c H locs A ad real Qc XC free hC hX hL hP hD hS hwf hf hE) (fun z => ih2 z p e R s m args below meth c H locs A ad real Qc XC free hC hX hL hP hD hS hwf hf hE)
theorem so_tableIn (l : Launch) (D : va_G) (G : pm_G) : pm_r_tableIn (pm_sound l D G) := by
  intro d k pc ls st cu su σ out dflt lo hi offs len x off tgt hd h1 h2 h3 h4 ih p e R s m args below meth c H locs A ad real Qc XC free hC hX hL hP hD hS hwf hf hE
  have ih := ih p e R s m args below meth c H locs A ad real Qc XC free hC hX hL hP hD hS hwf hf hE
  obtain ⟨hx, hb, hr, hml, hown, hts, hlocks, hex, hA, hR, hin, hV, hlt⟩ := id hC
  exact lv_tableIn hx hb hd h1 h2 h3 h4 ih
theorem so_tableOut (l : Launch) (D : va_G) (G : pm_G) : pm_r_tableOut (pm_sound l D G) := by
  intro d k pc ls st cu su σ out dflt lo hi offs len x tgt hd h1 h2 ih p e R s m args below meth c H locs A ad real Qc XC free hC hX hL hP hD hS hwf hf hE
  have ih := ih p e R s m args below meth c H locs A ad real Qc XC free hC hX hL hP hD hS hwf hf hE
  obtain ⟨hx, hb, hr, hml, hown, hts, hlocks, hex, hA, hR, hin, hV, hlt⟩ := id hC
  exact lv_tableOut hx hb hd h1 h2 ih
theorem so_istore (l : Launch) (D : va_G) (G : pm_G) : pm_r_istore (pm_sound l D G) := by
  intro d k pc ls st cu su σ out i x hd h1 h2 ih p e R s m args below meth c H locs A ad real Qc XC free hC hX hL hP hD hS hwf hf hE
  obtain ⟨hx, hb, hr, hml, hown, hts, hlocks, hex, hA, hR, hin, hV, hlt⟩ := id hC
  refine lv_istore hx hb hd hL.2 (by rw [← hL.1]; exact h1) rfl (fun real' h' => ?_)
  exact ih p e R s m args below meth c H locs A ad real' Qc XC free hC hX (pm_store1 (v := .int x) hL h2 h') hP hD hS hwf hf hE
theorem so_istore_n (l : Launch) (D : va_G) (G : pm_G) : pm_r_istore_n (pm_sound l D G) := by
  intro d k pc ls st cu su σ out i x hd h1 h2 ih p e R s m args below meth c H locs A ad real Qc XC free hC hX hL hP hD hS hwf hf hE
  obtain ⟨hx, hb, hr, hml, hown, hts, hlocks, hex, hA, hR, hin, hV, hlt⟩ := id hC
  refine lv_istore_n hx hb hd rfl hL.2 (by rw [← hL.1]; exact h1) rfl (fun real' h' => ?_)
  exact ih p e R s m args below meth c H locs A ad real' Qc XC free hC hX (pm_store1 (v := .int x) hL h2 h') hP hD hS hwf hf hE
theorem so_astore (l : Launch) (D : va_G) (G : pm_G) : pm_r_astore (pm_sound l D G) := by
  intro d k pc ls st cu su σ out i x hd h1 h2 ih p e R s m args below meth c H locs A ad real Qc XC free hC hX hL hP hD hS hwf hf hE
  obtain ⟨hx, hb, hr, hml, hown, hts, hlocks, hex, hA, hR, hin, hV, hlt⟩ := id hC
  refine lv_astore hx hb hd hL.2 (by rw [← hL.1]; exact h1) rfl (fun real' h' => ?_)
  exact ih p e R s m args below meth c H locs A ad real' Qc XC free hC hX (pm_store1 (v := .ref x) hL h2 h') hP hD hS hwf hf hE
theorem so_astore_n (l : Launch) (D : va_G) (G : pm_G) : pm_r_astore_n (pm_sound l D G) := by
  intro d k pc ls st cu su σ out i x hd h1 h2 ih p e R s m args below meth c H locs A ad real Qc XC free hC hX hL hP hD hS hwf hf hE
  obtain ⟨hx, hb, hr, hml, hown, hts, hlocks, hex, hA, hR, hin, hV, hlt⟩ := id hC
  refine lv_astore_n hx hb hd rfl hL.2 (by rw [← hL.1]; exact h1) rfl (fun real' h' => ?_)
  exact ih p e R s m args below meth c H locs A ad real' Qc XC free hC hX (pm_store1 (v := .ref x) hL h2 h') hP hD hS hwf hf hE
theorem so_lstore (l : Launch) (D : va_G) (G : pm_G) : pm_r_lstore (pm_sound l D G) := by
  intro d k pc ls st cu su σ out i x hd h1 h2 ih p e R s m args below meth c H locs A ad real Qc XC free hC hX hL hP hD hS hwf hf hE
  obtain ⟨hx, hb, hr, hml, hown, hts, hlocks, hex, hA, hR, hin, hV, hlt⟩ := id hC
  refine lv_lstore hx hb hd hL.2 (by rw [← hL.1]; exact h1) rfl (fun real' h' => ?_)
  exact ih p e R s m args below meth c H locs A ad real' Qc XC free hC hX (pm_store2 (v := .long x) hL h2 h') hP hD hS hwf hf hE
theorem so_lstore_n (l : Launch) (D : va_G) (G : pm_G) : pm_r_lstore_n (pm_sound l D G) := by
  intro d k pc ls st cu su σ out i x hd h1 h2 ih p e R s m args below meth c H locs A ad real Qc XC free hC hX hL hP hD hS hwf hf hE
  obtain ⟨hx, hb, hr, hml, hown, hts, hlocks, hex, hA, hR, hin, hV, hlt⟩ := id hC
  refine lv_lstore_n hx hb hd rfl hL.2 (by rw [← hL.1]; exact h1) rfl (fun real' h' => ?_)
  exact ih p e R s m args below meth c H locs A ad real' Qc XC free hC hX (pm_store2 (v := .long x) hL h2 h') hP hD hS hwf hf hE
theorem so_iinc (l : Launch) (D : va_G) (G : pm_G) : pm_r_iinc (pm_sound l D G) := by
  intro d k pc ls st cu su σ out i n x v hd h1 h2 h3 ih p e R s m args below meth c H locs A ad real Qc XC free hC hX hL hP hD hS hwf hf hE
  obtain ⟨hx, hb, hr, hml, hown, hts, hlocks, hex, hA, hR, hin, hV, hlt⟩ := id hC
  obtain ⟨q, hq⟩ := List.getElem?_of_mem (pm_lv_mem (ad := ad) h1)
  refine lv_iinc hx hb hd hL.2 (k := q) hq h2 (by rw [← hL.1]; exact (List.getElem?_eq_some_iff.mp h1).1) rfl (fun real' h' => ?_)
  exact ih p e R s m args below meth c H locs A ad real' Qc XC free hC hX (pm_store1 (v := .int v) hL h3 h') hP hD hS hwf hf hE
theorem so_getI (l : Launch) (D : va_G) (G : pm_G) : pm_r_getI (pm_sound l D G) := by
  intro d k pc ls st cu su σ out b ci C T N ty j idx hd h1 h2 h3 h4 h5 h6 ih p e R s m args below meth c H locs A ad real Qc XC free hC hX hL hP hD hS hwf hf hE
  have ih := ih p e R s m args below meth c H locs A ad real Qc XC free hC hX hL hP hD hS hwf hf hE
  obtain ⟨hx, hb, hr, hml, hown, hts, hlocks, hex, hA, hR, hin, hV, hlt⟩ := id hC
  exact va_get hx hb hts h3.2.1 hown hV.1 hP b (pm_ws0 h1 h2) h3.1 j h4 (hts _ h6) (fun _ h => h) (pm_fsI h3.1 h4 h5) hd ih
theorem so_getP (l : Launch) (D : va_G) (G : pm_G) : pm_r_getP (pm_sound l D G) := by
  intro d k pc ls st cu su σ out b ci C T N ty j idx r hd h1 h2 h3 h4 h5 h6 h7 ih p e R s m args below meth c H locs A ad real Qc XC free hC hX hL hP hD hS hwf hf hE
  have ih := ih p e R s m args below meth c H locs A ad real Qc XC free hC hX hL hP hD hS hwf hf hE
  obtain ⟨hx, hb, hr, hml, hown, hts, hlocks, hex, hA, hR, hin, hV, hlt⟩ := id hC
  exact va_get hx hb hts h3.2.1 hown hV.1 hP b (pm_ws0 h1 h2) h3.1 j h4 (hts _ h6) (fun _ h => h) (pm_fsP h3.1 h4 h5 h7) hd ih
theorem so_putI (l : Launch) (D : va_G) (G : pm_G) : pm_r_putI (pm_sound l D G) := by
  intro d k pc ls st cu su σ out b ci C T N ty j idx v hd h1 h2 h3 h4 h5 h6 h7 h8 ih p e R s m args below meth c H locs A ad real Qc XC free hC hX hL hP hD hS hwf hf hE
  obtain ⟨hx, hb, hr, hml, hown, hts, hlocks, hex, hA, hR, hin, hV, hlt⟩ := id hC
  have hn : narrow (ty j) (.int v) = .int v := pm_nar h8
  have hfi : fits (ty j) (.int v) = true := pm_fit h8
  refine va_put hx hb hts h3.2.1 ty h3.2.2.1 h3.2.2.2.1 hown hV.1 hP hD hS b (pm_ws0 h1 h2) h3.1 j h4 (hts _ h6) (fun _ h => h) h7 (h3.2.2.1 j h4) hn hfi (pm_fsl h3.1 h4) hd (fun H1 locs1 hP1 hD1 hS1 => ?_)
  exact ih p e R s m args below meth c H1 locs1 A ad real Qc XC free hC (pm_X_sI hwf h1 hX) hL (by rw [← pm_set0I h1 h2 h5]; exact hP1) (by rw [← pm_set0I h1 h2 h5]; exact hD1) hS1 (pm_wf_sI hwf) hf (pm_end_sI hwf h1 hE)
theorem so_putP (l : Launch) (D : va_G) (G : pm_G) : pm_r_putP (pm_sound l D G) := by
  intro d k pc ls st cu su σ out b ci C T N ty j idx r hd h1 h2 h3 h4 h5 h6 h7 h8 h9 h10 h11 ih p e R s m args below meth c H locs A ad real Qc XC free hC hX hL hP hD hS hwf hf hE
  obtain ⟨hx, hb, hr, hml, hown, hts, hlocks, hex, hA, hR, hin, hV, hlt⟩ := id hC
  refine va_putF hx hb hts h3.2.1 ty h3.2.2.1 h3.2.2.2.1 hown hV.1 hP hD hS b (pm_ws0 h1 h2) h3.1 j h4 (hts _ h6) (fun _ h => h) h7 (hin h8) h9 (h3.2.2.1 j h4) (pm_narR h10) (pm_fitR h10) (pm_fsl h3.1 h4) hd (fun H1 locs1 hP1 hD1 hS1 => ?_)
  exact ih p e R s m args below meth c H1 locs1 A ad real Qc XC free hC (pm_X_sP hX) hL (by rw [← pm_set0P h1 h2 h5]; exact hP1) (by rw [← pm_set0P h1 h2 h5]; exact hD1) hS1 (pm_wf_sP hwf h11) hf (pm_end_sP hE)
theorem so_iaload (l : Launch) (D : va_G) (G : pm_G) : pm_r_iaload (pm_sound l D G) := by
  intro d k pc ls st cu su σ out b n i hd h1 h2 h3 ih p e R s m args below meth c H locs A ad real Qc XC free hC hX hL hP hD hS hwf hf hE
  have ih := ih p e R s m args below meth c H locs A ad real Qc XC free hC hX hL hP hD hS hwf hf hE
  obtain ⟨hx, hb, hr, hml, hown, hts, hlocks, hex, hA, hR, hin, hV, hlt⟩ := id hC
  exact va_iald hx hb hV.1 hP b 0 (pm_ws1 h1 h2) rfl h3 hd ih
theorem so_iastore (l : Launch) (D : va_G) (G : pm_G) : pm_r_iastore (pm_sound l D G) := by
  intro d k pc ls st cu su σ out b n i v hd h1 h2 h3 ih p e R s m args below meth c H locs A ad real Qc XC free hC hX hL hP hD hS hwf hf hE
  obtain ⟨hx, hb, hr, hml, hown, hts, hlocks, hex, hA, hR, hin, hV, hlt⟩ := id hC
  refine va_iast hx hb hV.1 hP hD hS b 0 (pm_ws1 h1 h2) rfl h3 hd (fun H1 locs1 hP1 hD1 hS1 => ?_)
  rw [pm_set1 h1 h2] at hP1 hD1
  exact ih p e R s m args below meth c H1 locs1 A ad real Qc XC free hC (pm_X_sI hwf h1 hX) hL hP1 hD1 hS1 (pm_wf_sI hwf) hf (pm_end_sI hwf h1 hE)
theorem so_laload (l : Launch) (D : va_G) (G : pm_G) : pm_r_laload (pm_sound l D G) := by
  intro d k pc ls st cu su σ out b n i hd h1 h2 h3 ih p e R s m args below meth c H locs A ad real Qc XC free hC hX hL hP hD hS hwf hf hE
  have ih := ih p e R s m args below meth c H locs A ad real Qc XC free hC hX hL hP hD hS hwf hf hE
  obtain ⟨hx, hb, hr, hml, hown, hts, hlocks, hex, hA, hR, hin, hV, hlt⟩ := id hC
  exact va_lald hx hb hV.1 hP b 1 (pm_ws2 h1 h2) rfl h3 hd ih
theorem so_lastore (l : Launch) (D : va_G) (G : pm_G) : pm_r_lastore (pm_sound l D G) := by
  intro d k pc ls st cu su σ out b n i v hd h1 h2 h3 ih p e R s m args below meth c H locs A ad real Qc XC free hC hX hL hP hD hS hwf hf hE
  obtain ⟨hx, hb, hr, hml, hown, hts, hlocks, hex, hA, hR, hin, hV, hlt⟩ := id hC
  refine va_last hx hb hV.1 hP hD hS b 1 (pm_ws2 h1 h2) rfl h3 hd (fun H1 locs1 hP1 hD1 hS1 => ?_)
  rw [pm_set2 h1 h2] at hP1 hD1
  exact ih p e R s m args below meth c H1 locs1 A ad real Qc XC free hC (pm_X_sJ hX) hL hP1 hD1 hS1 (pm_wf_sJ hwf) hf (pm_end_sJ hE)
theorem so_aaload3 (l : Launch) (D : va_G) (G : pm_G) : pm_r_aaload3 (pm_sound l D G) := by
  intro d k pc ls st cu su σ out b n i r hd h1 h2 h3 h4 ih p e R s m args below meth c H locs A ad real Qc XC free hC hX hL hP hD hS hwf hf hE
  have ih := ih p e R s m args below meth c H locs A ad real Qc XC free hC hX hL hP hD hS hwf hf hE
  obtain ⟨hx, hb, hr, hml, hown, hts, hlocks, hex, hA, hR, hin, hV, hlt⟩ := id hC
  exact pm_aald hx hb hV.1 hP b 2 (pm_ws3 h1 h2) (ty := .array .int) rfl rfl h3 (by rw [h4]; rfl) hd ih
theorem so_aaload4 (l : Launch) (D : va_G) (G : pm_G) : pm_r_aaload4 (pm_sound l D G) := by
  intro d k pc ls st cu su σ out b n i r hd h1 h2 h3 h4 ih p e R s m args below meth c H locs A ad real Qc XC free hC hX hL hP hD hS hwf hf hE
  have ih := ih p e R s m args below meth c H locs A ad real Qc XC free hC hX hL hP hD hS hwf hf hE
  obtain ⟨hx, hb, hr, hml, hown, hts, hlocks, hex, hA, hR, hin, hV, hlt⟩ := id hC
  exact pm_aald hx hb hV.1 hP b 3 (pm_ws4 h1 h2) (ty := .array .long) rfl rfl h3 (by rw [h4]; rfl) hd ih
theorem so_alen (l : Launch) (D : va_G) (G : pm_G) : pm_r_alen (pm_sound l D G) := by
  intro d k pc ls st cu su σ out b n hd h1 h2 ih p e R s m args below meth c H locs A ad real Qc XC free hC hX hL hP hD hS hwf hf hE
  have ih := ih p e R s m args below meth c H locs A ad real Qc XC free hC hX hL hP hD hS hwf hf hE
  obtain ⟨hx, hb, hr, hml, hown, hts, hlocks, hex, hA, hR, hin, hV, hlt⟩ := id hC
  exact va_alen hx hb hV.1 hP b 0 (pm_ws1 h1 h2) rfl rfl hd ih
theorem so_sld (l : Launch) (D : va_G) (G : pm_G) : pm_r_sld (pm_sound l D G) := by
  intro d k pc ls st cu su σ out i hd h1 h2 ih p e R s m args below meth c H locs A ad real Qc XC free hC hX hL hP hD hS hwf hf hE
  have ih := ih p e R s m args below meth c H locs A ad real Qc XC free hC hX hL hP hD hS hwf hf hE
  obtain ⟨hx, hb, hr, hml, hown, hts, hlocks, hex, hA, hR, hin, hV, hlt⟩ := id hC
  obtain ⟨L, e1, e2, e3, e4, e5⟩ := hX h1
  rw [e1, pm_ofNat e2] at h2
  exact va_sld hx hb e3 e4 e5 hS h2 hd ih
theorem so_slen (l : Launch) (D : va_G) (G : pm_G) : pm_r_slen (pm_sound l D G) := by
  intro d k pc ls st cu su σ out hd h1 ih p e R s m args below meth c H locs A ad real Qc XC free hC hX hL hP hD hS hwf hf hE
  have ih := ih p e R s m args below meth c H locs A ad real Qc XC free hC hX hL hP hD hS hwf hf hE
  obtain ⟨hx, hb, hr, hml, hown, hts, hlocks, hex, hA, hR, hin, hV, hlt⟩ := id hC
  obtain ⟨L, e1, e2, e3, e4, e5⟩ := hX h1
  rw [e1] at ih
  exact va_slen hx hb e3 e4 e5 hS hd ih
theorem so_new (l : Launch) (D : va_G) (G : pm_G) : pm_r_new (pm_sound l D G) := by
  intro d k pc ls st cu su σ out ci C T N ty idx hd h1 h2 h3 h4 h5 h6 h7 h8 h9 h10 h11 ih p e R s m args below meth c H locs A ad real Qc XC free hC hX hL hP hD hS hwf hf hE
  obtain ⟨hx, hb, hr, hml, hown, hts, hlocks, hex, hA, hR, hin, hV, hlt⟩ := id hC
  refine va_new (fs := pm_fs ad σ σ.1 ci) hx hb hts h2.2.1 ty h2.2.2.1 hown (hts _ h3) (hts _ h4) (hts _ h5) hV.1 hP hD hS hA h2.1 (pm_dflt h2 h9 h10) (Nat.le_trans h6 hR.2.2.1) (Nat.le_trans h7 hR.2.2.2) hd (fun q H1 hP1 hD1 hS1 => ?_)
  have hag : pm_agree ad (pm_ext ad σ.1 q) σ.1 := pm_ext_agree
  rw [pm_push0 hwf h1 h10] at hP1 hD1
  have ih := ih p e R s m args below meth c H1 locs A (pm_ext ad σ.1 q) real Qc XC free hC (pm_X_new h8 hX) (pm_loc_ad hag h11 hL) hP1 hD1 hS1 (pm_wf_new hwf h8) hf (pm_end_new hag hE)
  rw [show (Value.ref σ.1 :: st).map (pv (pm_ext ad σ.1 q)) = Value.ref q :: st.map (pv ad) from pm_st_ext h11] at ih
  exact ih
theorem so_newI (l : Launch) (D : va_G) (G : pm_G) : pm_r_newI (pm_sound l D G) := by
  intro d k pc ls st cu su σ out n x hd h1 h2 h3 h4 h5 h6 h7 h8 h9 h10 ih p e R s m args below meth c H locs A ad real Qc XC free hC hX hL hP hD hS hwf hf hE
  obtain ⟨hx, hb, hr, hml, hown, hts, hlocks, hex, hA, hR, hin, hV, hlt⟩ := id hC
  refine va_newa (atype := .int) (a0 := (n, .inl (fun _ => 0))) hx hb (hts _ h5) (ty := .int) rfl hV.1 hP hD hS hA (pm_zeroI n) h2 h3 (pm_bytesI h4) (Nat.le_trans h6 hR.2.2.1) (Nat.le_trans h7 hR.2.2.2) hd (fun q cA H1 hK1 hP1 hD1 hS1 => ?_)
  have hag : pm_agree ad (pm_ext ad σ.1 q) σ.1 := pm_ext_agree
  have hcA : cA = pm_gI G := pm_sameA hV.1 hK1 0 rfl
  subst hcA
  rw [pm_push1 hwf h1 h9] at hP1 hD1
  have ih := ih p e R s m args below meth c H1 locs A (pm_ext ad σ.1 q) real Qc XC free hC (pm_X_new h8 hX) (pm_loc_ad hag h10 hL) hP1 hD1 hS1 (pm_wf_new hwf h8) hf (pm_end_new hag hE)
  rw [show (Value.ref σ.1 :: st).map (pv (pm_ext ad σ.1 q)) = Value.ref q :: st.map (pv ad) from pm_st_ext h10] at ih
  exact ih
theorem so_newJ (l : Launch) (D : va_G) (G : pm_G) : pm_r_newJ (pm_sound l D G) := by
  intro d k pc ls st cu su σ out n x hd h1 h2 h3 h4 h5 h6 h7 h8 h9 h10 ih p e R s m args below meth c H locs A ad real Qc XC free hC hX hL hP hD hS hwf hf hE
  obtain ⟨hx, hb, hr, hml, hown, hts, hlocks, hex, hA, hR, hin, hV, hlt⟩ := id hC
  refine va_newa (atype := .long) (a0 := (n, .inr (.inl (fun _ => 0)))) hx hb (hts _ h5) (ty := .long) rfl hV.1 hP hD hS hA (pm_zeroJ n) h2 h3 (pm_bytesJ h4) (Nat.le_trans h6 hR.2.2.1) (Nat.le_trans h7 hR.2.2.2) hd (fun q cA H1 hK1 hP1 hD1 hS1 => ?_)
  have hag : pm_agree ad (pm_ext ad σ.1 q) σ.1 := pm_ext_agree
  have hcA : cA = pm_gJ G := pm_sameA hV.1 hK1 1 rfl
  subst hcA
  rw [pm_push2 hwf h1 h9] at hP1 hD1
  have ih := ih p e R s m args below meth c H1 locs A (pm_ext ad σ.1 q) real Qc XC free hC (pm_X_new h8 hX) (pm_loc_ad hag h10 hL) hP1 hD1 hS1 (pm_wf_new hwf h8) hf (pm_end_new hag hE)
  rw [show (Value.ref σ.1 :: st).map (pv (pm_ext ad σ.1 q)) = Value.ref q :: st.map (pv ad) from pm_st_ext h10] at ih
  exact ih
theorem so_mnaI (l : Launch) (D : va_G) (G : pm_G) : pm_r_mnaI (pm_sound l D G) := by
  intro d k pc ls st cu su σ out idx n kk x y hd h1 h2 h3 h4 h5 h6 h7 h8 h9 h10 h11 h12 h13 h14 ih p e R s m args below meth c H locs A ad real Qc XC free hC hX hL hP hD hS hwf hf hE
  obtain ⟨hx, hb, hr, hml, hown, hts, hlocks, hex, hA, hR, hin, hV, hlt⟩ := id hC
  refine va_mna (X := pm_ws G ad σ) (L := []) (f := fun _ => .inr (0, [])) (z := (kk, .inl (fun _ => 0))) hx hb hown (hts _ h9) hV.2.2.2.2.2.1 (hts _ h8) (cy := pm_gI G) (pm_nameI hV.1) hV.1 (by simpa [va_pl] using hP) (by simpa [va_pl] using hD) hS hA h3 h4 h5 h6 (by omega) (pm_bytesI h7.2) (by omega) rfl rfl (Nat.le_trans (by omega) hR.2.2.1) (Nat.le_trans (by omega) hR.2.2.2) (pm_innerI kk) hd (fun q r cA H1 hi hn hK1 hP1 hD1 hS1 => ?_)
  have hag : pm_agree ad (pm_extR ad σ.1 q r) σ.1 := pm_extR_agree
  have hcA : cA = pm_gII G := pm_sameA hV.1 hK1 2 rfl
  subst hcA
  rw [pm_plrows, pm_push3 hwf h12 h1 h2 h13] at hP1 hD1
  have ih := ih p e R s m args below meth c H1 locs A (pm_extR ad σ.1 q r) real Qc XC free hC (pm_X_mna h12 hX) (pm_loc_ad hag h14 hL) hP1 hD1 hS1 (pm_wf_mna hwf h12) hf (pm_end_mna hag hE)
  rw [show (Value.ref σ.1 :: st).map (pv (pm_extR ad σ.1 q r)) = Value.ref q :: st.map (pv ad) from pm_st_extR h14] at ih
  exact ih
theorem so_mnaJ (l : Launch) (D : va_G) (G : pm_G) : pm_r_mnaJ (pm_sound l D G) := by
  intro d k pc ls st cu su σ out idx n kk x y hd h1 h2 h3 h4 h5 h6 h7 h8 h9 h10 h11 h12 h13 h14 ih p e R s m args below meth c H locs A ad real Qc XC free hC hX hL hP hD hS hwf hf hE
  obtain ⟨hx, hb, hr, hml, hown, hts, hlocks, hex, hA, hR, hin, hV, hlt⟩ := id hC
  refine va_mna (X := pm_ws G ad σ) (L := []) (f := fun _ => .inr (0, [])) (z := (kk, .inr (.inl (fun _ => 0)))) hx hb hown (hts _ h9) hV.2.2.2.2.2.2.1 (hts _ h8) (cy := pm_gJ G) (pm_nameJ hV.1) hV.1 (by simpa [va_pl] using hP) (by simpa [va_pl] using hD) hS hA h3 h4 h5 h6 (by omega) (pm_bytesJ h7.2) (by omega) rfl rfl (Nat.le_trans (by omega) hR.2.2.1) (Nat.le_trans (by omega) hR.2.2.2) (pm_innerJ kk) hd (fun q r cA H1 hi hn hK1 hP1 hD1 hS1 => ?_)
  have hag : pm_agree ad (pm_extR ad σ.1 q r) σ.1 := pm_extR_agree
  have hcA : cA = pm_gJJ G := pm_sameA hV.1 hK1 3 rfl
  subst hcA
  rw [pm_plrows, pm_push4 hwf h12 h1 h2 h13] at hP1 hD1
  have ih := ih p e R s m args below meth c H1 locs A (pm_extR ad σ.1 q r) real Qc XC free hC (pm_X_mna h12 hX) (pm_loc_ad hag h14 hL) hP1 hD1 hS1 (pm_wf_mna hwf h12) hf (pm_end_mna hag hE)
  rw [show (Value.ref σ.1 :: st).map (pv (pm_extR ad σ.1 q r)) = Value.ref q :: st.map (pv ad) from pm_st_extR h14] at ih
  exact ih
theorem so_objInit (l : Launch) (D : va_G) (G : pm_G) : pm_r_objInit (pm_sound l D G) := by
  intro d k pc ls st cu su σ out b idx hd h1 h2 h3 h4 h5 ih p e R s m args below meth c H locs A ad real Qc XC free hC hX hL hP hD hS hwf hf hE
  have ih := ih p e R s m args below meth c H locs A ad real Qc XC free hC hX hL hP hD hS hwf hf hE
  obtain ⟨hx, hb, hr, hml, hown, hts, hlocks, hex, hA, hR, hin, hV, hlt⟩ := id hC
  exact W.objInit hx hb hown (hts _ h1) (hts _ h2) (hts _ h3) rfl (hL.2.1.trans hml.symm) rfl hd (by omega) (by show 2 * 0 + _ + 12 ≤ _; rw [pm_cats]; omega) ih
theorem so_mmin (l : Launch) (D : va_G) (G : pm_G) : pm_r_mmin (pm_sound l D G) := by
  intro d k pc ls st cu su σ out x y idx hd h1 h2 h3 h4 h5 h6 h7 h8 ih p e R s m args below meth c H locs A ad real Qc XC free hC hX hL hP hD hS hwf hf hE
  have ih := ih p e R s m args below meth c H locs A ad real Qc XC free hC hX hL hP hD hS hwf hf hE
  obtain ⟨hx, hb, hr, hml, hown, hts, hlocks, hex, hA, hR, hin, hV, hlt⟩ := id hC
  exact va_mmin hx hb (hml.trans hL.2.1.symm) hown (hts _ h1) (hts _ h2) (hts _ h3) (hts _ h4) (by omega) (by rw [pm_cats]; omega) (Nat.le_trans h7 hR.2.2.1) (Nat.le_trans h8 hR.2.2.2) hd ih
theorem so_mmax (l : Launch) (D : va_G) (G : pm_G) : pm_r_mmax (pm_sound l D G) := by
  intro d k pc ls st cu su σ out x y idx hd h1 h2 h3 h4 h5 h6 h7 h8 ih p e R s m args below meth c H locs A ad real Qc XC free hC hX hL hP hD hS hwf hf hE
  have ih := ih p e R s m args below meth c H locs A ad real Qc XC free hC hX hL hP hD hS hwf hf hE
  obtain ⟨hx, hb, hr, hml, hown, hts, hlocks, hex, hA, hR, hin, hV, hlt⟩ := id hC
  exact va_mmax hx hb (hml.trans hL.2.1.symm) hown (hts _ h1) (hts _ h2) (hts _ h3) (hts _ h4) (by omega) (by rw [pm_cats]; omega) (Nat.le_trans h7 hR.2.2.1) (Nat.le_trans h8 hR.2.2.2) hd ih
theorem so_copyi (l : Launch) (D : va_G) (G : pm_G) : pm_r_copyi (pm_sound l D G) := by
  intro d k pc ls st cu su σ out b0 b1 n0 n1 sp dp n idx hd h1 h2 h3 h4 h5 h6 h7 h8 h9 h10 h11 h12 h13 h14 h15 ih p e R s m args below meth c H locs A ad real Qc XC free hC hX hL hP hD hS hwf hf hE
  obtain ⟨hx, hb, hr, hml, hown, hts, hlocks, hex, hA, hR, hin, hV, hlt⟩ := id hC
  have hnw : nativeFrameWords "java/lang/System" "arraycopy" 5 ≤ 30 := by decide
  refine va_copyi hx hb (hml.trans hL.2.1.symm) hown (hts _ h1) (hts _ h2) (hts _ h3) (hts _ h4) hV.1 hP hD hS b0 b1 0 0 (pm_ws1 h5 h7) (pm_ws1 h6 h8) (ty := .int) rfl rfl rfl h9 h10 h11 h12 h13 (fun _ _ => rfl) (by omega) (by rw [pm_cats]; omega) hd (fun H1 locs1 hP1 hD1 hS1 => ?_)
  rw [pm_set1A h6 h8] at hP1 hD1
  exact ih p e R s m args below meth c H1 locs1 A ad real Qc XC free hC (pm_X_sA hwf h6 hX) hL hP1 hD1 hS1 (pm_wf_sA hwf) hf (pm_end_sA hwf h6 hE)
theorem so_ireturn (l : Launch) (D : va_G) (G : pm_G) : pm_r_ireturn (pm_sound l D G) := by
  intro d k pc ls st cu su σ out v hd h1 h2 h3 h4 p e R s m args below meth c H locs A ad real Qc XC free hC hX hL hP hD hS hwf hf hE
  obtain ⟨hx, hb, hr, hml, hown, hts, hlocks, hex, hA, hR, hin, hV, hlt⟩ := id hC
  subst h4
  exact W.widen h2 h3 ((W.iret hx hb (hr.trans h1) (fun t ht hW => hE ad t (pm_post_rf hP hD hS hwf ht) hW.alike) (fun q hq => hf _ (hS.2.2 q hq)) hd hlocks))
theorem so_lreturn (l : Launch) (D : va_G) (G : pm_G) : pm_r_lreturn (pm_sound l D G) := by
  intro d k pc ls st cu su σ out v hd h1 h2 h3 h4 p e R s m args below meth c H locs A ad real Qc XC free hC hX hL hP hD hS hwf hf hE
  obtain ⟨hx, hb, hr, hml, hown, hts, hlocks, hex, hA, hR, hin, hV, hlt⟩ := id hC
  subst h4
  exact W.widen h2 h3 ((W.lret hx hb (hr.trans h1) (fun t ht hW => hE ad t (pm_post_rf hP hD hS hwf ht) hW.alike) (fun q hq => hf _ (hS.2.2 q hq)) hd hlocks))
theorem so_zreturn (l : Launch) (D : va_G) (G : pm_G) : pm_r_zreturn (pm_sound l D G) := by
  intro d k pc ls st cu su σ out v hd h1 h2 h3 h4 h5 p e R s m args below meth c H locs A ad real Qc XC free hC hX hL hP hD hS hwf hf hE
  obtain ⟨hx, hb, hr, hml, hown, hts, hlocks, hex, hA, hR, hin, hV, hlt⟩ := id hC
  subst h4
  exact W.widen h2 h3 ((W.zret hx hb (hr.trans h1) (pm_nar (Or.inr ⟨rfl, h5⟩)) (fun t ht hW => hE ad t (pm_post_rf hP hD hS hwf ht) hW.alike) (fun q hq => hf _ (hS.2.2 q hq)) hd hlocks))
theorem so_vreturn (l : Launch) (D : va_G) (G : pm_G) : pm_r_vreturn (pm_sound l D G) := by
  intro d k pc ls st cu su σ out hd h1 h2 h3 h4 p e R s m args below meth c H locs A ad real Qc XC free hC hX hL hP hD hS hwf hf hE
  obtain ⟨hx, hb, hr, hml, hown, hts, hlocks, hex, hA, hR, hin, hV, hlt⟩ := id hC
  subst h4
  exact W.widen h2 h3 ((W.vret hx hb (hr.trans h1) (fun t ht hW => hE ad t (pm_post_rf hP hD hS hwf ht) hW.alike) (fun q hq => hf _ (hS.2.2 q hq)) hd hlocks))
theorem so_callV (l : Launch) (D : va_G) (G : pm_G) : pm_r_callV (pm_sound l D G) := by
  intro d k pc ls st cu su σ out k2 idx ci b C T N ty As r σ2 hd h1 h2 h3 h4 h5 h6 h7 h8 h9 h10 h11 h12 h13 h14 ih ih2 p e R s m args below meth c H locs A ad real Qc XC free hC hX hL hP hD hS hwf hf hE
  obtain ⟨hx, hb, hr, hml, hown, hts, hlocks, hex, hA, hR, hin, hV, hlt⟩ := id hC
  have hA1 : ∀ q, va_A (pm_ws G ad σ) H.size q → A q := pm_A1 hD hS hA
  have hM := pm_met (ad := ad) H.size h1 hlt (As := .ref b :: As) (by simpa using h10) (by simpa [pm_cat1, Value.category] using h8) hwf ih
  have hrun := va_runV (As := As.map (pv ad)) (rest := st.map (pv ad)) (g := F0 m pc real ((As.reverse ++ .ref b :: st).map (pv ad))) (cells := cu) (slots := su) (locs := locs) (e := e) (below := below) (meth := meth) ⟨hx, hb, hml, hown, hts⟩ hM
    (pm_cwV (R := R) hts hR h1 h6 h7 h5) ⟨pm_blind, va_recv hV.1 hP h4.1 (pm_ws0 h2 h3), fun U hU hW => pm_prep hP hD hS hV hA1 hU hW⟩ rfl (by simp) (hL.2.1) (by simp [pv]) (lv_room (by rw [pm_cats]; exact h9)) hd ⟨Nat.le_trans h11 hR.2.2.1, Nat.le_trans h12 hR.2.2.2⟩
  refine pm_retW hrun hS hA1 h14 (fun ad' H1 locs1 hag hup hle hhi hP1 hD1 hS1 hwf1 => ?_)
  have i2 := ih2 p e R s m args below meth c H1 locs1 A ad' real Qc XC free hC (pm_X_call hwf1 hup hhi hX) (pm_loc_ad hag h13 hL) hP1 hD1 hS1 hwf1 hf (pm_end_call hag hle hhi hE)
  rw [List.map_append, pm_mapst hag h13, pm_tl] at i2
  exact i2
theorem so_callS (l : Launch) (D : va_G) (G : pm_G) : pm_r_callS (pm_sound l D G) := by
  intro d k pc ls st cu su σ out k2 idx As r σ2 hd h1 h2 h3 h4 h5 h6 h7 h8 h9 h10 ih ih2 p e R s m args below meth c H locs A ad real Qc XC free hC hX hL hP hD hS hwf hf hE
  obtain ⟨hx, hb, hr, hml, hown, hts, hlocks, hex, hA, hR, hin, hV, hlt⟩ := id hC
  have hA1 : ∀ q, va_A (pm_ws G ad σ) H.size q → A q := pm_A1 hD hS hA
  have hM := pm_met (ad := ad) H.size h1 hlt (As := As) h6 h4 hwf ih
  have hrun := va_runS (As := As.map (pv ad)) (rest := st.map (pv ad)) (g := F0 m pc real ((As.reverse ++ st).map (pv ad))) (cells := cu) (slots := su) (locs := locs) (e := e) (below := below) (meth := meth) ⟨hx, hb, hml, hown, hts⟩ hM
    (pm_cwS (R := R) hts hR h1 h2 h3) ⟨pm_blind, fun U hU hW => pm_prep hP hD hS hV hA1 hU hW⟩ rfl (by simp) (hL.2.1) (by simp) (lv_room (by rw [pm_cats]; exact h5)) hd ⟨Nat.le_trans h7 hR.2.2.1, Nat.le_trans h8 hR.2.2.2⟩
  refine pm_retW hrun hS hA1 h10 (fun ad' H1 locs1 hag hup hle hhi hP1 hD1 hS1 hwf1 => ?_)
  have i2 := ih2 p e R s m args below meth c H1 locs1 A ad' real Qc XC free hC (pm_X_call hwf1 hup hhi hX) (pm_loc_ad hag h9 hL) hP1 hD1 hS1 hwf1 hf (pm_end_call hag hle hhi hE)
  rw [List.map_append, pm_mapst hag h9, pm_tl] at i2
  exact i2
theorem so_callI (l : Launch) (D : va_G) (G : pm_G) : pm_r_callI (pm_sound l D G) := by
  intro d k pc ls st cu su σ out k2 idx b As r σ2 hd h1 h2 h3 h4 h5 h6 h7 h8 h9 h10 h11 ih ih2 p e R s m args below meth c H locs A ad real Qc XC free hC hX hL hP hD hS hwf hf hE
  obtain ⟨hx, hb, hr, hml, hown, hts, hlocks, hex, hA, hR, hin, hV, hlt⟩ := id hC
  have hA1 : ∀ q, va_A (pm_ws G ad σ) H.size q → A q := pm_A1 hD hS hA
  have hM := pm_met (ad := ad) H.size h1 hlt (As := .ref b :: As) (by simpa using h6) (by simpa [pm_cat1, Value.category] using h4) hwf ih
  have hrun := va_runI (As := As.map (pv ad)) (rest := st.map (pv ad)) (g := F0 m pc real ((As.reverse ++ .ref b :: st).map (pv ad))) (cells := cu) (slots := su) (locs := locs) (e := e) (below := below) (meth := meth) ⟨hx, hb, hml, hown, hts⟩ hM
    (pm_cwI (R := R) hts hR h1 h2 h3 h10) ⟨pm_blind, fun U hU hW => pm_prep hP hD hS hV hA1 hU hW⟩ rfl (by simp) (hL.2.1) (by simp [pv]) (lv_room (by rw [pm_cats]; exact h5)) hd ⟨Nat.le_trans h7 hR.2.2.1, Nat.le_trans h8 hR.2.2.2⟩
  refine pm_retW hrun hS hA1 h11 (fun ad' H1 locs1 hag hup hle hhi hP1 hD1 hS1 hwf1 => ?_)
  have i2 := ih2 p e R s m args below meth c H1 locs1 A ad' real Qc XC free hC (pm_X_call hwf1 hup hhi hX) (pm_loc_ad hag h9 hL) hP1 hD1 hS1 hwf1 hf (pm_end_call hag hle hhi hE)
  rw [List.map_append, pm_mapst hag h9, pm_tl] at i2
  exact i2
theorem so_callW (l : Launch) (D : va_G) (G : pm_G) : pm_r_callW (pm_sound l D G) := by
  intro d k pc ls st cu su σ out k2 idx As r σ2 hd h1 h2 h3 h4 h5 h6 h7 h8 h9 h10 ih ih2 p e R s m args below meth c H locs A ad real Qc XC free hC hX hL hP hD hS hwf hf hE
  obtain ⟨hx, hb, hr, hml, hown, hts, hlocks, hex, hA, hR, hin, hV, hlt⟩ := id hC
  have hA1 : ∀ q, va_A (pm_ws G ad σ) H.size q → A q := pm_A1 hD hS hA
  have hM := pm_metW (ad := ad) H.size h1 hlt (As := As) h6 h4 hwf ih
  have hrun := pm_runSW (As := As.map (pv ad)) (rest := st.map (pv ad)) (g := F0 m pc real ((As.reverse ++ st).map (pv ad))) (cells := cu) (slots := su) (locs := locs) (e := e) (below := below) (meth := meth) ⟨hx, hb, hml, hown, hts⟩ hM
    (pm_cwW (R := R) hts hR h1 h2 h3) ⟨pm_blind, fun U hU hW => pm_prep hP hD hS hV hA1 hU hW⟩ rfl (by simp) (hL.2.1) (by simp) (lv_room (by rw [pm_cats]; exact h5)) hd ⟨Nat.le_trans h7 hR.2.2.1, Nat.le_trans h8 hR.2.2.2⟩
  refine pm_retW hrun hS hA1 h10 (fun ad' H1 locs1 hag hup hle hhi hP1 hD1 hS1 hwf1 => ?_)
  have i2 := ih2 p e R s m args below meth c H1 locs1 A ad' real Qc XC free hC (pm_X_call hwf1 hup hhi hX) (pm_loc_ad hag h9 hL) hP1 hD1 hS1 hwf1 hf (pm_end_call hag hle hhi hE)
  rw [List.map_append, pm_mapst hag h9, pm_tl] at i2
  exact i2
theorem so_callN (l : Launch) (D : va_G) (G : pm_G) : pm_r_callN (pm_sound l D G) := by
  intro d k pc ls st cu su σ out k2 idx b As r σ2 hd h1 h2 h3 h4 h5 h6 h7 h8 h9 h10 h11 ih ih2 p e R s m args below meth c H locs A ad real Qc XC free hC hX hL hP hD hS hwf hf hE
  obtain ⟨hx, hb, hr, hml, hown, hts, hlocks, hex, hA, hR, hin, hV, hlt⟩ := id hC
  have hA1 : ∀ q, va_A (pm_ws G ad σ) H.size q → A q := pm_A1 hD hS hA
  have hM := pm_met (ad := ad) H.size h1 hlt (As := .ref b :: As) (by simpa using h6) (by simpa [pm_cat1, Value.category] using h4) hwf ih
  have hrun := va_runIN (As := As.map (pv ad)) (rest := st.map (pv ad)) (g := F0 m pc real ((As.reverse ++ .ref b :: st).map (pv ad))) (cells := cu) (slots := su) (locs := locs) (e := e) (below := below) (meth := meth) ⟨hx, hb, hml, hown, hts⟩ hM
    (pm_cwN (R := R) hts hR h1 h2 h3 h10 hV.2.2.2.2.2.2.2) ⟨pm_blind, fun U hU hW => pm_prep hP hD hS hV hA1 hU hW⟩ rfl (by simp) (hL.2.1) (by simp [pv]) (lv_room (by rw [pm_cats]; exact h5)) hd ⟨Nat.le_trans h7 hR.2.2.1, Nat.le_trans h8 hR.2.2.2⟩
  refine pm_retW hrun hS hA1 h11 (fun ad' H1 locs1 hag hup hle hhi hP1 hD1 hS1 hwf1 => ?_)
  have i2 := ih2 p e R s m args below meth c H1 locs1 A ad' real Qc XC free hC (pm_X_call hwf1 hup hhi hX) (pm_loc_ad hag h9 hL) hP1 hD1 hS1 hwf1 hf (pm_end_call hag hle hhi hE)
  rw [List.map_append, pm_mapst hag h9, pm_tl] at i2
  exact i2
theorem so_callVx (l : Launch) (D : va_G) (G : pm_G) : pm_r_callVx (pm_sound l D G) := by
  intro d k pc ls st cu su σ out k2 idx ci b C T N ty As E σ2 hd h1 h2 h3 h4 h5 h6 h7 h8 h9 h10 h11 h12 h13 h14 h15 ih p e R s m args below meth c H locs A ad real Qc XC free hC hX hL hP hD hS hwf hf hE
  obtain ⟨hx, hb, hr, hml, hown, hts, hlocks, hex, hA, hR, hin, hV, hlt⟩ := id hC
  have hA1 : ∀ q, va_A (pm_ws G ad σ) H.size q → A q := pm_A1 hD hS hA
  have hM := pm_metX (ad := ad) H.size h1 hlt (As := .ref b :: As) (by simpa using h10) (by simpa [pm_cat1, Value.category] using h8) hwf ih
  have hrun := pm_runVX (As := As.map (pv ad)) (rest := st.map (pv ad)) (g := F0 m pc real ((As.reverse ++ .ref b :: st).map (pv ad))) (cells := cu) (slots := su) (locs := locs) (e := e) (below := below) (meth := meth) ⟨hx, hb, hml, hown, hts⟩ hM
    (pm_cwV (R := R) hts hR h1 h6 h7 h5) ⟨pm_blind, va_recv hV.1 hP h4.1 (pm_ws0 h2 h3), fun U hU hW => pm_prep hP hD hS hV hA1 hU hW⟩ pm_XR_Q rfl (by simp) (hL.2.1) (by simp [pv]) (lv_room (by rw [pm_cats]; exact h9)) hd ⟨Nat.le_trans h11 hR.2.2.1, Nat.le_trans h12 hR.2.2.2⟩
  subst h15
  refine pm_outW hrun hS hA1 (fun ad' H1 locs1 q ce hag hup hle hhi hP1 hD1 hS1 hwf1 hce hcv hcl => ?_)
  refine pm_leave (by rw [hex, h14]; intro x hx; cases hx) hlocks hce hcv hcl (fun t ht hW => ?_) (fun z hz => hf _ (hS1.2.2 z hz)) h11 h12
  exact hE ad' t ⟨hle, hag, by rw [ht]; exact hP1, hD1, hS1.F ht, hwf1, hhi⟩ hW
theorem so_callSx (l : Launch) (D : va_G) (G : pm_G) : pm_r_callSx (pm_sound l D G) := by
  intro d k pc ls st cu su σ out k2 idx As E σ2 hd h1 h2 h3 h4 h5 h6 h7 h8 h9 h10 h11 ih p e R s m args below meth c H locs A ad real Qc XC free hC hX hL hP hD hS hwf hf hE
  obtain ⟨hx, hb, hr, hml, hown, hts, hlocks, hex, hA, hR, hin, hV, hlt⟩ := id hC
  have hA1 : ∀ q, va_A (pm_ws G ad σ) H.size q → A q := pm_A1 hD hS hA
  have hM := pm_metX (ad := ad) H.size h1 hlt (As := As) h6 h4 hwf ih
  have hrun := pm_runSX (As := As.map (pv ad)) (rest := st.map (pv ad)) (g := F0 m pc real ((As.reverse ++ st).map (pv ad))) (cells := cu) (slots := su) (locs := locs) (e := e) (below := below) (meth := meth) ⟨hx, hb, hml, hown, hts⟩ hM
    (pm_cwS (R := R) hts hR h1 h2 h3) ⟨pm_blind, fun U hU hW => pm_prep hP hD hS hV hA1 hU hW⟩ pm_XR_Q rfl (by simp) (hL.2.1) (by simp) (lv_room (by rw [pm_cats]; exact h5)) hd ⟨Nat.le_trans h7 hR.2.2.1, Nat.le_trans h8 hR.2.2.2⟩
  subst h11
  refine pm_outW hrun hS hA1 (fun ad' H1 locs1 q ce hag hup hle hhi hP1 hD1 hS1 hwf1 hce hcv hcl => ?_)
  refine pm_leave (by rw [hex, h10]; intro x hx; cases hx) hlocks hce hcv hcl (fun t ht hW => ?_) (fun z hz => hf _ (hS1.2.2 z hz)) h7 h8
  exact hE ad' t ⟨hle, hag, by rw [ht]; exact hP1, hD1, hS1.F ht, hwf1, hhi⟩ hW
theorem so_callVc_n (l : Launch) (D : va_G) (G : pm_G) : pm_r_callVc_n (pm_sound l D G) := by
  intro d k pc ls st cu su σ out k2 idx ci b C T N ty As E σ2 hpc i hd h1 h2 h3 h4 h5 h6 h7 h8 h9 h10 h11 h12 h13 h14 h15 h16 h17 ih ih2 p e R s m args below meth c H locs A ad real Qc XC free hC hX hL hP hD hS hwf hf hE
  obtain ⟨hx, hb, hr, hml, hown, hts, hlocks, hex, hA, hR, hin, hV, hlt⟩ := id hC
  have hA1 : ∀ q, va_A (pm_ws G ad σ) H.size q → A q := pm_A1 hD hS hA
  have hM := pm_metX (ad := ad) H.size h1 hlt (As := .ref b :: As) (by simpa using h10) (by simpa [pm_cat1, Value.category] using h8) hwf ih
  have hrun := pm_runVX (As := As.map (pv ad)) (rest := st.map (pv ad)) (g := F0 m pc real ((As.reverse ++ .ref b :: st).map (pv ad))) (cells := cu) (slots := su) (locs := locs) (e := e) (below := below) (meth := meth) ⟨hx, hb, hml, hown, hts⟩ hM
    (pm_cwV (R := R) hts hR h1 h6 h7 h5) ⟨pm_blind, va_recv hV.1 hP h4.1 (pm_ws0 h2 h3), fun U hU hW => pm_prep hP hD hS hV hA1 hU hW⟩ pm_XR_Q rfl (by simp) (hL.2.1) (by simp [pv]) (lv_room (by rw [pm_cats]; exact h9)) hd ⟨Nat.le_trans h11 hR.2.2.1, Nat.le_trans h12 hR.2.2.2⟩
  refine pm_outW hrun hS hA1 (fun ad' H1 locs1 q ce hag hup hle hhi hP1 hD1 hS1 hwf1 hce hcv hcl => ?_)
  obtain ⟨pre, x, suf, z1, z2, z3, z4, z5, nm, z6, z7⟩ := h14
  refine pm_catch hown pre x suf (hex.trans z1) (fun z hz => (z2 z hz).imp_right (fun ⟨g1, n1, g2, g3⟩ => ⟨g1, n1, hts _ g2, hV.2.2.2.2.1 _ g3⟩)) z3 z4 (hts _ z6) (hts _ z7) hce hcv hcl ?_
  rw [z5]
  refine lv_astore_n hx hb h15 rfl hL.2 (by rw [← hL.1]; exact h16) rfl (fun real' hq => ?_)
  exact ih2 p e R s m args below meth c H1 locs1 A ad' real' Qc XC free hC (pm_X_call hwf1 hup hhi hX) (pm_kill (pm_loc_ad hag h13 hL) h17 (by rw [pm_lv_ad hag h13]; exact hq)) hP1 hD1 hS1 hwf1 hf (pm_end_call hag hle hhi hE)
theorem so_callVc (l : Launch) (D : va_G) (G : pm_G) : pm_r_callVc (pm_sound l D G) := by
  intro d k pc ls st cu su σ out k2 idx ci b C T N ty As E σ2 hpc i hd h1 h2 h3 h4 h5 h6 h7 h8 h9 h10 h11 h12 h13 h14 h15 h16 h17 ih ih2 p e R s m args below meth c H locs A ad real Qc XC free hC hX hL hP hD hS hwf hf hE
  obtain ⟨hx, hb, hr, hml, hown, hts, hlocks, hex, hA, hR, hin, hV, hlt⟩ := id hC
  have hA1 : ∀ q, va_A (pm_ws G ad σ) H.size q → A q := pm_A1 hD hS hA
  have hM := pm_metX (ad := ad) H.size h1 hlt (As := .ref b :: As) (by simpa using h10) (by simpa [pm_cat1, Value.category] using h8) hwf ih
  have hrun := pm_runVX (As := As.map (pv ad)) (rest := st.map (pv ad)) (g := F0 m pc real ((As.reverse ++ .ref b :: st).map (pv ad))) (cells := cu) (slots := su) (locs := locs) (e := e) (below := below) (meth := meth) ⟨hx, hb, hml, hown, hts⟩ hM
    (pm_cwV (R := R) hts hR h1 h6 h7 h5) ⟨pm_blind, va_recv hV.1 hP h4.1 (pm_ws0 h2 h3), fun U hU hW => pm_prep hP hD hS hV hA1 hU hW⟩ pm_XR_Q rfl (by simp) (hL.2.1) (by simp [pv]) (lv_room (by rw [pm_cats]; exact h9)) hd ⟨Nat.le_trans h11 hR.2.2.1, Nat.le_trans h12 hR.2.2.2⟩
  refine pm_outW hrun hS hA1 (fun ad' H1 locs1 q ce hag hup hle hhi hP1 hD1 hS1 hwf1 hce hcv hcl => ?_)
  obtain ⟨pre, x, suf, z1, z2, z3, z4, z5, nm, z6, z7⟩ := h14
  refine pm_catch hown pre x suf (hex.trans z1) (fun z hz => (z2 z hz).imp_right (fun ⟨g1, n1, g2, g3⟩ => ⟨g1, n1, hts _ g2, hV.2.2.2.2.1 _ g3⟩)) z3 z4 (hts _ z6) (hts _ z7) hce hcv hcl ?_
  rw [z5]
  refine lv_astore hx hb h15 hL.2 (by rw [← hL.1]; exact h16) rfl (fun real' hq => ?_)
  exact ih2 p e R s m args below meth c H1 locs1 A ad' real' Qc XC free hC (pm_X_call hwf1 hup hhi hX) (pm_kill (pm_loc_ad hag h13 hL) h17 (by rw [pm_lv_ad hag h13]; exact hq)) hP1 hD1 hS1 hwf1 hf (pm_end_call hag hle hhi hE)
theorem so_throwS (l : Launch) (D : va_G) (G : pm_G) : pm_r_throwS (pm_sound l D G) := by
  intro d k pc ls st cu su σ out E text nms ik is ic hd h1 h2 h3 h4 h5 h6 h7 h8 h9 h10 h11 p e R s m args below meth c H locs A ad real Qc XC free hC hX hL hP hD hS hwf hf hE
  obtain ⟨hx, hb, hr, hml, hown, hts, hlocks, hex, hA, hR, hin, hV, hlt⟩ := id hC
  subst h11
  intro T hT X
  have hW1 : s.WarmedH ((T.setVm s.vm).setFrames (.invoking m args :: below)).vm := State.WarmedH.refl s
  have hV1 := pm_env_at (A1 := A) (U := (T.setVm s.vm).setFrames (.invoking m args :: below)) hV hS (fun _ z => z) hT hW1
  obtain ⟨sa, hsa⟩ := hV.2.2.2.1 _ h5.2.2.2.2.2.1
  obtain ⟨t, ce, a1, b1, b2, b3, b4, b5, b6, b7, b8, b9⟩ := pm_threw (k := k) (sa := sa) (pc := pc) (real := real) (rest := st.map (pv ad)) X hx hb hlt hown hts h5 (pm_spec_at hV1) hsa (hL.2.1.trans hml.symm) (by rw [hex, h6]; intro x hx; cases hx) hlocks hd h1 h2 h3 h4 (Nat.lt_of_lt_of_le h7 hR.1) (by rw [pm_cats]; omega) (Nat.le_trans h9 hR.2.2.1) (Nat.le_trans h10 hR.2.2.2)
  rw [hT] at b8 b9
  exact ⟨t, a1, _, ce, locs, b1, b2, hE ad t (pm_post_thrown hP hD hS hwf b8 b9) b6.alike, b3, b4, b5, b6, b7.mono h9 h10, fun z hz => hf _ (hS.2.2 z hz)⟩
end
section
theorem so_all (l : Launch) (D : va_G) (G : pm_G) : pm_Cl (pm_sound l D G) := ⟨so_iconst l D G, so_bipush l D G, so_sipush l D G, so_lconst l D G, so_ldc l D G, so_ldc2 l D G, so_iload l D G, so_iload_n l D G, so_lload l D G, so_lload_n l D G, so_aload l D G, so_aload_n l D G, so_iadd l D G, so_isub l D G, so_imul l D G, so_iand l D G, so_ior l D G, so_ixor l D G, so_ishl l D G, so_ishr l D G, so_idiv l D G, so_irem l D G, so_land l D G, so_lor l D G, so_lshl l D G, so_i2l l D G, so_lcmp l D G, so_dup l D G, so_pop l D G, so_dup_x1 l D G, so_dup_x2 l D G, so_dup2 l D G, so_goto l D G, so_if_eq l D G, so_if_ne l D G, so_if_lt l D G, so_if_ge l D G, so_if_gt l D G, so_if_le l D G, so_icmp_eq l D G, so_icmp_ne l D G, so_icmp_lt l D G, so_icmp_ge l D G, so_icmp_gt l D G, so_icmp_le l D G, so_tableIn l D G, so_tableOut l D G, so_istore l D G, so_istore_n l D G, so_astore l D G, so_astore_n l D G, so_lstore l D G, so_lstore_n l D G, so_iinc l D G, so_getI l D G, so_getP l D G, so_putI l D G, so_putP l D G, so_iaload l D G, so_iastore l D G, so_laload l D G, so_lastore l D G, so_aaload3 l D G, so_aaload4 l D G, so_alen l D G, so_sld l D G, so_slen l D G, so_new l D G, so_newI l D G, so_newJ l D G, so_mnaI l D G, so_mnaJ l D G, so_objInit l D G, so_mmin l D G, so_mmax l D G, so_copyi l D G, so_ireturn l D G, so_lreturn l D G, so_zreturn l D G, so_vreturn l D G, so_callV l D G, so_callS l D G, so_callI l D G, so_callW l D G, so_callN l D G, so_callVx l D G, so_callSx l D G, so_callVc_n l D G, so_callVc l D G, so_throwS l D G⟩
end
section
theorem pc_E : pm_cl 0 cR_E cF_E 5 cT_E := ⟨rfl, by decide +kernel, by decide +kernel, by decide +kernel, by decide +kernel⟩
theorem pc_D : pm_cl 1 cR_D cF_D 15 cT_D := ⟨rfl, by decide +kernel, by decide +kernel, by decide +kernel, by decide +kernel⟩
theorem pc_P : pm_cl 2 cR_P cF_P 15 cT_P := ⟨rfl, by decide +kernel, by decide +kernel, by decide +kernel, by decide +kernel⟩
theorem pc_C : pm_cl 3 cR_C cF_C 6 cT_C := ⟨rfl, by decide +kernel, by decide +kernel, by decide +kernel, by decide +kernel⟩
theorem pc_A : pm_cl 4 cR_A cF_A 12 cT_A := ⟨rfl, by decide +kernel, by decide +kernel, by decide +kernel, by decide +kernel⟩
theorem pc_M : pm_cl 5 cR_M cF_M 45 cT_M := ⟨rfl, by decide +kernel, by decide +kernel, by decide +kernel, by decide +kernel⟩
def m_E_init : pm_M := (⟨"ElasticNets", "<init>", "()V"⟩, prog_1_method_1_code, 1, none, [], 68, 14184)
theorem w_20 : Cond.code ⟨"ElasticNets", "<init>", "()V"⟩ prog_1_method_1_code 1 none ∈ lw_gw := wd_t 20 (by decide +kernel) (by decide +kernel)
theorem ok_E_init : pm_ok m_E_init := ⟨rfl, by decide +kernel, ⟨by decide +kernel, by decide +kernel⟩, w_20, by decide +kernel, by decide +kernel⟩
def m_E_block : pm_M := (⟨"ElasticNets", "block", "(II)I"⟩, prog_1_method_2_code, 3, (some FieldType.int), [], 2, 12)
theorem w_271 : Cond.code ⟨"ElasticNets", "block", "(II)I"⟩ prog_1_method_2_code 3 (some FieldType.int) ∈ lw_gw := wd_t 271 (by decide +kernel) (by decide +kernel)
theorem ok_E_block : pm_ok m_E_block := ⟨rfl, by decide +kernel, ⟨by decide +kernel, by decide +kernel⟩, w_271, by decide +kernel, by decide +kernel⟩
def m_E_channel : pm_M := (⟨"ElasticNets", "channel", "(III)I"⟩, prog_1_method_3_code, 4, (some FieldType.int), [], 3, 18)
theorem w_370 : Cond.code ⟨"ElasticNets", "channel", "(III)I"⟩ prog_1_method_3_code 4 (some FieldType.int) ∈ lw_gw := wd_t 370 (by decide +kernel) (by decide +kernel)
theorem ok_E_channel : pm_ok m_E_channel := ⟨rfl, by decide +kernel, ⟨by decide +kernel, by decide +kernel⟩, w_370, by decide +kernel, by decide +kernel⟩
def m_E_input : pm_M := (⟨"ElasticNets", "input", "(I)I"⟩, prog_1_method_4_code, 2, (some FieldType.int), [], 2, 12)
theorem w_393 : Cond.code ⟨"ElasticNets", "input", "(I)I"⟩ prog_1_method_4_code 2 (some FieldType.int) ∈ lw_gw := wd_t 393 (by decide +kernel) (by decide +kernel)
theorem ok_E_input : pm_ok m_E_input := ⟨rfl, by decide +kernel, ⟨by decide +kernel, by decide +kernel⟩, w_393, by decide +kernel, by decide +kernel⟩
def m_E_output : pm_M := (⟨"ElasticNets", "output", "(I)I"⟩, prog_1_method_5_code, 2, (some FieldType.int), [], 2, 12)
theorem w_404 : Cond.code ⟨"ElasticNets", "output", "(I)I"⟩ prog_1_method_5_code 2 (some FieldType.int) ∈ lw_gw := wd_t 404 (by decide +kernel) (by decide +kernel)
theorem ok_E_output : pm_ok m_E_output := ⟨rfl, by decide +kernel, ⟨by decide +kernel, by decide +kernel⟩, w_404, by decide +kernel, by decide +kernel⟩
def m_E_buffers : pm_M := (⟨"ElasticNets", "buffers", "(II)I"⟩, prog_1_method_6_code, 4, (some FieldType.int), [], 3, 18)
theorem w_415 : Cond.code ⟨"ElasticNets", "buffers", "(II)I"⟩ prog_1_method_6_code 4 (some FieldType.int) ∈ lw_gw := wd_t 415 (by decide +kernel) (by decide +kernel)
theorem ok_E_buffers : pm_ok m_E_buffers := ⟨rfl, by decide +kernel, ⟨by decide +kernel, by decide +kernel⟩, w_415, by decide +kernel, by decide +kernel⟩
def m_E_build : pm_M := (⟨"ElasticNets", "build", "()I"⟩, prog_1_method_7_code, 1, (some FieldType.int), [], 1, 6)
theorem w_422 : Cond.code ⟨"ElasticNets", "build", "()I"⟩ prog_1_method_7_code 1 (some FieldType.int) ∈ lw_gw := wd_t 422 (by decide +kernel) (by decide +kernel)
theorem ok_E_build : pm_ok m_E_build := ⟨rfl, by decide +kernel, ⟨by decide +kernel, by decide +kernel⟩, w_422, by decide +kernel, by decide +kernel⟩
def m_E_clear : pm_M := (⟨"ElasticNets", "clear", "()I"⟩, prog_1_method_8_code, 2, (some FieldType.int), [], 0, 0)
theorem w_258 : Cond.code ⟨"ElasticNets", "clear", "()I"⟩ prog_1_method_8_code 2 (some FieldType.int) ∈ lw_gw := wd_t 258 (by decide +kernel) (by decide +kernel)
theorem ok_E_clear : pm_ok m_E_clear := ⟨rfl, by decide +kernel, ⟨by decide +kernel, by decide +kernel⟩, w_258, by decide +kernel, by decide +kernel⟩
def m_E_restart : pm_M := (⟨"ElasticNets", "restart", "()V"⟩, prog_1_method_9_code, 1, none, [], 1, 6)
theorem w_456 : Cond.code ⟨"ElasticNets", "restart", "()V"⟩ prog_1_method_9_code 1 none ∈ lw_gw := wd_t 456 (by decide +kernel) (by decide +kernel)
theorem ok_E_restart : pm_ok m_E_restart := ⟨rfl, by decide +kernel, ⟨by decide +kernel, by decide +kernel⟩, w_456, by decide +kernel, by decide +kernel⟩
def m_E_offer : pm_M := (⟨"ElasticNets", "offer", "(II)Z"⟩, prog_1_method_10_code, 3, (some FieldType.boolean), [], 2, 12)
theorem w_468 : Cond.code ⟨"ElasticNets", "offer", "(II)Z"⟩ prog_1_method_10_code 3 (some FieldType.boolean) ∈ lw_gw := wd_t 468 (by decide +kernel) (by decide +kernel)
theorem ok_E_offer : pm_ok m_E_offer := ⟨rfl, by decide +kernel, ⟨by decide +kernel, by decide +kernel⟩, w_468, by decide +kernel, by decide +kernel⟩
def m_E_tick : pm_M := (⟨"ElasticNets", "tick", "(I)I"⟩, prog_1_method_11_code, 2, (some FieldType.int), [], 1, 6)
theorem w_483 : Cond.code ⟨"ElasticNets", "tick", "(I)I"⟩ prog_1_method_11_code 2 (some FieldType.int) ∈ lw_gw := wd_t 483 (by decide +kernel) (by decide +kernel)
theorem ok_E_tick : pm_ok m_E_tick := ⟨rfl, by decide +kernel, ⟨by decide +kernel, by decide +kernel⟩, w_483, by decide +kernel, by decide +kernel⟩
def m_E_run : pm_M := (⟨"ElasticNets", "run", "(II)I"⟩, prog_1_method_12_code, 5, (some FieldType.int), [], 2, 12)
theorem w_556 : Cond.code ⟨"ElasticNets", "run", "(II)I"⟩ prog_1_method_12_code 5 (some FieldType.int) ∈ lw_gw := wd_t 556 (by decide +kernel) (by decide +kernel)
theorem ok_E_run : pm_ok m_E_run := ⟨rfl, by decide +kernel, ⟨by decide +kernel, by decide +kernel⟩, w_556, by decide +kernel, by decide +kernel⟩
def m_E_ticks : pm_M := (⟨"ElasticNets", "ticks", "()I"⟩, prog_1_method_13_code, 1, (some FieldType.int), [], 1, 6)
theorem w_566 : Cond.code ⟨"ElasticNets", "ticks", "()I"⟩ prog_1_method_13_code 1 (some FieldType.int) ∈ lw_gw := wd_t 566 (by decide +kernel) (by decide +kernel)
theorem ok_E_ticks : pm_ok m_E_ticks := ⟨rfl, by decide +kernel, ⟨by decide +kernel, by decide +kernel⟩, w_566, by decide +kernel, by decide +kernel⟩
def m_E_turns : pm_M := (⟨"ElasticNets", "turns", "(I)I"⟩, prog_1_method_14_code, 2, (some FieldType.int), [], 2, 12)
theorem w_573 : Cond.code ⟨"ElasticNets", "turns", "(I)I"⟩ prog_1_method_14_code 2 (some FieldType.int) ∈ lw_gw := wd_t 573 (by decide +kernel) (by decide +kernel)
theorem ok_E_turns : pm_ok m_E_turns := ⟨rfl, by decide +kernel, ⟨by decide +kernel, by decide +kernel⟩, w_573, by decide +kernel, by decide +kernel⟩
def m_E_got : pm_M := (⟨"ElasticNets", "got", "(I)I"⟩, prog_1_method_15_code, 2, (some FieldType.int), [], 2, 12)
theorem w_580 : Cond.code ⟨"ElasticNets", "got", "(I)I"⟩ prog_1_method_15_code 2 (some FieldType.int) ∈ lw_gw := wd_t 580 (by decide +kernel) (by decide +kernel)
theorem ok_E_got : pm_ok m_E_got := ⟨rfl, by decide +kernel, ⟨by decide +kernel, by decide +kernel⟩, w_580, by decide +kernel, by decide +kernel⟩
def m_E_inside : pm_M := (⟨"ElasticNets", "inside", "(II)I"⟩, prog_1_method_16_code, 3, (some FieldType.int), [], 3, 18)
theorem w_587 : Cond.code ⟨"ElasticNets", "inside", "(II)I"⟩ prog_1_method_16_code 3 (some FieldType.int) ∈ lw_gw := wd_t 587 (by decide +kernel) (by decide +kernel)
theorem ok_E_inside : pm_ok m_E_inside := ⟨rfl, by decide +kernel, ⟨by decide +kernel, by decide +kernel⟩, w_587, by decide +kernel, by decide +kernel⟩
def m_E_taken : pm_M := (⟨"ElasticNets", "taken", "(I)I"⟩, prog_1_method_17_code, 2, (some FieldType.int), [], 2, 12)
theorem w_594 : Cond.code ⟨"ElasticNets", "taken", "(I)I"⟩ prog_1_method_17_code 2 (some FieldType.int) ∈ lw_gw := wd_t 594 (by decide +kernel) (by decide +kernel)
theorem ok_E_taken : pm_ok m_E_taken := ⟨rfl, by decide +kernel, ⟨by decide +kernel, by decide +kernel⟩, w_594, by decide +kernel, by decide +kernel⟩
def m_E_given : pm_M := (⟨"ElasticNets", "given", "(I)I"⟩, prog_1_method_18_code, 2, (some FieldType.int), [], 2, 12)
theorem w_601 : Cond.code ⟨"ElasticNets", "given", "(I)I"⟩ prog_1_method_18_code 2 (some FieldType.int) ∈ lw_gw := wd_t 601 (by decide +kernel) (by decide +kernel)
theorem ok_E_given : pm_ok m_E_given := ⟨rfl, by decide +kernel, ⟨by decide +kernel, by decide +kernel⟩, w_601, by decide +kernel, by decide +kernel⟩
def m_E_value : pm_M := (⟨"ElasticNets", "value", "(II)J"⟩, prog_1_method_19_code, 3, (some FieldType.long), [], 3, 18)
theorem w_609 : Cond.code ⟨"ElasticNets", "value", "(II)J"⟩ prog_1_method_19_code 3 (some FieldType.long) ∈ lw_gw := wd_t 609 (by decide +kernel) (by decide +kernel)
theorem ok_E_value : pm_ok m_E_value := ⟨rfl, by decide +kernel, ⟨by decide +kernel, by decide +kernel⟩, w_609, by decide +kernel, by decide +kernel⟩
def m_E_byClock : pm_M := (⟨"ElasticNets", "byClock", "(II)I"⟩, prog_1_method_20_code, 3, (some FieldType.int), [], 3, 18)
theorem w_632 : Cond.code ⟨"ElasticNets", "byClock", "(II)I"⟩ prog_1_method_20_code 3 (some FieldType.int) ∈ lw_gw := wd_t 632 (by decide +kernel) (by decide +kernel)
theorem ok_E_byClock : pm_ok m_E_byClock := ⟨rfl, by decide +kernel, ⟨by decide +kernel, by decide +kernel⟩, w_632, by decide +kernel, by decide +kernel⟩
def m_E_rate : pm_M := (⟨"ElasticNets", "rate", "(I)I"⟩, prog_1_method_21_code, 2, (some FieldType.int), [], 2, 12)
theorem w_655 : Cond.code ⟨"ElasticNets", "rate", "(I)I"⟩ prog_1_method_21_code 2 (some FieldType.int) ∈ lw_gw := wd_t 655 (by decide +kernel) (by decide +kernel)
theorem ok_E_rate : pm_ok m_E_rate := ⟨rfl, by decide +kernel, ⟨by decide +kernel, by decide +kernel⟩, w_655, by decide +kernel, by decide +kernel⟩
def m_E_standAtStart : pm_M := (⟨"ElasticNets", "standAtStart", "()V"⟩, prog_1_method_22_code, 1, none, [], 0, 0)
theorem w_430 : Cond.code ⟨"ElasticNets", "standAtStart", "()V"⟩ prog_1_method_22_code 1 none ∈ lw_gw := wd_t 430 (by decide +kernel) (by decide +kernel)
theorem ok_E_standAtStart : pm_ok m_E_standAtStart := ⟨rfl, by decide +kernel, ⟨by decide +kernel, by decide +kernel⟩, w_430, by decide +kernel, by decide +kernel⟩
def m_E_mustBeBuilt : pm_M := (⟨"ElasticNets", "mustBeBuilt", "()V"⟩, prog_1_method_23_code, 1, none, [], 1, 6)
theorem w_460 : Cond.code ⟨"ElasticNets", "mustBeBuilt", "()V"⟩ prog_1_method_23_code 1 none ∈ lw_gw := wd_t 460 (by decide +kernel) (by decide +kernel)
theorem ok_E_mustBeBuilt : pm_ok m_E_mustBeBuilt := ⟨rfl, by decide +kernel, ⟨by decide +kernel, by decide +kernel⟩, w_460, by decide +kernel, by decide +kernel⟩
def m_E_mustNotBeBuilt : pm_M := (⟨"ElasticNets", "mustNotBeBuilt", "()V"⟩, prog_1_method_24_code, 1, none, [], 1, 6)
theorem w_275 : Cond.code ⟨"ElasticNets", "mustNotBeBuilt", "()V"⟩ prog_1_method_24_code 1 none ∈ lw_gw := wd_t 275 (by decide +kernel) (by decide +kernel)
theorem ok_E_mustNotBeBuilt : pm_ok m_E_mustNotBeBuilt := ⟨rfl, by decide +kernel, ⟨by decide +kernel, by decide +kernel⟩, w_275, by decide +kernel, by decide +kernel⟩
def m_E_mustBeOneOf : pm_M := (⟨"ElasticNets", "mustBeOneOf", "(II)V"⟩, prog_1_method_25_code, 2, none, [], 1, 6)
theorem w_373 : Cond.code ⟨"ElasticNets", "mustBeOneOf", "(II)V"⟩ prog_1_method_25_code 2 none ∈ lw_gw := wd_t 373 (by decide +kernel) (by decide +kernel)
theorem ok_E_mustBeOneOf : pm_ok m_E_mustBeOneOf := ⟨rfl, by decide +kernel, ⟨by decide +kernel, by decide +kernel⟩, w_373, by decide +kernel, by decide +kernel⟩
def m_M_init : pm_M := (⟨"ElasticNetsModel", "<init>", "()V"⟩, prog_7_method_1_code, 1, none, [], 33, 149416)
theorem w_699 : Cond.code ⟨"ElasticNetsModel", "<init>", "()V"⟩ prog_7_method_1_code 1 none ∈ lw_gw := wd_t 699 (by decide +kernel) (by decide +kernel)
theorem ok_M_init : pm_ok m_M_init := ⟨rfl, by decide +kernel, ⟨by decide +kernel, by decide +kernel⟩, w_699, by decide +kernel, by decide +kernel⟩
def m_M_thrown : pm_M := (⟨"ElasticNetsModel", "thrown", "()I"⟩, prog_7_method_2_code, 1, (some FieldType.int), [], 0, 0)
theorem w_841 : Cond.code ⟨"ElasticNetsModel", "thrown", "()I"⟩ prog_7_method_2_code 1 (some FieldType.int) ∈ lw_gw := wd_t 841 (by decide +kernel) (by decide +kernel)
theorem ok_M_thrown : pm_ok m_M_thrown := ⟨rfl, by decide +kernel, ⟨by decide +kernel, by decide +kernel⟩, w_841, by decide +kernel, by decide +kernel⟩
def m_M_noBlock : pm_M := (⟨"ElasticNetsModel", "noBlock", "(I)Z"⟩, prog_7_method_3_code, 2, (some FieldType.boolean), [], 0, 0)
theorem w_853 : Cond.code ⟨"ElasticNetsModel", "noBlock", "(I)Z"⟩ prog_7_method_3_code 2 (some FieldType.boolean) ∈ lw_gw := wd_t 853 (by decide +kernel) (by decide +kernel)
theorem ok_M_noBlock : pm_ok m_M_noBlock := ⟨rfl, by decide +kernel, ⟨by decide +kernel, by decide +kernel⟩, w_853, by decide +kernel, by decide +kernel⟩
def m_M_block : pm_M := (⟨"ElasticNetsModel", "block", "(II)I"⟩, prog_7_method_4_code, 3, (some FieldType.int), [], 0, 0)
theorem w_845 : Cond.code ⟨"ElasticNetsModel", "block", "(II)I"⟩ prog_7_method_4_code 3 (some FieldType.int) ∈ lw_gw := wd_t 845 (by decide +kernel) (by decide +kernel)
theorem ok_M_block : pm_ok m_M_block := ⟨rfl, by decide +kernel, ⟨by decide +kernel, by decide +kernel⟩, w_845, by decide +kernel, by decide +kernel⟩
def m_M_channel : pm_M := (⟨"ElasticNetsModel", "channel", "(III)I"⟩, prog_7_method_5_code, 4, (some FieldType.int), [], 0, 0)
theorem w_849 : Cond.code ⟨"ElasticNetsModel", "channel", "(III)I"⟩ prog_7_method_5_code 4 (some FieldType.int) ∈ lw_gw := wd_t 849 (by decide +kernel) (by decide +kernel)
theorem ok_M_channel : pm_ok m_M_channel := ⟨rfl, by decide +kernel, ⟨by decide +kernel, by decide +kernel⟩, w_849, by decide +kernel, by decide +kernel⟩
def m_M_input : pm_M := (⟨"ElasticNetsModel", "input", "(I)I"⟩, prog_7_method_6_code, 2, (some FieldType.int), [], 0, 0)
theorem w_857 : Cond.code ⟨"ElasticNetsModel", "input", "(I)I"⟩ prog_7_method_6_code 2 (some FieldType.int) ∈ lw_gw := wd_t 857 (by decide +kernel) (by decide +kernel)
theorem ok_M_input : pm_ok m_M_input := ⟨rfl, by decide +kernel, ⟨by decide +kernel, by decide +kernel⟩, w_857, by decide +kernel, by decide +kernel⟩
def m_M_output : pm_M := (⟨"ElasticNetsModel", "output", "(I)I"⟩, prog_7_method_7_code, 2, (some FieldType.int), [], 0, 0)
theorem w_861 : Cond.code ⟨"ElasticNetsModel", "output", "(I)I"⟩ prog_7_method_7_code 2 (some FieldType.int) ∈ lw_gw := wd_t 861 (by decide +kernel) (by decide +kernel)
theorem ok_M_output : pm_ok m_M_output := ⟨rfl, by decide +kernel, ⟨by decide +kernel, by decide +kernel⟩, w_861, by decide +kernel, by decide +kernel⟩
def m_M_buffers : pm_M := (⟨"ElasticNetsModel", "buffers", "(II)I"⟩, prog_7_method_8_code, 4, (some FieldType.int), [], 0, 0)
theorem w_865 : Cond.code ⟨"ElasticNetsModel", "buffers", "(II)I"⟩ prog_7_method_8_code 4 (some FieldType.int) ∈ lw_gw := wd_t 865 (by decide +kernel) (by decide +kernel)
theorem ok_M_buffers : pm_ok m_M_buffers := ⟨rfl, by decide +kernel, ⟨by decide +kernel, by decide +kernel⟩, w_865, by decide +kernel, by decide +kernel⟩
def m_M_build : pm_M := (⟨"ElasticNetsModel", "build", "()I"⟩, prog_7_method_9_code, 3, (some FieldType.int), [], 0, 0)
theorem w_869 : Cond.code ⟨"ElasticNetsModel", "build", "()I"⟩ prog_7_method_9_code 3 (some FieldType.int) ∈ lw_gw := wd_t 869 (by decide +kernel) (by decide +kernel)
theorem ok_M_build : pm_ok m_M_build := ⟨rfl, by decide +kernel, ⟨by decide +kernel, by decide +kernel⟩, w_869, by decide +kernel, by decide +kernel⟩
def m_M_clear : pm_M := (⟨"ElasticNetsModel", "clear", "()I"⟩, prog_7_method_10_code, 2, (some FieldType.int), [], 0, 0)
theorem w_901 : Cond.code ⟨"ElasticNetsModel", "clear", "()I"⟩ prog_7_method_10_code 2 (some FieldType.int) ∈ lw_gw := wd_t 901 (by decide +kernel) (by decide +kernel)
theorem ok_M_clear : pm_ok m_M_clear := ⟨rfl, by decide +kernel, ⟨by decide +kernel, by decide +kernel⟩, w_901, by decide +kernel, by decide +kernel⟩
def m_M_restart : pm_M := (⟨"ElasticNetsModel", "restart", "()V"⟩, prog_7_method_11_code, 1, none, [], 0, 0)
theorem w_905 : Cond.code ⟨"ElasticNetsModel", "restart", "()V"⟩ prog_7_method_11_code 1 none ∈ lw_gw := wd_t 905 (by decide +kernel) (by decide +kernel)
theorem ok_M_restart : pm_ok m_M_restart := ⟨rfl, by decide +kernel, ⟨by decide +kernel, by decide +kernel⟩, w_905, by decide +kernel, by decide +kernel⟩
def m_M_begin : pm_M := (⟨"ElasticNetsModel", "begin", "()V"⟩, prog_7_method_12_code, 2, none, [], 0, 0)
theorem w_873 : Cond.code ⟨"ElasticNetsModel", "begin", "()V"⟩ prog_7_method_12_code 2 none ∈ lw_gw := wd_t 873 (by decide +kernel) (by decide +kernel)
theorem ok_M_begin : pm_ok m_M_begin := ⟨rfl, by decide +kernel, ⟨by decide +kernel, by decide +kernel⟩, w_873, by decide +kernel, by decide +kernel⟩
def m_M_later : pm_M := (⟨"ElasticNetsModel", "later", "(II)I"⟩, prog_7_method_13_code, 3, (some FieldType.int), [], 0, 0)
theorem w_941 : Cond.code ⟨"ElasticNetsModel", "later", "(II)I"⟩ prog_7_method_13_code 3 (some FieldType.int) ∈ lw_gw := wd_t 941 (by decide +kernel) (by decide +kernel)
theorem ok_M_later : pm_ok m_M_later := ⟨rfl, by decide +kernel, ⟨by decide +kernel, by decide +kernel⟩, w_941, by decide +kernel, by decide +kernel⟩
def m_M_came : pm_M := (⟨"ElasticNetsModel", "came", "(II)I"⟩, prog_7_method_14_code, 3, (some FieldType.int), [], 0, 0)
theorem w_933 : Cond.code ⟨"ElasticNetsModel", "came", "(II)I"⟩ prog_7_method_14_code 3 (some FieldType.int) ∈ lw_gw := wd_t 933 (by decide +kernel) (by decide +kernel)
theorem ok_M_came : pm_ok m_M_came := ⟨rfl, by decide +kernel, ⟨by decide +kernel, by decide +kernel⟩, w_933, by decide +kernel, by decide +kernel⟩
def m_M_gone : pm_M := (⟨"ElasticNetsModel", "gone", "(II)I"⟩, prog_7_method_15_code, 3, (some FieldType.int), [], 0, 0)
theorem w_949 : Cond.code ⟨"ElasticNetsModel", "gone", "(II)I"⟩ prog_7_method_15_code 3 (some FieldType.int) ∈ lw_gw := wd_t 949 (by decide +kernel) (by decide +kernel)
theorem ok_M_gone : pm_ok m_M_gone := ⟨rfl, by decide +kernel, ⟨by decide +kernel, by decide +kernel⟩, w_949, by decide +kernel, by decide +kernel⟩
def m_M_cameAt : pm_M := (⟨"ElasticNetsModel", "cameAt", "(III)I"⟩, prog_7_method_16_code, 4, (some FieldType.int), [], 0, 0)
theorem w_937 : Cond.code ⟨"ElasticNetsModel", "cameAt", "(III)I"⟩ prog_7_method_16_code 4 (some FieldType.int) ∈ lw_gw := wd_t 937 (by decide +kernel) (by decide +kernel)
theorem ok_M_cameAt : pm_ok m_M_cameAt := ⟨rfl, by decide +kernel, ⟨by decide +kernel, by decide +kernel⟩, w_937, by decide +kernel, by decide +kernel⟩
def m_M_goneAt : pm_M := (⟨"ElasticNetsModel", "goneAt", "(III)I"⟩, prog_7_method_17_code, 4, (some FieldType.int), [], 0, 0)
theorem w_953 : Cond.code ⟨"ElasticNetsModel", "goneAt", "(III)I"⟩ prog_7_method_17_code 4 (some FieldType.int) ∈ lw_gw := wd_t 953 (by decide +kernel) (by decide +kernel)
theorem ok_M_goneAt : pm_ok m_M_goneAt := ⟨rfl, by decide +kernel, ⟨by decide +kernel, by decide +kernel⟩, w_953, by decide +kernel, by decide +kernel⟩
def m_M_move : pm_M := (⟨"ElasticNetsModel", "move", "(III)Z"⟩, prog_7_method_18_code, 6, (some FieldType.boolean), [], 0, 0)
theorem w_968 : Cond.code ⟨"ElasticNetsModel", "move", "(III)Z"⟩ prog_7_method_18_code 6 (some FieldType.boolean) ∈ lw_gw := wd_t 968 (by decide +kernel) (by decide +kernel)
theorem ok_M_move : pm_ok m_M_move := ⟨rfl, by decide +kernel, ⟨by decide +kernel, by decide +kernel⟩, w_968, by decide +kernel, by decide +kernel⟩
def m_M_ready : pm_M := (⟨"ElasticNetsModel", "ready", "(I)I"⟩, prog_7_method_19_code, 5, (some FieldType.int), [], 0, 0)
theorem w_929 : Cond.code ⟨"ElasticNetsModel", "ready", "(I)I"⟩ prog_7_method_19_code 5 (some FieldType.int) ∈ lw_gw := wd_t 929 (by decide +kernel) (by decide +kernel)
theorem ok_M_ready : pm_ok m_M_ready := ⟨rfl, by decide +kernel, ⟨by decide +kernel, by decide +kernel⟩, w_929, by decide +kernel, by decide +kernel⟩
def m_M_apply : pm_M := (⟨"ElasticNetsModel", "apply", "(III)I"⟩, prog_7_method_20_code, 3, (some FieldType.int), [], 0, 0)
theorem w_960 : Cond.code ⟨"ElasticNetsModel", "apply", "(III)I"⟩ prog_7_method_20_code 3 (some FieldType.int) ∈ lw_gw := wd_t 960 (by decide +kernel) (by decide +kernel)
theorem ok_M_apply : pm_ok m_M_apply := ⟨rfl, by decide +kernel, ⟨by decide +kernel, by decide +kernel⟩, w_960, by decide +kernel, by decide +kernel⟩
def m_M_result : pm_M := (⟨"ElasticNetsModel", "result", "(II)I"⟩, prog_7_method_21_code, 6, (some FieldType.int), [], 0, 0)
theorem w_957 : Cond.code ⟨"ElasticNetsModel", "result", "(II)I"⟩ prog_7_method_21_code 6 (some FieldType.int) ∈ lw_gw := wd_t 957 (by decide +kernel) (by decide +kernel)
theorem ok_M_result : pm_ok m_M_result := ⟨rfl, by decide +kernel, ⟨by decide +kernel, by decide +kernel⟩, w_957, by decide +kernel, by decide +kernel⟩
def m_M_give : pm_M := (⟨"ElasticNetsModel", "give", "(III)Z"⟩, prog_7_method_22_code, 6, (some FieldType.boolean), [], 0, 0)
theorem w_945 : Cond.code ⟨"ElasticNetsModel", "give", "(III)Z"⟩ prog_7_method_22_code 6 (some FieldType.boolean) ∈ lw_gw := wd_t 945 (by decide +kernel) (by decide +kernel)
theorem ok_M_give : pm_ok m_M_give := ⟨rfl, by decide +kernel, ⟨by decide +kernel, by decide +kernel⟩, w_945, by decide +kernel, by decide +kernel⟩
def m_M_giveOut : pm_M := (⟨"ElasticNetsModel", "giveOut", "(III)Z"⟩, prog_7_method_23_code, 6, (some FieldType.boolean), [], 0, 0)
theorem w_964 : Cond.code ⟨"ElasticNetsModel", "giveOut", "(III)Z"⟩ prog_7_method_23_code 6 (some FieldType.boolean) ∈ lw_gw := wd_t 964 (by decide +kernel) (by decide +kernel)
theorem ok_M_giveOut : pm_ok m_M_giveOut := ⟨rfl, by decide +kernel, ⟨by decide +kernel, by decide +kernel⟩, w_964, by decide +kernel, by decide +kernel⟩
def m_M_work : pm_M := (⟨"ElasticNetsModel", "work", "(II)Z"⟩, prog_7_method_24_code, 9, (some FieldType.boolean), [], 0, 0)
theorem w_925 : Cond.code ⟨"ElasticNetsModel", "work", "(II)Z"⟩ prog_7_method_24_code 9 (some FieldType.boolean) ∈ lw_gw := wd_t 925 (by decide +kernel) (by decide +kernel)
theorem ok_M_work : pm_ok m_M_work := ⟨rfl, by decide +kernel, ⟨by decide +kernel, by decide +kernel⟩, w_925, by decide +kernel, by decide +kernel⟩
def m_M_settle : pm_M := (⟨"ElasticNetsModel", "settle", "(I)V"⟩, prog_7_method_25_code, 5, none, [], 0, 0)
theorem w_921 : Cond.code ⟨"ElasticNetsModel", "settle", "(I)V"⟩ prog_7_method_25_code 5 none ∈ lw_gw := wd_t 921 (by decide +kernel) (by decide +kernel)
theorem ok_M_settle : pm_ok m_M_settle := ⟨rfl, by decide +kernel, ⟨by decide +kernel, by decide +kernel⟩, w_921, by decide +kernel, by decide +kernel⟩
def m_M_offer : pm_M := (⟨"ElasticNetsModel", "offer", "(II)Z"⟩, prog_7_method_26_code, 3, (some FieldType.boolean), [], 0, 0)
theorem w_909 : Cond.code ⟨"ElasticNetsModel", "offer", "(II)Z"⟩ prog_7_method_26_code 3 (some FieldType.boolean) ∈ lw_gw := wd_t 909 (by decide +kernel) (by decide +kernel)
theorem ok_M_offer : pm_ok m_M_offer := ⟨rfl, by decide +kernel, ⟨by decide +kernel, by decide +kernel⟩, w_909, by decide +kernel, by decide +kernel⟩
def m_M_one : pm_M := (⟨"ElasticNetsModel", "one", "(I)I"⟩, prog_7_method_27_code, 6, (some FieldType.int), [], 0, 0)
theorem w_917 : Cond.code ⟨"ElasticNetsModel", "one", "(I)I"⟩ prog_7_method_27_code 6 (some FieldType.int) ∈ lw_gw := wd_t 917 (by decide +kernel) (by decide +kernel)
theorem ok_M_one : pm_ok m_M_one := ⟨rfl, by decide +kernel, ⟨by decide +kernel, by decide +kernel⟩, w_917, by decide +kernel, by decide +kernel⟩
def m_M_tick : pm_M := (⟨"ElasticNetsModel", "tick", "(I)I"⟩, prog_7_method_28_code, 2, (some FieldType.int), [], 0, 0)
theorem w_913 : Cond.code ⟨"ElasticNetsModel", "tick", "(I)I"⟩ prog_7_method_28_code 2 (some FieldType.int) ∈ lw_gw := wd_t 913 (by decide +kernel) (by decide +kernel)
theorem ok_M_tick : pm_ok m_M_tick := ⟨rfl, by decide +kernel, ⟨by decide +kernel, by decide +kernel⟩, w_913, by decide +kernel, by decide +kernel⟩
def m_M_run : pm_M := (⟨"ElasticNetsModel", "run", "(II)I"⟩, prog_7_method_29_code, 5, (some FieldType.int), [], 0, 0)
theorem w_972 : Cond.code ⟨"ElasticNetsModel", "run", "(II)I"⟩ prog_7_method_29_code 5 (some FieldType.int) ∈ lw_gw := wd_t 972 (by decide +kernel) (by decide +kernel)
theorem ok_M_run : pm_ok m_M_run := ⟨rfl, by decide +kernel, ⟨by decide +kernel, by decide +kernel⟩, w_972, by decide +kernel, by decide +kernel⟩
def m_M_ticks : pm_M := (⟨"ElasticNetsModel", "ticks", "()I"⟩, prog_7_method_30_code, 1, (some FieldType.int), [], 0, 0)
theorem w_976 : Cond.code ⟨"ElasticNetsModel", "ticks", "()I"⟩ prog_7_method_30_code 1 (some FieldType.int) ∈ lw_gw := wd_t 976 (by decide +kernel) (by decide +kernel)
theorem ok_M_ticks : pm_ok m_M_ticks := ⟨rfl, by decide +kernel, ⟨by decide +kernel, by decide +kernel⟩, w_976, by decide +kernel, by decide +kernel⟩
def m_M_turns : pm_M := (⟨"ElasticNetsModel", "turns", "(I)I"⟩, prog_7_method_31_code, 2, (some FieldType.int), [], 0, 0)
theorem w_980 : Cond.code ⟨"ElasticNetsModel", "turns", "(I)I"⟩ prog_7_method_31_code 2 (some FieldType.int) ∈ lw_gw := wd_t 980 (by decide +kernel) (by decide +kernel)
theorem ok_M_turns : pm_ok m_M_turns := ⟨rfl, by decide +kernel, ⟨by decide +kernel, by decide +kernel⟩, w_980, by decide +kernel, by decide +kernel⟩
def m_M_got : pm_M := (⟨"ElasticNetsModel", "got", "(I)I"⟩, prog_7_method_32_code, 6, (some FieldType.int), [], 0, 0)
theorem w_984 : Cond.code ⟨"ElasticNetsModel", "got", "(I)I"⟩ prog_7_method_32_code 6 (some FieldType.int) ∈ lw_gw := wd_t 984 (by decide +kernel) (by decide +kernel)
theorem ok_M_got : pm_ok m_M_got := ⟨rfl, by decide +kernel, ⟨by decide +kernel, by decide +kernel⟩, w_984, by decide +kernel, by decide +kernel⟩
def m_M_inside : pm_M := (⟨"ElasticNetsModel", "inside", "(II)I"⟩, prog_7_method_33_code, 3, (some FieldType.int), [], 0, 0)
theorem w_988 : Cond.code ⟨"ElasticNetsModel", "inside", "(II)I"⟩ prog_7_method_33_code 3 (some FieldType.int) ∈ lw_gw := wd_t 988 (by decide +kernel) (by decide +kernel)
theorem ok_M_inside : pm_ok m_M_inside := ⟨rfl, by decide +kernel, ⟨by decide +kernel, by decide +kernel⟩, w_988, by decide +kernel, by decide +kernel⟩
def m_M_taken : pm_M := (⟨"ElasticNetsModel", "taken", "(I)I"⟩, prog_7_method_34_code, 2, (some FieldType.int), [], 0, 0)
theorem w_992 : Cond.code ⟨"ElasticNetsModel", "taken", "(I)I"⟩ prog_7_method_34_code 2 (some FieldType.int) ∈ lw_gw := wd_t 992 (by decide +kernel) (by decide +kernel)
theorem ok_M_taken : pm_ok m_M_taken := ⟨rfl, by decide +kernel, ⟨by decide +kernel, by decide +kernel⟩, w_992, by decide +kernel, by decide +kernel⟩
def m_M_given : pm_M := (⟨"ElasticNetsModel", "given", "(I)I"⟩, prog_7_method_35_code, 2, (some FieldType.int), [], 0, 0)
theorem w_996 : Cond.code ⟨"ElasticNetsModel", "given", "(I)I"⟩ prog_7_method_35_code 2 (some FieldType.int) ∈ lw_gw := wd_t 996 (by decide +kernel) (by decide +kernel)
theorem ok_M_given : pm_ok m_M_given := ⟨rfl, by decide +kernel, ⟨by decide +kernel, by decide +kernel⟩, w_996, by decide +kernel, by decide +kernel⟩
def m_M_value : pm_M := (⟨"ElasticNetsModel", "value", "(II)J"⟩, prog_7_method_36_code, 3, (some FieldType.long), [], 0, 0)
theorem w_1000 : Cond.code ⟨"ElasticNetsModel", "value", "(II)J"⟩ prog_7_method_36_code 3 (some FieldType.long) ∈ lw_gw := wd_t 1000 (by decide +kernel) (by decide +kernel)
theorem ok_M_value : pm_ok m_M_value := ⟨rfl, by decide +kernel, ⟨by decide +kernel, by decide +kernel⟩, w_1000, by decide +kernel, by decide +kernel⟩
def m_M_makeByClock : pm_M := (⟨"ElasticNetsModel", "makeByClock", "(II)I"⟩, prog_7_method_37_code, 6, (some FieldType.int), [], 0, 0)
theorem w_1009 : Cond.code ⟨"ElasticNetsModel", "makeByClock", "(II)I"⟩ prog_7_method_37_code 6 (some FieldType.int) ∈ lw_gw := wd_t 1009 (by decide +kernel) (by decide +kernel)
theorem ok_M_makeByClock : pm_ok m_M_makeByClock := ⟨rfl, by decide +kernel, ⟨by decide +kernel, by decide +kernel⟩, w_1009, by decide +kernel, by decide +kernel⟩
def m_M_byClock : pm_M := (⟨"ElasticNetsModel", "byClock", "(II)I"⟩, prog_7_method_38_code, 5, (some FieldType.int), [], 0, 0)
theorem w_1005 : Cond.code ⟨"ElasticNetsModel", "byClock", "(II)I"⟩ prog_7_method_38_code 5 (some FieldType.int) ∈ lw_gw := wd_t 1005 (by decide +kernel) (by decide +kernel)
theorem ok_M_byClock : pm_ok m_M_byClock := ⟨rfl, by decide +kernel, ⟨by decide +kernel, by decide +kernel⟩, w_1005, by decide +kernel, by decide +kernel⟩
def m_M_arc : pm_M := (⟨"ElasticNetsModel", "arc", "(IIII)V"⟩, prog_7_method_39_code, 5, none, [], 0, 0)
theorem w_885 : Cond.code ⟨"ElasticNetsModel", "arc", "(IIII)V"⟩ prog_7_method_39_code 5 none ∈ lw_gw := wd_t 885 (by decide +kernel) (by decide +kernel)
theorem ok_M_arc : pm_ok m_M_arc := ⟨rfl, by decide +kernel, ⟨by decide +kernel, by decide +kernel⟩, w_885, by decide +kernel, by decide +kernel⟩
def m_M_draw : pm_M := (⟨"ElasticNetsModel", "draw", "()V"⟩, prog_7_method_40_code, 6, none, [], 0, 0)
theorem w_881 : Cond.code ⟨"ElasticNetsModel", "draw", "()V"⟩ prog_7_method_40_code 6 none ∈ lw_gw := wd_t 881 (by decide +kernel) (by decide +kernel)
theorem ok_M_draw : pm_ok m_M_draw := ⟨rfl, by decide +kernel, ⟨by decide +kernel, by decide +kernel⟩, w_881, by decide +kernel, by decide +kernel⟩
def m_M_goOn : pm_M := (⟨"ElasticNetsModel", "goOn", "()V"⟩, prog_7_method_41_code, 3, none, [], 0, 0)
theorem w_894 : Cond.code ⟨"ElasticNetsModel", "goOn", "()V"⟩ prog_7_method_41_code 3 none ∈ lw_gw := wd_t 894 (by decide +kernel) (by decide +kernel)
theorem ok_M_goOn : pm_ok m_M_goOn := ⟨rfl, by decide +kernel, ⟨by decide +kernel, by decide +kernel⟩, w_894, by decide +kernel, by decide +kernel⟩
def m_M_goFree : pm_M := (⟨"ElasticNetsModel", "goFree", "()V"⟩, prog_7_method_42_code, 4, none, [], 0, 0)
theorem w_890 : Cond.code ⟨"ElasticNetsModel", "goFree", "()V"⟩ prog_7_method_42_code 4 none ∈ lw_gw := wd_t 890 (by decide +kernel) (by decide +kernel)
theorem ok_M_goFree : pm_ok m_M_goFree := ⟨rfl, by decide +kernel, ⟨by decide +kernel, by decide +kernel⟩, w_890, by decide +kernel, by decide +kernel⟩
def m_M_divisor : pm_M := (⟨"ElasticNetsModel", "divisor", "(II)I"⟩, prog_7_method_43_code, 5, (some FieldType.int), [], 0, 0)
theorem w_897 : Cond.code ⟨"ElasticNetsModel", "divisor", "(II)I"⟩ prog_7_method_43_code 5 (some FieldType.int) ∈ lw_gw := wd_t 897 (by decide +kernel) (by decide +kernel)
theorem ok_M_divisor : pm_ok m_M_divisor := ⟨rfl, by decide +kernel, ⟨by decide +kernel, by decide +kernel⟩, w_897, by decide +kernel, by decide +kernel⟩
def m_M_reckon : pm_M := (⟨"ElasticNetsModel", "reckon", "()V"⟩, prog_7_method_44_code, 3, none, [], 0, 0)
theorem w_877 : Cond.code ⟨"ElasticNetsModel", "reckon", "()V"⟩ prog_7_method_44_code 3 none ∈ lw_gw := wd_t 877 (by decide +kernel) (by decide +kernel)
theorem ok_M_reckon : pm_ok m_M_reckon := ⟨rfl, by decide +kernel, ⟨by decide +kernel, by decide +kernel⟩, w_877, by decide +kernel, by decide +kernel⟩
def m_M_rate : pm_M := (⟨"ElasticNetsModel", "rate", "(I)I"⟩, prog_7_method_45_code, 2, (some FieldType.int), [], 0, 0)
theorem w_1013 : Cond.code ⟨"ElasticNetsModel", "rate", "(I)I"⟩ prog_7_method_45_code 2 (some FieldType.int) ∈ lw_gw := wd_t 1013 (by decide +kernel) (by decide +kernel)
theorem ok_M_rate : pm_ok m_M_rate := ⟨rfl, by decide +kernel, ⟨by decide +kernel, by decide +kernel⟩, w_1013, by decide +kernel, by decide +kernel⟩
def m_C_init : pm_M := (⟨"ElasticNets$Clocked", "<init>", "(LElasticNets$Design;[[I)V"⟩, prog_2_method_1_code, 3, none, [], 7, 4038)
theorem w_172 : Cond.code ⟨"ElasticNets$Clocked", "<init>", "(LElasticNets$Design;[[I)V"⟩ prog_2_method_1_code 3 none ∈ lw_gw := wd_t 172 (by decide +kernel) (by decide +kernel)
theorem ok_C_init : pm_ok m_C_init := ⟨rfl, by decide +kernel, ⟨by decide +kernel, by decide +kernel⟩, w_172, by decide +kernel, by decide +kernel⟩
def m_C_reset : pm_M := (⟨"ElasticNets$Clocked", "reset", "()V"⟩, prog_2_method_2_code, 2, none, [], 0, 0)
theorem w_445 : Cond.code ⟨"ElasticNets$Clocked", "reset", "()V"⟩ prog_2_method_2_code 2 none ∈ lw_gw := wd_t 445 (by decide +kernel) (by decide +kernel)
theorem ok_C_reset : pm_ok m_C_reset := ⟨rfl, by decide +kernel, ⟨by decide +kernel, by decide +kernel⟩, w_445, by decide +kernel, by decide +kernel⟩
def m_C_givenIn : pm_M := (⟨"ElasticNets$Clocked", "givenIn", "(II)I"⟩, prog_2_method_3_code, 4, (some FieldType.int), [], 0, 0)
theorem w_642 : Cond.code ⟨"ElasticNets$Clocked", "givenIn", "(II)I"⟩ prog_2_method_3_code 4 (some FieldType.int) ∈ lw_gw := wd_t 642 (by decide +kernel) (by decide +kernel)
theorem ok_C_givenIn : pm_ok m_C_givenIn := ⟨rfl, by decide +kernel, ⟨by decide +kernel, by decide +kernel⟩, w_642, by decide +kernel, by decide +kernel⟩
def m_C_goThrough : pm_M := (⟨"ElasticNets$Clocked", "goThrough", "(I)V"⟩, prog_2_method_4_code, 3, none, [], 0, 0)
theorem w_646 : Cond.code ⟨"ElasticNets$Clocked", "goThrough", "(I)V"⟩ prog_2_method_4_code 3 none ∈ lw_gw := wd_t 646 (by decide +kernel) (by decide +kernel)
theorem ok_C_goThrough : pm_ok m_C_goThrough := ⟨rfl, by decide +kernel, ⟨by decide +kernel, by decide +kernel⟩, w_646, by decide +kernel, by decide +kernel⟩
def m_D_init : pm_M := (⟨"ElasticNets$Design", "<init>", "()V"⟩, prog_3_method_1_code, 1, none, [], 31, 624)
theorem w_28 : Cond.code ⟨"ElasticNets$Design", "<init>", "()V"⟩ prog_3_method_1_code 1 none ∈ lw_gw := wd_t 28 (by decide +kernel) (by decide +kernel)
theorem ok_D_init : pm_ok m_D_init := ⟨rfl, by decide +kernel, ⟨by decide +kernel, by decide +kernel⟩, w_28, by decide +kernel, by decide +kernel⟩
def m_D_empty : pm_M := (⟨"ElasticNets$Design", "empty", "()V"⟩, prog_3_method_2_code, 1, none, [], 0, 0)
theorem w_262 : Cond.code ⟨"ElasticNets$Design", "empty", "()V"⟩ prog_3_method_2_code 1 none ∈ lw_gw := wd_t 262 (by decide +kernel) (by decide +kernel)
theorem ok_D_empty : pm_ok m_D_empty := ⟨rfl, by decide +kernel, ⟨by decide +kernel, by decide +kernel⟩, w_262, by decide +kernel, by decide +kernel⟩
def m_D_addBlock : pm_M := (⟨"ElasticNets$Design", "addBlock", "(II)I"⟩, prog_3_method_3_code, 3, (some FieldType.int), [], 0, 0)
theorem w_363 : Cond.code ⟨"ElasticNets$Design", "addBlock", "(II)I"⟩ prog_3_method_3_code 3 (some FieldType.int) ∈ lw_gw := wd_t 363 (by decide +kernel) (by decide +kernel)
theorem ok_D_addBlock : pm_ok m_D_addBlock := ⟨rfl, by decide +kernel, ⟨by decide +kernel, by decide +kernel⟩, w_363, by decide +kernel, by decide +kernel⟩
def m_D_addChannel : pm_M := (⟨"ElasticNets$Design", "addChannel", "(III)I"⟩, prog_3_method_4_code, 4, (some FieldType.int), [], 0, 0)
theorem w_378 : Cond.code ⟨"ElasticNets$Design", "addChannel", "(III)I"⟩ prog_3_method_4_code 4 (some FieldType.int) ∈ lw_gw := wd_t 378 (by decide +kernel) (by decide +kernel)
theorem ok_D_addChannel : pm_ok m_D_addChannel := ⟨rfl, by decide +kernel, ⟨by decide +kernel, by decide +kernel⟩, w_378, by decide +kernel, by decide +kernel⟩
def m_D_addInput : pm_M := (⟨"ElasticNets$Design", "addInput", "(I)I"⟩, prog_3_method_5_code, 2, (some FieldType.int), [], 0, 0)
theorem w_397 : Cond.code ⟨"ElasticNets$Design", "addInput", "(I)I"⟩ prog_3_method_5_code 2 (some FieldType.int) ∈ lw_gw := wd_t 397 (by decide +kernel) (by decide +kernel)
theorem ok_D_addInput : pm_ok m_D_addInput := ⟨rfl, by decide +kernel, ⟨by decide +kernel, by decide +kernel⟩, w_397, by decide +kernel, by decide +kernel⟩
def m_D_addOutput : pm_M := (⟨"ElasticNets$Design", "addOutput", "(I)I"⟩, prog_3_method_6_code, 2, (some FieldType.int), [], 0, 0)
theorem w_408 : Cond.code ⟨"ElasticNets$Design", "addOutput", "(I)I"⟩ prog_3_method_6_code 2 (some FieldType.int) ∈ lw_gw := wd_t 408 (by decide +kernel) (by decide +kernel)
theorem ok_D_addOutput : pm_ok m_D_addOutput := ⟨rfl, by decide +kernel, ⟨by decide +kernel, by decide +kernel⟩, w_408, by decide +kernel, by decide +kernel⟩
def m_D_linkIn : pm_M := (⟨"ElasticNets$Design", "linkIn", "(II)V"⟩, prog_3_method_7_code, 3, none, [], 0, 0)
theorem w_386 : Cond.code ⟨"ElasticNets$Design", "linkIn", "(II)V"⟩ prog_3_method_7_code 3 none ∈ lw_gw := wd_t 386 (by decide +kernel) (by decide +kernel)
theorem ok_D_linkIn : pm_ok m_D_linkIn := ⟨rfl, by decide +kernel, ⟨by decide +kernel, by decide +kernel⟩, w_386, by decide +kernel, by decide +kernel⟩
def m_D_linkOut : pm_M := (⟨"ElasticNets$Design", "linkOut", "(II)V"⟩, prog_3_method_8_code, 3, none, [], 0, 0)
theorem w_382 : Cond.code ⟨"ElasticNets$Design", "linkOut", "(II)V"⟩ prog_3_method_8_code 3 none ∈ lw_gw := wd_t 382 (by decide +kernel) (by decide +kernel)
theorem ok_D_linkOut : pm_ok m_D_linkOut := ⟨rfl, by decide +kernel, ⟨by decide +kernel, by decide +kernel⟩, w_382, by decide +kernel, by decide +kernel⟩
def m_D_countBuffers : pm_M := (⟨"ElasticNets$Design", "countBuffers", "()I"⟩, prog_3_method_9_code, 3, (some FieldType.int), [], 0, 0)
theorem w_449 : Cond.code ⟨"ElasticNets$Design", "countBuffers", "()I"⟩ prog_3_method_9_code 3 (some FieldType.int) ∈ lw_gw := wd_t 449 (by decide +kernel) (by decide +kernel)
theorem ok_D_countBuffers : pm_ok m_D_countBuffers := ⟨rfl, by decide +kernel, ⟨by decide +kernel, by decide +kernel⟩, w_449, by decide +kernel, by decide +kernel⟩
def m_D_lastBuffer : pm_M := (⟨"ElasticNets$Design", "lastBuffer", "(I)I"⟩, prog_3_method_10_code, 2, (some FieldType.int), [], 0, 0)
theorem w_498 : Cond.code ⟨"ElasticNets$Design", "lastBuffer", "(I)I"⟩ prog_3_method_10_code 2 (some FieldType.int) ∈ lw_gw := wd_t 498 (by decide +kernel) (by decide +kernel)
theorem ok_D_lastBuffer : pm_ok m_D_lastBuffer := ⟨rfl, by decide +kernel, ⟨by decide +kernel, by decide +kernel⟩, w_498, by decide +kernel, by decide +kernel⟩
def m_D_makes : pm_M := (⟨"ElasticNets$Design", "makes", "(I[I)I"⟩, prog_3_method_11_code, 5, (some FieldType.int), [], 0, 0)
theorem w_530 : Cond.code ⟨"ElasticNets$Design", "makes", "(I[I)I"⟩ prog_3_method_11_code 5 (some FieldType.int) ∈ lw_gw := wd_t 530 (by decide +kernel) (by decide +kernel)
theorem ok_D_makes : pm_ok m_D_makes := ⟨rfl, by decide +kernel, ⟨by decide +kernel, by decide +kernel⟩, w_530, by decide +kernel, by decide +kernel⟩
def m_D_joined : pm_M := (⟨"ElasticNets$Design", "joined", "(III)I"⟩, prog_3_method_12_code, 3, (some FieldType.int), [], 0, 0)
theorem w_533 : Cond.code ⟨"ElasticNets$Design", "joined", "(III)I"⟩ prog_3_method_12_code 3 (some FieldType.int) ∈ lw_gw := wd_t 533 (by decide +kernel) (by decide +kernel)
theorem ok_D_joined : pm_ok m_D_joined := ⟨rfl, by decide +kernel, ⟨by decide +kernel, by decide +kernel⟩, w_533, by decide +kernel, by decide +kernel⟩
def m_A_init : pm_M := (⟨"ElasticNets$Pace", "<init>", "(LElasticNets$Design;)V"⟩, prog_4_method_1_code, 2, none, [], 6, 1080)
theorem w_198 : Cond.code ⟨"ElasticNets$Pace", "<init>", "(LElasticNets$Design;)V"⟩ prog_4_method_1_code 2 none ∈ lw_gw := wd_t 198 (by decide +kernel) (by decide +kernel)
theorem ok_A_init : pm_ok m_A_init := ⟨rfl, by decide +kernel, ⟨by decide +kernel, by decide +kernel⟩, w_198, by decide +kernel, by decide +kernel⟩
def m_A_forget : pm_M := (⟨"ElasticNets$Pace", "forget", "()V"⟩, prog_4_method_2_code, 1, none, [], 0, 0)
theorem w_426 : Cond.code ⟨"ElasticNets$Pace", "forget", "()V"⟩ prog_4_method_2_code 1 none ∈ lw_gw := wd_t 426 (by decide +kernel) (by decide +kernel)
theorem ok_A_forget : pm_ok m_A_forget := ⟨rfl, by decide +kernel, ⟨by decide +kernel, by decide +kernel⟩, w_426, by decide +kernel, by decide +kernel⟩
def m_A_find : pm_M := (⟨"ElasticNets$Pace", "find", "()V"⟩, prog_4_method_3_code, 3, none, [], 0, 0)
theorem w_659 : Cond.code ⟨"ElasticNets$Pace", "find", "()V"⟩ prog_4_method_3_code 3 none ∈ lw_gw := wd_t 659 (by decide +kernel) (by decide +kernel)
theorem ok_A_find : pm_ok m_A_find := ⟨rfl, by decide +kernel, ⟨by decide +kernel, by decide +kernel⟩, w_659, by decide +kernel, by decide +kernel⟩
def m_A_drawGraph : pm_M := (⟨"ElasticNets$Pace", "drawGraph", "()V"⟩, prog_4_method_4_code, 2, none, [], 0, 0)
theorem w_663 : Cond.code ⟨"ElasticNets$Pace", "drawGraph", "()V"⟩ prog_4_method_4_code 2 none ∈ lw_gw := wd_t 663 (by decide +kernel) (by decide +kernel)
theorem ok_A_drawGraph : pm_ok m_A_drawGraph := ⟨rfl, by decide +kernel, ⟨by decide +kernel, by decide +kernel⟩, w_663, by decide +kernel, by decide +kernel⟩
def m_A_drawChannel : pm_M := (⟨"ElasticNets$Pace", "drawChannel", "(I)V"⟩, prog_4_method_5_code, 8, none, [], 0, 0)
theorem w_672 : Cond.code ⟨"ElasticNets$Pace", "drawChannel", "(I)V"⟩ prog_4_method_5_code 8 none ∈ lw_gw := wd_t 672 (by decide +kernel) (by decide +kernel)
theorem ok_A_drawChannel : pm_ok m_A_drawChannel := ⟨rfl, by decide +kernel, ⟨by decide +kernel, by decide +kernel⟩, w_672, by decide +kernel, by decide +kernel⟩
def m_A_addArc : pm_M := (⟨"ElasticNets$Pace", "addArc", "(IIII)V"⟩, prog_4_method_6_code, 5, none, [], 0, 0)
theorem w_668 : Cond.code ⟨"ElasticNets$Pace", "addArc", "(IIII)V"⟩ prog_4_method_6_code 5 none ∈ lw_gw := wd_t 668 (by decide +kernel) (by decide +kernel)
theorem ok_A_addArc : pm_ok m_A_addArc := ⟨rfl, by decide +kernel, ⟨by decide +kernel, by decide +kernel⟩, w_668, by decide +kernel, by decide +kernel⟩
def m_A_onLowerCycle : pm_M := (⟨"ElasticNets$Pace", "onLowerCycle", "()I"⟩, prog_4_method_7_code, 3, (some FieldType.int), [], 0, 0)
theorem w_677 : Cond.code ⟨"ElasticNets$Pace", "onLowerCycle", "()I"⟩ prog_4_method_7_code 3 (some FieldType.int) ∈ lw_gw := wd_t 677 (by decide +kernel) (by decide +kernel)
theorem ok_A_onLowerCycle : pm_ok m_A_onLowerCycle := ⟨rfl, by decide +kernel, ⟨by decide +kernel, by decide +kernel⟩, w_677, by decide +kernel, by decide +kernel⟩
def m_A_shrinkAll : pm_M := (⟨"ElasticNets$Pace", "shrinkAll", "()I"⟩, prog_4_method_8_code, 5, (some FieldType.int), [], 0, 0)
theorem w_682 : Cond.code ⟨"ElasticNets$Pace", "shrinkAll", "()I"⟩ prog_4_method_8_code 5 (some FieldType.int) ∈ lw_gw := wd_t 682 (by decide +kernel) (by decide +kernel)
theorem ok_A_shrinkAll : pm_ok m_A_shrinkAll := ⟨rfl, by decide +kernel, ⟨by decide +kernel, by decide +kernel⟩, w_682, by decide +kernel, by decide +kernel⟩
def m_A_nodeBefore : pm_M := (⟨"ElasticNets$Pace", "nodeBefore", "(I)I"⟩, prog_4_method_9_code, 2, (some FieldType.int), [], 0, 0)
theorem w_686 : Cond.code ⟨"ElasticNets$Pace", "nodeBefore", "(I)I"⟩ prog_4_method_9_code 2 (some FieldType.int) ∈ lw_gw := wd_t 686 (by decide +kernel) (by decide +kernel)
theorem ok_A_nodeBefore : pm_ok m_A_nodeBefore := ⟨rfl, by decide +kernel, ⟨by decide +kernel, by decide +kernel⟩, w_686, by decide +kernel, by decide +kernel⟩
def m_A_takeRatio : pm_M := (⟨"ElasticNets$Pace", "takeRatio", "(I)V"⟩, prog_4_method_10_code, 7, none, [], 0, 0)
theorem w_690 : Cond.code ⟨"ElasticNets$Pace", "takeRatio", "(I)V"⟩ prog_4_method_10_code 7 none ∈ lw_gw := wd_t 690 (by decide +kernel) (by decide +kernel)
theorem ok_A_takeRatio : pm_ok m_A_takeRatio := ⟨rfl, by decide +kernel, ⟨by decide +kernel, by decide +kernel⟩, w_690, by decide +kernel, by decide +kernel⟩
def m_A_commonDivisor : pm_M := (⟨"ElasticNets$Pace", "commonDivisor", "(II)I"⟩, prog_4_method_11_code, 3, (some FieldType.int), [], 0, 0)
theorem w_693 : Cond.code ⟨"ElasticNets$Pace", "commonDivisor", "(II)I"⟩ prog_4_method_11_code 3 (some FieldType.int) ∈ lw_gw := wd_t 693 (by decide +kernel) (by decide +kernel)
theorem ok_A_commonDivisor : pm_ok m_A_commonDivisor := ⟨rfl, by decide +kernel, ⟨by decide +kernel, by decide +kernel⟩, w_693, by decide +kernel, by decide +kernel⟩
def m_P_init : pm_M := (⟨"ElasticNets$Patient", "<init>", "(LElasticNets$Design;)V"⟩, prog_5_method_1_code, 2, none, [], 20, 8394)
theorem w_108 : Cond.code ⟨"ElasticNets$Patient", "<init>", "(LElasticNets$Design;)V"⟩ prog_5_method_1_code 2 none ∈ lw_gw := wd_t 108 (by decide +kernel) (by decide +kernel)
theorem ok_P_init : pm_ok m_P_init := ⟨rfl, by decide +kernel, ⟨by decide +kernel, by decide +kernel⟩, w_108, by decide +kernel, by decide +kernel⟩
def m_P_reset : pm_M := (⟨"ElasticNets$Patient", "reset", "()V"⟩, prog_5_method_2_code, 2, none, [], 0, 0)
theorem w_434 : Cond.code ⟨"ElasticNets$Patient", "reset", "()V"⟩ prog_5_method_2_code 2 none ∈ lw_gw := wd_t 434 (by decide +kernel) (by decide +kernel)
theorem ok_P_reset : pm_ok m_P_reset := ⟨rfl, by decide +kernel, ⟨by decide +kernel, by decide +kernel⟩, w_434, by decide +kernel, by decide +kernel⟩
def m_P_letWait : pm_M := (⟨"ElasticNets$Patient", "letWait", "(II)Z"⟩, prog_5_method_3_code, 3, (some FieldType.boolean), [], 0, 0)
theorem w_472 : Cond.code ⟨"ElasticNets$Patient", "letWait", "(II)Z"⟩ prog_5_method_3_code 3 (some FieldType.boolean) ∈ lw_gw := wd_t 472 (by decide +kernel) (by decide +kernel)
theorem ok_P_letWait : pm_ok m_P_letWait := ⟨rfl, by decide +kernel, ⟨by decide +kernel, by decide +kernel⟩, w_472, by decide +kernel, by decide +kernel⟩
def m_P_waitsAt : pm_M := (⟨"ElasticNets$Patient", "waitsAt", "(I)Z"⟩, prog_5_method_4_code, 2, (some FieldType.boolean), [], 0, 0)
theorem w_476 : Cond.code ⟨"ElasticNets$Patient", "waitsAt", "(I)Z"⟩ prog_5_method_4_code 2 (some FieldType.boolean) ∈ lw_gw := wd_t 476 (by decide +kernel) (by decide +kernel)
theorem ok_P_waitsAt : pm_ok m_P_waitsAt := ⟨rfl, by decide +kernel, ⟨by decide +kernel, by decide +kernel⟩, w_476, by decide +kernel, by decide +kernel⟩
def m_P_leastTaken : pm_M := (⟨"ElasticNets$Patient", "leastTaken", "()I"⟩, prog_5_method_5_code, 3, (some FieldType.int), [], 0, 0)
theorem w_636 : Cond.code ⟨"ElasticNets$Patient", "leastTaken", "()I"⟩ prog_5_method_5_code 3 (some FieldType.int) ∈ lw_gw := wd_t 636 (by decide +kernel) (by decide +kernel)
theorem ok_P_leastTaken : pm_ok m_P_leastTaken := ⟨rfl, by decide +kernel, ⟨by decide +kernel, by decide +kernel⟩, w_636, by decide +kernel, by decide +kernel⟩
def m_P_step : pm_M := (⟨"ElasticNets$Patient", "step", "(I)I"⟩, prog_5_method_6_code, 4, (some FieldType.int), [], 0, 0)
theorem w_487 : Cond.code ⟨"ElasticNets$Patient", "step", "(I)I"⟩ prog_5_method_6_code 4 (some FieldType.int) ∈ lw_gw := wd_t 487 (by decide +kernel) (by decide +kernel)
theorem ok_P_step : pm_ok m_P_step := ⟨rfl, by decide +kernel, ⟨by decide +kernel, by decide +kernel⟩, w_487, by decide +kernel, by decide +kernel⟩
def m_P_look : pm_M := (⟨"ElasticNets$Patient", "look", "()V"⟩, prog_5_method_7_code, 2, none, [], 0, 0)
theorem w_491 : Cond.code ⟨"ElasticNets$Patient", "look", "()V"⟩ prog_5_method_7_code 2 none ∈ lw_gw := wd_t 491 (by decide +kernel) (by decide +kernel)
theorem ok_P_look : pm_ok m_P_look := ⟨rfl, by decide +kernel, ⟨by decide +kernel, by decide +kernel⟩, w_491, by decide +kernel, by decide +kernel⟩
def m_P_isReady : pm_M := (⟨"ElasticNets$Patient", "isReady", "(I)Z"⟩, prog_5_method_8_code, 3, (some FieldType.boolean), [], 0, 0)
theorem w_502 : Cond.code ⟨"ElasticNets$Patient", "isReady", "(I)Z"⟩ prog_5_method_8_code 3 (some FieldType.boolean) ∈ lw_gw := wd_t 502 (by decide +kernel) (by decide +kernel)
theorem ok_P_isReady : pm_ok m_P_isReady := ⟨rfl, by decide +kernel, ⟨by decide +kernel, by decide +kernel⟩, w_502, by decide +kernel, by decide +kernel⟩
def m_P_isThere : pm_M := (⟨"ElasticNets$Patient", "isThere", "(I)Z"⟩, prog_5_method_9_code, 2, (some FieldType.boolean), [], 0, 0)
theorem w_506 : Cond.code ⟨"ElasticNets$Patient", "isThere", "(I)Z"⟩ prog_5_method_9_code 2 (some FieldType.boolean) ∈ lw_gw := wd_t 506 (by decide +kernel) (by decide +kernel)
theorem ok_P_isThere : pm_ok m_P_isThere := ⟨rfl, by decide +kernel, ⟨by decide +kernel, by decide +kernel⟩, w_506, by decide +kernel, by decide +kernel⟩
def m_P_whichGet : pm_M := (⟨"ElasticNets$Patient", "whichGet", "(II)I"⟩, prog_5_method_10_code, 6, (some FieldType.int), [], 0, 0)
theorem w_510 : Cond.code ⟨"ElasticNets$Patient", "whichGet", "(II)I"⟩ prog_5_method_10_code 6 (some FieldType.int) ∈ lw_gw := wd_t 510 (by decide +kernel) (by decide +kernel)
theorem ok_P_whichGet : pm_ok m_P_whichGet := ⟨rfl, by decide +kernel, ⟨by decide +kernel, by decide +kernel⟩, w_510, by decide +kernel, by decide +kernel⟩
def m_P_canGet : pm_M := (⟨"ElasticNets$Patient", "canGet", "(II)Z"⟩, prog_5_method_11_code, 3, (some FieldType.boolean), [], 0, 0)
theorem w_514 : Cond.code ⟨"ElasticNets$Patient", "canGet", "(II)Z"⟩ prog_5_method_11_code 3 (some FieldType.boolean) ∈ lw_gw := wd_t 514 (by decide +kernel) (by decide +kernel)
theorem ok_P_canGet : pm_ok m_P_canGet := ⟨rfl, by decide +kernel, ⟨by decide +kernel, by decide +kernel⟩, w_514, by decide +kernel, by decide +kernel⟩
def m_P_moveOn : pm_M := (⟨"ElasticNets$Patient", "moveOn", "(I)V"⟩, prog_5_method_12_code, 4, none, [], 0, 0)
theorem w_518 : Cond.code ⟨"ElasticNets$Patient", "moveOn", "(I)V"⟩ prog_5_method_12_code 4 none ∈ lw_gw := wd_t 518 (by decide +kernel) (by decide +kernel)
theorem ok_P_moveOn : pm_ok m_P_moveOn := ⟨rfl, by decide +kernel, ⟨by decide +kernel, by decide +kernel⟩, w_518, by decide +kernel, by decide +kernel⟩
def m_P_act : pm_M := (⟨"ElasticNets$Patient", "act", "(I)I"⟩, prog_5_method_13_code, 5, (some FieldType.int), [], 0, 0)
theorem w_526 : Cond.code ⟨"ElasticNets$Patient", "act", "(I)I"⟩ prog_5_method_13_code 5 (some FieldType.int) ∈ lw_gw := wd_t 526 (by decide +kernel) (by decide +kernel)
theorem ok_P_act : pm_ok m_P_act := ⟨rfl, by decide +kernel, ⟨by decide +kernel, by decide +kernel⟩, w_526, by decide +kernel, by decide +kernel⟩
def m_P_give : pm_M := (⟨"ElasticNets$Patient", "give", "(II)I"⟩, prog_5_method_14_code, 4, (some FieldType.int), [], 0, 0)
theorem w_540 : Cond.code ⟨"ElasticNets$Patient", "give", "(II)I"⟩ prog_5_method_14_code 4 (some FieldType.int) ∈ lw_gw := wd_t 540 (by decide +kernel) (by decide +kernel)
theorem ok_P_give : pm_ok m_P_give := ⟨rfl, by decide +kernel, ⟨by decide +kernel, by decide +kernel⟩, w_540, by decide +kernel, by decide +kernel⟩
def m_P_endTurn : pm_M := (⟨"ElasticNets$Patient", "endTurn", "(I)I"⟩, prog_5_method_15_code, 4, (some FieldType.int), [], 0, 0)
theorem w_545 : Cond.code ⟨"ElasticNets$Patient", "endTurn", "(I)I"⟩ prog_5_method_15_code 4 (some FieldType.int) ∈ lw_gw := wd_t 545 (by decide +kernel) (by decide +kernel)
theorem ok_P_endTurn : pm_ok m_P_endTurn := ⟨rfl, by decide +kernel, ⟨by decide +kernel, by decide +kernel⟩, w_545, by decide +kernel, by decide +kernel⟩
def m_P_take : pm_M := (⟨"ElasticNets$Patient", "take", "(I)I"⟩, prog_5_method_16_code, 3, (some FieldType.int), [], 0, 0)
theorem w_549 : Cond.code ⟨"ElasticNets$Patient", "take", "(I)I"⟩ prog_5_method_16_code 3 (some FieldType.int) ∈ lw_gw := wd_t 549 (by decide +kernel) (by decide +kernel)
theorem ok_P_take : pm_ok m_P_take := ⟨rfl, by decide +kernel, ⟨by decide +kernel, by decide +kernel⟩, w_549, by decide +kernel, by decide +kernel⟩
def m_P_put : pm_M := (⟨"ElasticNets$Patient", "put", "(II)V"⟩, prog_5_method_17_code, 3, none, [], 0, 0)
theorem w_441 : Cond.code ⟨"ElasticNets$Patient", "put", "(II)V"⟩ prog_5_method_17_code 3 none ∈ lw_gw := wd_t 441 (by decide +kernel) (by decide +kernel)
theorem ok_P_put : pm_ok m_P_put := ⟨rfl, by decide +kernel, ⟨by decide +kernel, by decide +kernel⟩, w_441, by decide +kernel, by decide +kernel⟩
def m_P_drop : pm_M := (⟨"ElasticNets$Patient", "drop", "(I)V"⟩, prog_5_method_18_code, 2, none, [], 0, 0)
theorem w_522 : Cond.code ⟨"ElasticNets$Patient", "drop", "(I)V"⟩ prog_5_method_18_code 2 none ∈ lw_gw := wd_t 522 (by decide +kernel) (by decide +kernel)
theorem ok_P_drop : pm_ok m_P_drop := ⟨rfl, by decide +kernel, ⟨by decide +kernel, by decide +kernel⟩, w_522, by decide +kernel, by decide +kernel⟩
def m_L_block : pm_M := (⟨"ElasticNetsLaw", "block", "(LElasticNets;II[J)I"⟩, method_3_code, 5, (some FieldType.int), [(0, 10, 13, 13), (0, 10, 17, 15)], 2, 12)
theorem w_265 : Cond.codeWith ⟨"ElasticNetsLaw", "block", "(LElasticNets;II[J)I"⟩ method_3_code 5 (some FieldType.int) [(0, 10, 13, 13), (0, 10, 17, 15)] ∈ lw_gw := wd_t 265 (by decide +kernel) (by decide +kernel)
theorem ok_L_block : pm_okH m_L_block := ⟨by decide +kernel, ⟨by decide +kernel, by decide +kernel⟩, w_265, by decide +kernel, by decide +kernel⟩
def m_L_channel : pm_M := (⟨"ElasticNetsLaw", "channel", "(LElasticNets;III[J)I"⟩, method_4_code, 6, (some FieldType.int), [(0, 12, 15, 13), (0, 12, 19, 15)], 3, 18)
theorem w_366 : Cond.codeWith ⟨"ElasticNetsLaw", "channel", "(LElasticNets;III[J)I"⟩ method_4_code 6 (some FieldType.int) [(0, 12, 15, 13), (0, 12, 19, 15)] ∈ lw_gw := wd_t 366 (by decide +kernel) (by decide +kernel)
theorem ok_L_channel : pm_okH m_L_channel := ⟨by decide +kernel, ⟨by decide +kernel, by decide +kernel⟩, w_366, by decide +kernel, by decide +kernel⟩
def m_L_input : pm_M := (⟨"ElasticNetsLaw", "input", "(LElasticNets;I[J)I"⟩, method_5_code, 4, (some FieldType.int), [(0, 9, 12, 13), (0, 9, 15, 15)], 2, 12)
theorem w_389 : Cond.codeWith ⟨"ElasticNetsLaw", "input", "(LElasticNets;I[J)I"⟩ method_5_code 4 (some FieldType.int) [(0, 9, 12, 13), (0, 9, 15, 15)] ∈ lw_gw := wd_t 389 (by decide +kernel) (by decide +kernel)
theorem ok_L_input : pm_okH m_L_input := ⟨by decide +kernel, ⟨by decide +kernel, by decide +kernel⟩, w_389, by decide +kernel, by decide +kernel⟩
def m_L_output : pm_M := (⟨"ElasticNetsLaw", "output", "(LElasticNets;I[J)I"⟩, method_6_code, 4, (some FieldType.int), [(0, 9, 12, 13), (0, 9, 15, 15)], 2, 12)
theorem w_400 : Cond.codeWith ⟨"ElasticNetsLaw", "output", "(LElasticNets;I[J)I"⟩ method_6_code 4 (some FieldType.int) [(0, 9, 12, 13), (0, 9, 15, 15)] ∈ lw_gw := wd_t 400 (by decide +kernel) (by decide +kernel)
theorem ok_L_output : pm_okH m_L_output := ⟨by decide +kernel, ⟨by decide +kernel, by decide +kernel⟩, w_400, by decide +kernel, by decide +kernel⟩
def m_L_buffers : pm_M := (⟨"ElasticNetsLaw", "buffers", "(LElasticNets;II[J)I"⟩, method_7_code, 5, (some FieldType.int), [(0, 10, 13, 13), (0, 10, 17, 15)], 3, 18)
theorem w_411 : Cond.codeWith ⟨"ElasticNetsLaw", "buffers", "(LElasticNets;II[J)I"⟩ method_7_code 5 (some FieldType.int) [(0, 10, 13, 13), (0, 10, 17, 15)] ∈ lw_gw := wd_t 411 (by decide +kernel) (by decide +kernel)
theorem ok_L_buffers : pm_okH m_L_buffers := ⟨by decide +kernel, ⟨by decide +kernel, by decide +kernel⟩, w_411, by decide +kernel, by decide +kernel⟩
def m_L_build : pm_M := (⟨"ElasticNetsLaw", "build", "(LElasticNets;[J)I"⟩, method_8_code, 3, (some FieldType.int), [(0, 8, 11, 13)], 1, 6)
theorem w_418 : Cond.codeWith ⟨"ElasticNetsLaw", "build", "(LElasticNets;[J)I"⟩ method_8_code 3 (some FieldType.int) [(0, 8, 11, 13)] ∈ lw_gw := wd_t 418 (by decide +kernel) (by decide +kernel)
theorem ok_L_build : pm_okH m_L_build := ⟨by decide +kernel, ⟨by decide +kernel, by decide +kernel⟩, w_418, by decide +kernel, by decide +kernel⟩
def m_L_restart : pm_M := (⟨"ElasticNetsLaw", "restart", "(LElasticNets;)I"⟩, method_9_code, 2, (some FieldType.int), [(0, 4, 7, 13)], 1, 6)
theorem w_452 : Cond.codeWith ⟨"ElasticNetsLaw", "restart", "(LElasticNets;)I"⟩ method_9_code 2 (some FieldType.int) [(0, 4, 7, 13)] ∈ lw_gw := wd_t 452 (by decide +kernel) (by decide +kernel)
theorem ok_L_restart : pm_okH m_L_restart := ⟨by decide +kernel, ⟨by decide +kernel, by decide +kernel⟩, w_452, by decide +kernel, by decide +kernel⟩
def m_L_offer : pm_M := (⟨"ElasticNetsLaw", "offer", "(LElasticNets;II[J)I"⟩, method_10_code, 5, (some FieldType.int), [(0, 17, 20, 13), (0, 17, 24, 15)], 2, 12)
theorem w_464 : Cond.codeWith ⟨"ElasticNetsLaw", "offer", "(LElasticNets;II[J)I"⟩ method_10_code 5 (some FieldType.int) [(0, 17, 20, 13), (0, 17, 24, 15)] ∈ lw_gw := wd_t 464 (by decide +kernel) (by decide +kernel)
theorem ok_L_offer : pm_okH m_L_offer := ⟨by decide +kernel, ⟨by decide +kernel, by decide +kernel⟩, w_464, by decide +kernel, by decide +kernel⟩
def m_L_tick : pm_M := (⟨"ElasticNetsLaw", "tick", "(LElasticNets;I[J)I"⟩, method_11_code, 4, (some FieldType.int), [(0, 9, 12, 13)], 1, 6)
theorem w_479 : Cond.codeWith ⟨"ElasticNetsLaw", "tick", "(LElasticNets;I[J)I"⟩ method_11_code 4 (some FieldType.int) [(0, 9, 12, 13)] ∈ lw_gw := wd_t 479 (by decide +kernel) (by decide +kernel)
theorem ok_L_tick : pm_okH m_L_tick := ⟨by decide +kernel, ⟨by decide +kernel, by decide +kernel⟩, w_479, by decide +kernel, by decide +kernel⟩
def m_L_run : pm_M := (⟨"ElasticNetsLaw", "run", "(LElasticNets;II[J)I"⟩, method_12_code, 5, (some FieldType.int), [(0, 10, 13, 13), (0, 10, 17, 15)], 2, 12)
theorem w_552 : Cond.codeWith ⟨"ElasticNetsLaw", "run", "(LElasticNets;II[J)I"⟩ method_12_code 5 (some FieldType.int) [(0, 10, 13, 13), (0, 10, 17, 15)] ∈ lw_gw := wd_t 552 (by decide +kernel) (by decide +kernel)
theorem ok_L_run : pm_okH m_L_run := ⟨by decide +kernel, ⟨by decide +kernel, by decide +kernel⟩, w_552, by decide +kernel, by decide +kernel⟩
def m_L_ticks : pm_M := (⟨"ElasticNetsLaw", "ticks", "(LElasticNets;[J)I"⟩, method_13_code, 3, (some FieldType.int), [(0, 8, 11, 13)], 1, 6)
theorem w_562 : Cond.codeWith ⟨"ElasticNetsLaw", "ticks", "(LElasticNets;[J)I"⟩ method_13_code 3 (some FieldType.int) [(0, 8, 11, 13)] ∈ lw_gw := wd_t 562 (by decide +kernel) (by decide +kernel)
theorem ok_L_ticks : pm_okH m_L_ticks := ⟨by decide +kernel, ⟨by decide +kernel, by decide +kernel⟩, w_562, by decide +kernel, by decide +kernel⟩
def m_L_turns : pm_M := (⟨"ElasticNetsLaw", "turns", "(LElasticNets;I[J)I"⟩, method_14_code, 4, (some FieldType.int), [(0, 9, 12, 13), (0, 9, 15, 15)], 2, 12)
theorem w_569 : Cond.codeWith ⟨"ElasticNetsLaw", "turns", "(LElasticNets;I[J)I"⟩ method_14_code 4 (some FieldType.int) [(0, 9, 12, 13), (0, 9, 15, 15)] ∈ lw_gw := wd_t 569 (by decide +kernel) (by decide +kernel)
theorem ok_L_turns : pm_okH m_L_turns := ⟨by decide +kernel, ⟨by decide +kernel, by decide +kernel⟩, w_569, by decide +kernel, by decide +kernel⟩
def m_L_got : pm_M := (⟨"ElasticNetsLaw", "got", "(LElasticNets;I[J)I"⟩, method_15_code, 4, (some FieldType.int), [(0, 9, 12, 13), (0, 9, 15, 15)], 2, 12)
theorem w_576 : Cond.codeWith ⟨"ElasticNetsLaw", "got", "(LElasticNets;I[J)I"⟩ method_15_code 4 (some FieldType.int) [(0, 9, 12, 13), (0, 9, 15, 15)] ∈ lw_gw := wd_t 576 (by decide +kernel) (by decide +kernel)
theorem ok_L_got : pm_okH m_L_got := ⟨by decide +kernel, ⟨by decide +kernel, by decide +kernel⟩, w_576, by decide +kernel, by decide +kernel⟩
def m_L_inside : pm_M := (⟨"ElasticNetsLaw", "inside", "(LElasticNets;II[J)I"⟩, method_16_code, 5, (some FieldType.int), [(0, 10, 13, 13), (0, 10, 17, 15)], 3, 18)
theorem w_583 : Cond.codeWith ⟨"ElasticNetsLaw", "inside", "(LElasticNets;II[J)I"⟩ method_16_code 5 (some FieldType.int) [(0, 10, 13, 13), (0, 10, 17, 15)] ∈ lw_gw := wd_t 583 (by decide +kernel) (by decide +kernel)
theorem ok_L_inside : pm_okH m_L_inside := ⟨by decide +kernel, ⟨by decide +kernel, by decide +kernel⟩, w_583, by decide +kernel, by decide +kernel⟩
def m_L_taken : pm_M := (⟨"ElasticNetsLaw", "taken", "(LElasticNets;I[J)I"⟩, method_17_code, 4, (some FieldType.int), [(0, 9, 12, 13), (0, 9, 15, 15)], 2, 12)
theorem w_590 : Cond.codeWith ⟨"ElasticNetsLaw", "taken", "(LElasticNets;I[J)I"⟩ method_17_code 4 (some FieldType.int) [(0, 9, 12, 13), (0, 9, 15, 15)] ∈ lw_gw := wd_t 590 (by decide +kernel) (by decide +kernel)
theorem ok_L_taken : pm_okH m_L_taken := ⟨by decide +kernel, ⟨by decide +kernel, by decide +kernel⟩, w_590, by decide +kernel, by decide +kernel⟩
def m_L_given : pm_M := (⟨"ElasticNetsLaw", "given", "(LElasticNets;I[J)I"⟩, method_18_code, 4, (some FieldType.int), [(0, 9, 12, 13), (0, 9, 15, 15)], 2, 12)
theorem w_597 : Cond.codeWith ⟨"ElasticNetsLaw", "given", "(LElasticNets;I[J)I"⟩ method_18_code 4 (some FieldType.int) [(0, 9, 12, 13), (0, 9, 15, 15)] ∈ lw_gw := wd_t 597 (by decide +kernel) (by decide +kernel)
theorem ok_L_given : pm_okH m_L_given := ⟨by decide +kernel, ⟨by decide +kernel, by decide +kernel⟩, w_597, by decide +kernel, by decide +kernel⟩
def m_L_value : pm_M := (⟨"ElasticNetsLaw", "value", "(LElasticNets;II[J)I"⟩, method_19_code, 5, (some FieldType.int), [(0, 9, 12, 13), (0, 9, 16, 15), (0, 9, 20, 70)], 3, 18)
theorem w_604 : Cond.codeWith ⟨"ElasticNetsLaw", "value", "(LElasticNets;II[J)I"⟩ method_19_code 5 (some FieldType.int) [(0, 9, 12, 13), (0, 9, 16, 15), (0, 9, 20, 70)] ∈ lw_gw := wd_t 604 (by decide +kernel) (by decide +kernel)
theorem ok_L_value : pm_okH m_L_value := ⟨by decide +kernel, ⟨by decide +kernel, by decide +kernel⟩, w_604, by decide +kernel, by decide +kernel⟩
def m_L_byClock : pm_M := (⟨"ElasticNetsLaw", "byClock", "(LElasticNets;II[J)I"⟩, method_20_code, 5, (some FieldType.int), [(0, 10, 13, 13), (0, 10, 17, 15), (0, 10, 21, 70)], 3, 18)
theorem w_628 : Cond.codeWith ⟨"ElasticNetsLaw", "byClock", "(LElasticNets;II[J)I"⟩ method_20_code 5 (some FieldType.int) [(0, 10, 13, 13), (0, 10, 17, 15), (0, 10, 21, 70)] ∈ lw_gw := wd_t 628 (by decide +kernel) (by decide +kernel)
theorem ok_L_byClock : pm_okH m_L_byClock := ⟨by decide +kernel, ⟨by decide +kernel, by decide +kernel⟩, w_628, by decide +kernel, by decide +kernel⟩
def m_L_rate : pm_M := (⟨"ElasticNetsLaw", "rate", "(LElasticNets;I[J)I"⟩, method_21_code, 4, (some FieldType.int), [(0, 9, 12, 13), (0, 9, 15, 15)], 2, 12)
theorem w_651 : Cond.codeWith ⟨"ElasticNetsLaw", "rate", "(LElasticNets;I[J)I"⟩ method_21_code 4 (some FieldType.int) [(0, 9, 12, 13), (0, 9, 15, 15)] ∈ lw_gw := wd_t 651 (by decide +kernel) (by decide +kernel)
theorem ok_L_rate : pm_okH m_L_rate := ⟨by decide +kernel, ⟨by decide +kernel, by decide +kernel⟩, w_651, by decide +kernel, by decide +kernel⟩
def m_U_fill : pm_M := (⟨"java/util/Arrays", "fill", "([II)V"⟩, prog_17_method_103_code, 4, none, [], 0, 0)
theorem w_437 : Cond.code ⟨"java/util/Arrays", "fill", "([II)V"⟩ prog_17_method_103_code 4 none ∈ lw_gw := wd_t 437 (by decide +kernel) (by decide +kernel)
theorem ok_U_fill : pm_ok m_U_fill := ⟨rfl, by decide +kernel, ⟨by decide +kernel, by decide +kernel⟩, w_437, by decide +kernel, by decide +kernel⟩
def m_L_law : pm_M := (x, code, 8, ret, [], 601024, 7293034)
theorem w_21 : Cond.methodLink "ElasticNets" 3 ⟨"java/lang/Object", "<init>", "()V"⟩ ∈ lw_gw := wd_t 21 (by decide +kernel) (by decide +kernel)
theorem w_24 : Cond.classLink "ElasticNets" 9 "ElasticNets$Design" ∈ lw_gw := wd_t 24 (by decide +kernel) (by decide +kernel)
theorem w_25 : Cond.instantiable "ElasticNets$Design" 15 ∈ lw_gw := wd_t 25 (by decide +kernel) (by decide +kernel)
theorem w_2 : Cond.initialized "ElasticNets$Design" ∈ lw_gw := wd_t 2 (by decide +kernel) (by decide +kernel)
theorem w_239 : Cond.fieldLink "ElasticNets" 12 "ElasticNets" "design" "LElasticNets$Design;" ∈ lw_gw := wd_t 239 (by decide +kernel) (by decide +kernel)
theorem w_104 : Cond.classLink "ElasticNets" 16 "ElasticNets$Patient" ∈ lw_gw := wd_t 104 (by decide +kernel) (by decide +kernel)
theorem w_105 : Cond.instantiable "ElasticNets$Patient" 15 ∈ lw_gw := wd_t 105 (by decide +kernel) (by decide +kernel)
theorem w_3 : Cond.initialized "ElasticNets$Patient" ∈ lw_gw := wd_t 3 (by decide +kernel) (by decide +kernel)
theorem w_106 : Cond.methodLink "ElasticNets" 18 ⟨"ElasticNets$Patient", "<init>", "(LElasticNets$Design;)V"⟩ ∈ lw_gw := wd_t 106 (by decide +kernel) (by decide +kernel)
theorem w_107 : Cond.instanceMethod ⟨"ElasticNets$Patient", "<init>", "(LElasticNets$Design;)V"⟩ ∈ lw_gw := wd_t 107 (by decide +kernel) (by decide +kernel)
theorem il_E_18 : pm_il "ElasticNets" 18 ⟨"ElasticNets$Patient", "<init>", "(LElasticNets$Design;)V"⟩ := ⟨w_106, w_107, w_3, rfl⟩
theorem w_240 : Cond.fieldLink "ElasticNets" 21 "ElasticNets" "patient" "LElasticNets$Patient;" ∈ lw_gw := wd_t 240 (by decide +kernel) (by decide +kernel)
theorem w_168 : Cond.classLink "ElasticNets" 25 "ElasticNets$Clocked" ∈ lw_gw := wd_t 168 (by decide +kernel) (by decide +kernel)
theorem w_169 : Cond.instantiable "ElasticNets$Clocked" 6 ∈ lw_gw := wd_t 169 (by decide +kernel) (by decide +kernel)
theorem w_4 : Cond.initialized "ElasticNets$Clocked" ∈ lw_gw := wd_t 4 (by decide +kernel) (by decide +kernel)
theorem w_130 : Cond.fieldLink "ElasticNets" 27 "ElasticNets$Patient" "takenValues" "[[I" ∈ lw_gw := wd_t 130 (by decide +kernel) (by decide +kernel)
theorem w_170 : Cond.methodLink "ElasticNets" 31 ⟨"ElasticNets$Clocked", "<init>", "(LElasticNets$Design;[[I)V"⟩ ∈ lw_gw := wd_t 170 (by decide +kernel) (by decide +kernel)
theorem w_171 : Cond.instanceMethod ⟨"ElasticNets$Clocked", "<init>", "(LElasticNets$Design;[[I)V"⟩ ∈ lw_gw := wd_t 171 (by decide +kernel) (by decide +kernel)
theorem il_E_31 : pm_il "ElasticNets" 31 ⟨"ElasticNets$Clocked", "<init>", "(LElasticNets$Design;[[I)V"⟩ := ⟨w_170, w_171, w_4, rfl⟩
theorem w_241 : Cond.fieldLink "ElasticNets" 34 "ElasticNets" "clocked" "LElasticNets$Clocked;" ∈ lw_gw := wd_t 241 (by decide +kernel) (by decide +kernel)
theorem w_194 : Cond.classLink "ElasticNets" 38 "ElasticNets$Pace" ∈ lw_gw := wd_t 194 (by decide +kernel) (by decide +kernel)
theorem w_195 : Cond.instantiable "ElasticNets$Pace" 12 ∈ lw_gw := wd_t 195 (by decide +kernel) (by decide +kernel)
theorem w_5 : Cond.initialized "ElasticNets$Pace" ∈ lw_gw := wd_t 5 (by decide +kernel) (by decide +kernel)
theorem w_196 : Cond.methodLink "ElasticNets" 40 ⟨"ElasticNets$Pace", "<init>", "(LElasticNets$Design;)V"⟩ ∈ lw_gw := wd_t 196 (by decide +kernel) (by decide +kernel)
theorem w_197 : Cond.instanceMethod ⟨"ElasticNets$Pace", "<init>", "(LElasticNets$Design;)V"⟩ ∈ lw_gw := wd_t 197 (by decide +kernel) (by decide +kernel)
theorem il_E_40 : pm_il "ElasticNets" 40 ⟨"ElasticNets$Pace", "<init>", "(LElasticNets$Design;)V"⟩ := ⟨w_196, w_197, w_5, rfl⟩
theorem w_242 : Cond.fieldLink "ElasticNets" 41 "ElasticNets" "pace" "LElasticNets$Pace;" ∈ lw_gw := wd_t 242 (by decide +kernel) (by decide +kernel)
theorem w_243 : Cond.fieldLink "ElasticNets" 45 "ElasticNets" "built" "Z" ∈ lw_gw := wd_t 243 (by decide +kernel) (by decide +kernel)
theorem w_272 : Cond.methodLink "ElasticNets" 49 ⟨"ElasticNets", "mustNotBeBuilt", "()V"⟩ ∈ lw_gw := wd_t 272 (by decide +kernel) (by decide +kernel)
theorem w_274 : Cond.instanceMethod ⟨"ElasticNets", "mustNotBeBuilt", "()V"⟩ ∈ lw_gw := wd_t 274 (by decide +kernel) (by decide +kernel)
theorem ws_0 : Cond.selects "ElasticNets" ⟨"ElasticNets", "mustNotBeBuilt", "()V"⟩ ⟨"ElasticNets", "mustNotBeBuilt", "()V"⟩ ∈ lw_gw := wd_s 0 (by decide +kernel) (by decide +kernel)
theorem w_1 : Cond.initialized "ElasticNets" ∈ lw_gw := wd_t 1 (by decide +kernel) (by decide +kernel)
theorem vl_E_49 : pm_vl "ElasticNets" 49 ⟨"ElasticNets", "mustNotBeBuilt", "()V"⟩ := ⟨w_272, w_274, ws_0, w_1⟩
theorem w_344 : Cond.classLink "ElasticNets" 52 "java/lang/IllegalArgumentException" ∈ lw_gw := wd_t 344 (by decide +kernel) (by decide +kernel)
theorem w_360 : Cond.methodLink "ElasticNets" 59 ⟨"ElasticNets$Design", "addBlock", "(II)I"⟩ ∈ lw_gw := wd_t 360 (by decide +kernel) (by decide +kernel)
theorem w_361 : Cond.instanceMethod ⟨"ElasticNets$Design", "addBlock", "(II)I"⟩ ∈ lw_gw := wd_t 361 (by decide +kernel) (by decide +kernel)
theorem w_362 : Cond.selects "ElasticNets$Design" ⟨"ElasticNets$Design", "addBlock", "(II)I"⟩ ⟨"ElasticNets$Design", "addBlock", "(II)I"⟩ ∈ lw_gw := wd_t 362 (by decide +kernel) (by decide +kernel)
theorem vl_E_59 : pm_vl "ElasticNets" 59 ⟨"ElasticNets$Design", "addBlock", "(II)I"⟩ := ⟨w_360, w_361, w_362, w_2⟩
theorem w_33 : Cond.fieldLink "ElasticNets" 63 "ElasticNets$Design" "blocks" "I" ∈ lw_gw := wd_t 33 (by decide +kernel) (by decide +kernel)
theorem w_371 : Cond.methodLink "ElasticNets" 67 ⟨"ElasticNets", "mustBeOneOf", "(II)V"⟩ ∈ lw_gw := wd_t 371 (by decide +kernel) (by decide +kernel)
theorem w_372 : Cond.static ⟨"ElasticNets", "mustBeOneOf", "(II)V"⟩ ∈ lw_gw := wd_t 372 (by decide +kernel) (by decide +kernel)
theorem sl_E_67 : pm_sl "ElasticNets" 67 ⟨"ElasticNets", "mustBeOneOf", "(II)V"⟩ := ⟨w_371, w_372, w_1⟩
theorem w_375 : Cond.methodLink "ElasticNets" 71 ⟨"ElasticNets$Design", "addChannel", "(III)I"⟩ ∈ lw_gw := wd_t 375 (by decide +kernel) (by decide +kernel)
theorem w_376 : Cond.instanceMethod ⟨"ElasticNets$Design", "addChannel", "(III)I"⟩ ∈ lw_gw := wd_t 376 (by decide +kernel) (by decide +kernel)
theorem w_377 : Cond.selects "ElasticNets$Design" ⟨"ElasticNets$Design", "addChannel", "(III)I"⟩ ⟨"ElasticNets$Design", "addChannel", "(III)I"⟩ ∈ lw_gw := wd_t 377 (by decide +kernel) (by decide +kernel)
theorem vl_E_71 : pm_vl "ElasticNets" 71 ⟨"ElasticNets$Design", "addChannel", "(III)I"⟩ := ⟨w_375, w_376, w_377, w_2⟩
theorem w_394 : Cond.methodLink "ElasticNets" 75 ⟨"ElasticNets$Design", "addInput", "(I)I"⟩ ∈ lw_gw := wd_t 394 (by decide +kernel) (by decide +kernel)
theorem w_395 : Cond.instanceMethod ⟨"ElasticNets$Design", "addInput", "(I)I"⟩ ∈ lw_gw := wd_t 395 (by decide +kernel) (by decide +kernel)
theorem w_396 : Cond.selects "ElasticNets$Design" ⟨"ElasticNets$Design", "addInput", "(I)I"⟩ ⟨"ElasticNets$Design", "addInput", "(I)I"⟩ ∈ lw_gw := wd_t 396 (by decide +kernel) (by decide +kernel)
theorem vl_E_75 : pm_vl "ElasticNets" 75 ⟨"ElasticNets$Design", "addInput", "(I)I"⟩ := ⟨w_394, w_395, w_396, w_2⟩
theorem w_405 : Cond.methodLink "ElasticNets" 79 ⟨"ElasticNets$Design", "addOutput", "(I)I"⟩ ∈ lw_gw := wd_t 405 (by decide +kernel) (by decide +kernel)
theorem w_406 : Cond.instanceMethod ⟨"ElasticNets$Design", "addOutput", "(I)I"⟩ ∈ lw_gw := wd_t 406 (by decide +kernel) (by decide +kernel)
theorem w_407 : Cond.selects "ElasticNets$Design" ⟨"ElasticNets$Design", "addOutput", "(I)I"⟩ ⟨"ElasticNets$Design", "addOutput", "(I)I"⟩ ∈ lw_gw := wd_t 407 (by decide +kernel) (by decide +kernel)
theorem vl_E_79 : pm_vl "ElasticNets" 79 ⟨"ElasticNets$Design", "addOutput", "(I)I"⟩ := ⟨w_405, w_406, w_407, w_2⟩
theorem w_41 : Cond.fieldLink "ElasticNets" 82 "ElasticNets$Design" "channels" "I" ∈ lw_gw := wd_t 41 (by decide +kernel) (by decide +kernel)
theorem w_61 : Cond.fieldLink "ElasticNets" 85 "ElasticNets$Design" "behind" "[I" ∈ lw_gw := wd_t 61 (by decide +kernel) (by decide +kernel)
theorem w_423 : Cond.methodLink "ElasticNets" 89 ⟨"ElasticNets$Pace", "forget", "()V"⟩ ∈ lw_gw := wd_t 423 (by decide +kernel) (by decide +kernel)
theorem w_424 : Cond.instanceMethod ⟨"ElasticNets$Pace", "forget", "()V"⟩ ∈ lw_gw := wd_t 424 (by decide +kernel) (by decide +kernel)
theorem w_425 : Cond.selects "ElasticNets$Pace" ⟨"ElasticNets$Pace", "forget", "()V"⟩ ⟨"ElasticNets$Pace", "forget", "()V"⟩ ∈ lw_gw := wd_t 425 (by decide +kernel) (by decide +kernel)
theorem vl_E_89 : pm_vl "ElasticNets" 89 ⟨"ElasticNets$Pace", "forget", "()V"⟩ := ⟨w_423, w_424, w_425, w_5⟩
theorem w_427 : Cond.methodLink "ElasticNets" 92 ⟨"ElasticNets", "standAtStart", "()V"⟩ ∈ lw_gw := wd_t 427 (by decide +kernel) (by decide +kernel)
theorem w_429 : Cond.instanceMethod ⟨"ElasticNets", "standAtStart", "()V"⟩ ∈ lw_gw := wd_t 429 (by decide +kernel) (by decide +kernel)
theorem ws_4 : Cond.selects "ElasticNets" ⟨"ElasticNets", "standAtStart", "()V"⟩ ⟨"ElasticNets", "standAtStart", "()V"⟩ ∈ lw_gw := wd_s 4 (by decide +kernel) (by decide +kernel)
theorem vl_E_92 : pm_vl "ElasticNets" 92 ⟨"ElasticNets", "standAtStart", "()V"⟩ := ⟨w_427, w_429, ws_4, w_1⟩
theorem w_446 : Cond.methodLink "ElasticNets" 95 ⟨"ElasticNets$Design", "countBuffers", "()I"⟩ ∈ lw_gw := wd_t 446 (by decide +kernel) (by decide +kernel)
theorem w_447 : Cond.instanceMethod ⟨"ElasticNets$Design", "countBuffers", "()I"⟩ ∈ lw_gw := wd_t 447 (by decide +kernel) (by decide +kernel)
theorem w_448 : Cond.selects "ElasticNets$Design" ⟨"ElasticNets$Design", "countBuffers", "()I"⟩ ⟨"ElasticNets$Design", "countBuffers", "()I"⟩ ∈ lw_gw := wd_t 448 (by decide +kernel) (by decide +kernel)
theorem vl_E_95 : pm_vl "ElasticNets" 95 ⟨"ElasticNets$Design", "countBuffers", "()I"⟩ := ⟨w_446, w_447, w_448, w_2⟩
theorem w_259 : Cond.methodLink "ElasticNets" 99 ⟨"ElasticNets$Design", "empty", "()V"⟩ ∈ lw_gw := wd_t 259 (by decide +kernel) (by decide +kernel)
theorem w_260 : Cond.instanceMethod ⟨"ElasticNets$Design", "empty", "()V"⟩ ∈ lw_gw := wd_t 260 (by decide +kernel) (by decide +kernel)
theorem w_261 : Cond.selects "ElasticNets$Design" ⟨"ElasticNets$Design", "empty", "()V"⟩ ⟨"ElasticNets$Design", "empty", "()V"⟩ ∈ lw_gw := wd_t 261 (by decide +kernel) (by decide +kernel)
theorem vl_E_99 : pm_vl "ElasticNets" 99 ⟨"ElasticNets$Design", "empty", "()V"⟩ := ⟨w_259, w_260, w_261, w_2⟩
theorem w_457 : Cond.methodLink "ElasticNets" 102 ⟨"ElasticNets", "mustBeBuilt", "()V"⟩ ∈ lw_gw := wd_t 457 (by decide +kernel) (by decide +kernel)
theorem w_459 : Cond.instanceMethod ⟨"ElasticNets", "mustBeBuilt", "()V"⟩ ∈ lw_gw := wd_t 459 (by decide +kernel) (by decide +kernel)
theorem ws_6 : Cond.selects "ElasticNets" ⟨"ElasticNets", "mustBeBuilt", "()V"⟩ ⟨"ElasticNets", "mustBeBuilt", "()V"⟩ ∈ lw_gw := wd_s 6 (by decide +kernel) (by decide +kernel)
theorem vl_E_102 : pm_vl "ElasticNets" 102 ⟨"ElasticNets", "mustBeBuilt", "()V"⟩ := ⟨w_457, w_459, ws_6, w_1⟩
theorem w_45 : Cond.fieldLink "ElasticNets" 105 "ElasticNets$Design" "inputs" "I" ∈ lw_gw := wd_t 45 (by decide +kernel) (by decide +kernel)
theorem w_469 : Cond.methodLink "ElasticNets" 108 ⟨"ElasticNets$Patient", "letWait", "(II)Z"⟩ ∈ lw_gw := wd_t 469 (by decide +kernel) (by decide +kernel)
theorem w_470 : Cond.instanceMethod ⟨"ElasticNets$Patient", "letWait", "(II)Z"⟩ ∈ lw_gw := wd_t 470 (by decide +kernel) (by decide +kernel)
theorem w_471 : Cond.selects "ElasticNets$Patient" ⟨"ElasticNets$Patient", "letWait", "(II)Z"⟩ ⟨"ElasticNets$Patient", "letWait", "(II)Z"⟩ ∈ lw_gw := wd_t 471 (by decide +kernel) (by decide +kernel)
theorem vl_E_108 : pm_vl "ElasticNets" 108 ⟨"ElasticNets$Patient", "letWait", "(II)Z"⟩ := ⟨w_469, w_470, w_471, w_3⟩
theorem w_115 : Cond.fieldLink "ElasticNets" 112 "ElasticNets$Patient" "ticks" "I" ∈ lw_gw := wd_t 115 (by decide +kernel) (by decide +kernel)
theorem w_484 : Cond.methodLink "ElasticNets" 115 ⟨"ElasticNets$Patient", "step", "(I)I"⟩ ∈ lw_gw := wd_t 484 (by decide +kernel) (by decide +kernel)
theorem w_485 : Cond.instanceMethod ⟨"ElasticNets$Patient", "step", "(I)I"⟩ ∈ lw_gw := wd_t 485 (by decide +kernel) (by decide +kernel)
theorem w_486 : Cond.selects "ElasticNets$Patient" ⟨"ElasticNets$Patient", "step", "(I)I"⟩ ⟨"ElasticNets$Patient", "step", "(I)I"⟩ ∈ lw_gw := wd_t 486 (by decide +kernel) (by decide +kernel)
theorem vl_E_115 : pm_vl "ElasticNets" 115 ⟨"ElasticNets$Patient", "step", "(I)I"⟩ := ⟨w_484, w_485, w_486, w_3⟩
theorem w_557 : Cond.methodLink "ElasticNets" 118 ⟨"java/lang/Math", "min", "(II)I"⟩ ∈ lw_gw := wd_t 557 (by decide +kernel) (by decide +kernel)
theorem w_122 : Cond.fieldLink "ElasticNets" 123 "ElasticNets$Patient" "turns" "[I" ∈ lw_gw := wd_t 122 (by decide +kernel) (by decide +kernel)
theorem w_124 : Cond.fieldLink "ElasticNets" 126 "ElasticNets$Patient" "got" "[I" ∈ lw_gw := wd_t 124 (by decide +kernel) (by decide +kernel)
theorem w_118 : Cond.fieldLink "ElasticNets" 129 "ElasticNets$Patient" "count" "[I" ∈ lw_gw := wd_t 118 (by decide +kernel) (by decide +kernel)
theorem w_129 : Cond.fieldLink "ElasticNets" 132 "ElasticNets$Patient" "takenCount" "[I" ∈ lw_gw := wd_t 129 (by decide +kernel) (by decide +kernel)
theorem w_48 : Cond.fieldLink "ElasticNets" 135 "ElasticNets$Design" "outputs" "I" ∈ lw_gw := wd_t 48 (by decide +kernel) (by decide +kernel)
theorem w_133 : Cond.fieldLink "ElasticNets" 138 "ElasticNets$Patient" "givenCount" "[I" ∈ lw_gw := wd_t 133 (by decide +kernel) (by decide +kernel)
theorem w_610 : Cond.classLink "ElasticNets" 141 "java/lang/IndexOutOfBoundsException" ∈ lw_gw := wd_t 610 (by decide +kernel) (by decide +kernel)
theorem w_135 : Cond.fieldLink "ElasticNets" 146 "ElasticNets$Patient" "givenValues" "[[J" ∈ lw_gw := wd_t 135 (by decide +kernel) (by decide +kernel)
theorem w_633 : Cond.methodLink "ElasticNets" 150 ⟨"ElasticNets$Patient", "leastTaken", "()I"⟩ ∈ lw_gw := wd_t 633 (by decide +kernel) (by decide +kernel)
theorem w_634 : Cond.instanceMethod ⟨"ElasticNets$Patient", "leastTaken", "()I"⟩ ∈ lw_gw := wd_t 634 (by decide +kernel) (by decide +kernel)
theorem w_635 : Cond.selects "ElasticNets$Patient" ⟨"ElasticNets$Patient", "leastTaken", "()I"⟩ ⟨"ElasticNets$Patient", "leastTaken", "()I"⟩ ∈ lw_gw := wd_t 635 (by decide +kernel) (by decide +kernel)
theorem vl_E_150 : pm_vl "ElasticNets" 150 ⟨"ElasticNets$Patient", "leastTaken", "()I"⟩ := ⟨w_633, w_634, w_635, w_3⟩
theorem w_639 : Cond.methodLink "ElasticNets" 155 ⟨"ElasticNets$Clocked", "givenIn", "(II)I"⟩ ∈ lw_gw := wd_t 639 (by decide +kernel) (by decide +kernel)
theorem w_640 : Cond.instanceMethod ⟨"ElasticNets$Clocked", "givenIn", "(II)I"⟩ ∈ lw_gw := wd_t 640 (by decide +kernel) (by decide +kernel)
theorem w_641 : Cond.selects "ElasticNets$Clocked" ⟨"ElasticNets$Clocked", "givenIn", "(II)I"⟩ ⟨"ElasticNets$Clocked", "givenIn", "(II)I"⟩ ∈ lw_gw := wd_t 641 (by decide +kernel) (by decide +kernel)
theorem vl_E_155 : pm_vl "ElasticNets" 155 ⟨"ElasticNets$Clocked", "givenIn", "(II)I"⟩ := ⟨w_639, w_640, w_641, w_4⟩
theorem w_656 : Cond.methodLink "ElasticNets" 158 ⟨"ElasticNets$Pace", "find", "()V"⟩ ∈ lw_gw := wd_t 656 (by decide +kernel) (by decide +kernel)
theorem w_657 : Cond.instanceMethod ⟨"ElasticNets$Pace", "find", "()V"⟩ ∈ lw_gw := wd_t 657 (by decide +kernel) (by decide +kernel)
theorem w_658 : Cond.selects "ElasticNets$Pace" ⟨"ElasticNets$Pace", "find", "()V"⟩ ⟨"ElasticNets$Pace", "find", "()V"⟩ ∈ lw_gw := wd_t 658 (by decide +kernel) (by decide +kernel)
theorem vl_E_158 : pm_vl "ElasticNets" 158 ⟨"ElasticNets$Pace", "find", "()V"⟩ := ⟨w_656, w_657, w_658, w_5⟩
theorem w_203 : Cond.fieldLink "ElasticNets" 161 "ElasticNets$Pace" "tokens" "I" ∈ lw_gw := wd_t 203 (by decide +kernel) (by decide +kernel)
theorem w_205 : Cond.fieldLink "ElasticNets" 164 "ElasticNets$Pace" "length" "I" ∈ lw_gw := wd_t 205 (by decide +kernel) (by decide +kernel)
theorem w_431 : Cond.methodLink "ElasticNets" 167 ⟨"ElasticNets$Patient", "reset", "()V"⟩ ∈ lw_gw := wd_t 431 (by decide +kernel) (by decide +kernel)
theorem w_432 : Cond.instanceMethod ⟨"ElasticNets$Patient", "reset", "()V"⟩ ∈ lw_gw := wd_t 432 (by decide +kernel) (by decide +kernel)
theorem w_433 : Cond.selects "ElasticNets$Patient" ⟨"ElasticNets$Patient", "reset", "()V"⟩ ⟨"ElasticNets$Patient", "reset", "()V"⟩ ∈ lw_gw := wd_t 433 (by decide +kernel) (by decide +kernel)
theorem vl_E_167 : pm_vl "ElasticNets" 167 ⟨"ElasticNets$Patient", "reset", "()V"⟩ := ⟨w_431, w_432, w_433, w_3⟩
theorem w_442 : Cond.methodLink "ElasticNets" 170 ⟨"ElasticNets$Clocked", "reset", "()V"⟩ ∈ lw_gw := wd_t 442 (by decide +kernel) (by decide +kernel)
theorem w_443 : Cond.instanceMethod ⟨"ElasticNets$Clocked", "reset", "()V"⟩ ∈ lw_gw := wd_t 443 (by decide +kernel) (by decide +kernel)
theorem w_444 : Cond.selects "ElasticNets$Clocked" ⟨"ElasticNets$Clocked", "reset", "()V"⟩ ⟨"ElasticNets$Clocked", "reset", "()V"⟩ ∈ lw_gw := wd_t 444 (by decide +kernel) (by decide +kernel)
theorem vl_E_170 : pm_vl "ElasticNets" 170 ⟨"ElasticNets$Clocked", "reset", "()V"⟩ := ⟨w_442, w_443, w_444, w_4⟩
theorem w_276 : Cond.classLink "ElasticNets" 171 "java/lang/IllegalStateException" ∈ lw_gw := wd_t 276 (by decide +kernel) (by decide +kernel)
theorem w_700 : Cond.methodLink "ElasticNetsModel" 1 ⟨"java/lang/Object", "<init>", "()V"⟩ ∈ lw_gw := wd_t 700 (by decide +kernel) (by decide +kernel)
theorem w_705 : Cond.fieldLink "ElasticNetsModel" 7 "ElasticNetsModel" "operations" "[I" ∈ lw_gw := wd_t 705 (by decide +kernel) (by decide +kernel)
theorem w_706 : Cond.fieldLink "ElasticNetsModel" 13 "ElasticNetsModel" "numbers" "[I" ∈ lw_gw := wd_t 706 (by decide +kernel) (by decide +kernel)
theorem w_708 : Cond.fieldLink "ElasticNetsModel" 16 "ElasticNetsModel" "froms" "[I" ∈ lw_gw := wd_t 708 (by decide +kernel) (by decide +kernel)
theorem w_709 : Cond.fieldLink "ElasticNetsModel" 19 "ElasticNetsModel" "tos" "[I" ∈ lw_gw := wd_t 709 (by decide +kernel) (by decide +kernel)
theorem w_710 : Cond.fieldLink "ElasticNetsModel" 22 "ElasticNetsModel" "firsts" "[I" ∈ lw_gw := wd_t 710 (by decide +kernel) (by decide +kernel)
theorem w_711 : Cond.fieldLink "ElasticNetsModel" 25 "ElasticNetsModel" "extra" "[I" ∈ lw_gw := wd_t 711 (by decide +kernel) (by decide +kernel)
theorem w_712 : Cond.fieldLink "ElasticNetsModel" 28 "ElasticNetsModel" "channelTurn" "[I" ∈ lw_gw := wd_t 712 (by decide +kernel) (by decide +kernel)
theorem w_714 : Cond.fieldLink "ElasticNetsModel" 31 "ElasticNetsModel" "inputTo" "[I" ∈ lw_gw := wd_t 714 (by decide +kernel) (by decide +kernel)
theorem w_715 : Cond.fieldLink "ElasticNetsModel" 34 "ElasticNetsModel" "inputTurn" "[I" ∈ lw_gw := wd_t 715 (by decide +kernel) (by decide +kernel)
theorem w_717 : Cond.fieldLink "ElasticNetsModel" 37 "ElasticNetsModel" "outputFrom" "[I" ∈ lw_gw := wd_t 717 (by decide +kernel) (by decide +kernel)
theorem w_718 : Cond.fieldLink "ElasticNetsModel" 40 "ElasticNetsModel" "outputTurn" "[I" ∈ lw_gw := wd_t 718 (by decide +kernel) (by decide +kernel)
theorem w_721 : Cond.fieldLink "ElasticNetsModel" 43 "ElasticNetsModel" "stalls" "[I" ∈ lw_gw := wd_t 721 (by decide +kernel) (by decide +kernel)
theorem w_722 : Cond.fieldLink "ElasticNetsModel" 46 "ElasticNetsModel" "tokens" "[I" ∈ lw_gw := wd_t 722 (by decide +kernel) (by decide +kernel)
theorem w_701 : Cond.constant "ElasticNetsModel" 49 80160 ∈ lw_gw := wd_t 701 (by decide +kernel) (by decide +kernel)
theorem w_723 : Cond.fieldLink "ElasticNetsModel" 50 "ElasticNetsModel" "leaves" "[I" ∈ lw_gw := wd_t 723 (by decide +kernel) (by decide +kernel)
theorem w_724 : Cond.fieldLink "ElasticNetsModel" 53 "ElasticNetsModel" "left" "[I" ∈ lw_gw := wd_t 724 (by decide +kernel) (by decide +kernel)
theorem w_725 : Cond.fieldLink "ElasticNetsModel" 56 "ElasticNetsModel" "gots" "[I" ∈ lw_gw := wd_t 725 (by decide +kernel) (by decide +kernel)
theorem w_726 : Cond.fieldLink "ElasticNetsModel" 59 "ElasticNetsModel" "gave" "[I" ∈ lw_gw := wd_t 726 (by decide +kernel) (by decide +kernel)
theorem w_727 : Cond.fieldLink "ElasticNetsModel" 62 "ElasticNetsModel" "ends" "[I" ∈ lw_gw := wd_t 727 (by decide +kernel) (by decide +kernel)
theorem w_728 : Cond.fieldLink "ElasticNetsModel" 65 "ElasticNetsModel" "turns" "[I" ∈ lw_gw := wd_t 728 (by decide +kernel) (by decide +kernel)
theorem w_729 : Cond.fieldLink "ElasticNetsModel" 68 "ElasticNetsModel" "offers" "[I" ∈ lw_gw := wd_t 729 (by decide +kernel) (by decide +kernel)
theorem w_730 : Cond.fieldLink "ElasticNetsModel" 71 "ElasticNetsModel" "offeredAt" "[I" ∈ lw_gw := wd_t 730 (by decide +kernel) (by decide +kernel)
theorem w_731 : Cond.fieldLink "ElasticNetsModel" 74 "ElasticNetsModel" "offered" "[I" ∈ lw_gw := wd_t 731 (by decide +kernel) (by decide +kernel)
theorem w_732 : Cond.fieldLink "ElasticNetsModel" 77 "ElasticNetsModel" "outs" "[I" ∈ lw_gw := wd_t 732 (by decide +kernel) (by decide +kernel)
theorem w_733 : Cond.fieldLink "ElasticNetsModel" 80 "ElasticNetsModel" "outAt" "[I" ∈ lw_gw := wd_t 733 (by decide +kernel) (by decide +kernel)
theorem w_734 : Cond.fieldLink "ElasticNetsModel" 83 "ElasticNetsModel" "out" "[I" ∈ lw_gw := wd_t 734 (by decide +kernel) (by decide +kernel)
theorem w_735 : Cond.fieldLink "ElasticNetsModel" 86 "ElasticNetsModel" "now" "[I" ∈ lw_gw := wd_t 735 (by decide +kernel) (by decide +kernel)
theorem w_736 : Cond.fieldLink "ElasticNetsModel" 89 "ElasticNetsModel" "made" "[I" ∈ lw_gw := wd_t 736 (by decide +kernel) (by decide +kernel)
theorem w_737 : Cond.fieldLink "ElasticNetsModel" 92 "ElasticNetsModel" "arcFrom" "[I" ∈ lw_gw := wd_t 737 (by decide +kernel) (by decide +kernel)
theorem w_738 : Cond.fieldLink "ElasticNetsModel" 95 "ElasticNetsModel" "arcTo" "[I" ∈ lw_gw := wd_t 738 (by decide +kernel) (by decide +kernel)
theorem w_739 : Cond.fieldLink "ElasticNetsModel" 98 "ElasticNetsModel" "arcTokens" "[I" ∈ lw_gw := wd_t 739 (by decide +kernel) (by decide +kernel)
theorem w_740 : Cond.fieldLink "ElasticNetsModel" 101 "ElasticNetsModel" "arcLength" "[I" ∈ lw_gw := wd_t 740 (by decide +kernel) (by decide +kernel)
theorem w_743 : Cond.fieldLink "ElasticNetsModel" 104 "ElasticNetsModel" "least" "[I" ∈ lw_gw := wd_t 743 (by decide +kernel) (by decide +kernel)
theorem w_744 : Cond.fieldLink "ElasticNetsModel" 107 "ElasticNetsModel" "before" "[I" ∈ lw_gw := wd_t 744 (by decide +kernel) (by decide +kernel)
theorem w_702 : Cond.fieldLink "ElasticNetsModel" 110 "ElasticNetsModel" "thrown" "I" ∈ lw_gw := wd_t 702 (by decide +kernel) (by decide +kernel)
theorem w_704 : Cond.fieldLink "ElasticNetsModel" 114 "ElasticNetsModel" "blocks" "I" ∈ lw_gw := wd_t 704 (by decide +kernel) (by decide +kernel)
theorem w_703 : Cond.fieldLink "ElasticNetsModel" 117 "ElasticNetsModel" "built" "Z" ∈ lw_gw := wd_t 703 (by decide +kernel) (by decide +kernel)
theorem w_850 : Cond.methodLink "ElasticNetsModel" 121 ⟨"ElasticNetsModel", "noBlock", "(I)Z"⟩ ∈ lw_gw := wd_t 850 (by decide +kernel) (by decide +kernel)
theorem w_852 : Cond.instanceMethod ⟨"ElasticNetsModel", "noBlock", "(I)Z"⟩ ∈ lw_gw := wd_t 852 (by decide +kernel) (by decide +kernel)
theorem ws_27 : Cond.selects "ElasticNetsModel" ⟨"ElasticNetsModel", "noBlock", "(I)Z"⟩ ⟨"ElasticNetsModel", "noBlock", "(I)Z"⟩ ∈ lw_gw := wd_s 27 (by decide +kernel) (by decide +kernel)
theorem w_6 : Cond.initialized "ElasticNetsModel" ∈ lw_gw := wd_t 6 (by decide +kernel) (by decide +kernel)
theorem vl_M_121 : pm_vl "ElasticNetsModel" 121 ⟨"ElasticNetsModel", "noBlock", "(I)Z"⟩ := ⟨w_850, w_852, ws_27, w_6⟩
theorem w_707 : Cond.fieldLink "ElasticNetsModel" 125 "ElasticNetsModel" "channels" "I" ∈ lw_gw := wd_t 707 (by decide +kernel) (by decide +kernel)
theorem w_719 : Cond.fieldLink "ElasticNetsModel" 128 "ElasticNetsModel" "added" "I" ∈ lw_gw := wd_t 719 (by decide +kernel) (by decide +kernel)
theorem w_713 : Cond.fieldLink "ElasticNetsModel" 131 "ElasticNetsModel" "inputs" "I" ∈ lw_gw := wd_t 713 (by decide +kernel) (by decide +kernel)
theorem w_716 : Cond.fieldLink "ElasticNetsModel" 134 "ElasticNetsModel" "outputs" "I" ∈ lw_gw := wd_t 716 (by decide +kernel) (by decide +kernel)
theorem w_870 : Cond.methodLink "ElasticNetsModel" 137 ⟨"ElasticNetsModel", "begin", "()V"⟩ ∈ lw_gw := wd_t 870 (by decide +kernel) (by decide +kernel)
theorem w_872 : Cond.instanceMethod ⟨"ElasticNetsModel", "begin", "()V"⟩ ∈ lw_gw := wd_t 872 (by decide +kernel) (by decide +kernel)
theorem ws_28 : Cond.selects "ElasticNetsModel" ⟨"ElasticNetsModel", "begin", "()V"⟩ ⟨"ElasticNetsModel", "begin", "()V"⟩ ∈ lw_gw := wd_s 28 (by decide +kernel) (by decide +kernel)
theorem vl_M_137 : pm_vl "ElasticNetsModel" 137 ⟨"ElasticNetsModel", "begin", "()V"⟩ := ⟨w_870, w_872, ws_28, w_6⟩
theorem w_874 : Cond.methodLink "ElasticNetsModel" 140 ⟨"ElasticNetsModel", "reckon", "()V"⟩ ∈ lw_gw := wd_t 874 (by decide +kernel) (by decide +kernel)
theorem w_876 : Cond.instanceMethod ⟨"ElasticNetsModel", "reckon", "()V"⟩ ∈ lw_gw := wd_t 876 (by decide +kernel) (by decide +kernel)
theorem ws_29 : Cond.selects "ElasticNetsModel" ⟨"ElasticNetsModel", "reckon", "()V"⟩ ⟨"ElasticNetsModel", "reckon", "()V"⟩ ∈ lw_gw := wd_s 29 (by decide +kernel) (by decide +kernel)
theorem vl_M_140 : pm_vl "ElasticNetsModel" 140 ⟨"ElasticNetsModel", "reckon", "()V"⟩ := ⟨w_874, w_876, ws_29, w_6⟩
theorem w_720 : Cond.fieldLink "ElasticNetsModel" 143 "ElasticNetsModel" "ticks" "I" ∈ lw_gw := wd_t 720 (by decide +kernel) (by decide +kernel)
theorem w_930 : Cond.methodLink "ElasticNetsModel" 146 ⟨"ElasticNetsModel", "came", "(II)I"⟩ ∈ lw_gw := wd_t 930 (by decide +kernel) (by decide +kernel)
theorem w_932 : Cond.instanceMethod ⟨"ElasticNetsModel", "came", "(II)I"⟩ ∈ lw_gw := wd_t 932 (by decide +kernel) (by decide +kernel)
theorem ws_38 : Cond.selects "ElasticNetsModel" ⟨"ElasticNetsModel", "came", "(II)I"⟩ ⟨"ElasticNetsModel", "came", "(II)I"⟩ ∈ lw_gw := wd_s 38 (by decide +kernel) (by decide +kernel)
theorem vl_M_146 : pm_vl "ElasticNetsModel" 146 ⟨"ElasticNetsModel", "came", "(II)I"⟩ := ⟨w_930, w_932, ws_38, w_6⟩
theorem w_946 : Cond.methodLink "ElasticNetsModel" 150 ⟨"ElasticNetsModel", "gone", "(II)I"⟩ ∈ lw_gw := wd_t 946 (by decide +kernel) (by decide +kernel)
theorem w_948 : Cond.instanceMethod ⟨"ElasticNetsModel", "gone", "(II)I"⟩ ∈ lw_gw := wd_t 948 (by decide +kernel) (by decide +kernel)
theorem ws_42 : Cond.selects "ElasticNetsModel" ⟨"ElasticNetsModel", "gone", "(II)I"⟩ ⟨"ElasticNetsModel", "gone", "(II)I"⟩ ∈ lw_gw := wd_s 42 (by decide +kernel) (by decide +kernel)
theorem vl_M_150 : pm_vl "ElasticNetsModel" 150 ⟨"ElasticNetsModel", "gone", "(II)I"⟩ := ⟨w_946, w_948, ws_42, w_6⟩
theorem w_934 : Cond.methodLink "ElasticNetsModel" 153 ⟨"ElasticNetsModel", "cameAt", "(III)I"⟩ ∈ lw_gw := wd_t 934 (by decide +kernel) (by decide +kernel)
theorem w_936 : Cond.instanceMethod ⟨"ElasticNetsModel", "cameAt", "(III)I"⟩ ∈ lw_gw := wd_t 936 (by decide +kernel) (by decide +kernel)
theorem ws_39 : Cond.selects "ElasticNetsModel" ⟨"ElasticNetsModel", "cameAt", "(III)I"⟩ ⟨"ElasticNetsModel", "cameAt", "(III)I"⟩ ∈ lw_gw := wd_s 39 (by decide +kernel) (by decide +kernel)
theorem vl_M_153 : pm_vl "ElasticNetsModel" 153 ⟨"ElasticNetsModel", "cameAt", "(III)I"⟩ := ⟨w_934, w_936, ws_39, w_6⟩
theorem w_938 : Cond.methodLink "ElasticNetsModel" 157 ⟨"ElasticNetsModel", "later", "(II)I"⟩ ∈ lw_gw := wd_t 938 (by decide +kernel) (by decide +kernel)
theorem w_940 : Cond.instanceMethod ⟨"ElasticNetsModel", "later", "(II)I"⟩ ∈ lw_gw := wd_t 940 (by decide +kernel) (by decide +kernel)
theorem ws_40 : Cond.selects "ElasticNetsModel" ⟨"ElasticNetsModel", "later", "(II)I"⟩ ⟨"ElasticNetsModel", "later", "(II)I"⟩ ∈ lw_gw := wd_s 40 (by decide +kernel) (by decide +kernel)
theorem vl_M_157 : pm_vl "ElasticNetsModel" 157 ⟨"ElasticNetsModel", "later", "(II)I"⟩ := ⟨w_938, w_940, ws_40, w_6⟩
theorem w_950 : Cond.methodLink "ElasticNetsModel" 160 ⟨"ElasticNetsModel", "goneAt", "(III)I"⟩ ∈ lw_gw := wd_t 950 (by decide +kernel) (by decide +kernel)
theorem w_952 : Cond.instanceMethod ⟨"ElasticNetsModel", "goneAt", "(III)I"⟩ ∈ lw_gw := wd_t 952 (by decide +kernel) (by decide +kernel)
theorem ws_43 : Cond.selects "ElasticNetsModel" ⟨"ElasticNetsModel", "goneAt", "(III)I"⟩ ⟨"ElasticNetsModel", "goneAt", "(III)I"⟩ ∈ lw_gw := wd_s 43 (by decide +kernel) (by decide +kernel)
theorem vl_M_160 : pm_vl "ElasticNetsModel" 160 ⟨"ElasticNetsModel", "goneAt", "(III)I"⟩ := ⟨w_950, w_952, ws_43, w_6⟩
theorem w_886 : Cond.constant "ElasticNetsModel" 163 1000000 ∈ lw_gw := wd_t 886 (by decide +kernel) (by decide +kernel)
theorem w_958 : Cond.methodLink "ElasticNetsModel" 164 ⟨"ElasticNetsModel", "apply", "(III)I"⟩ ∈ lw_gw := wd_t 958 (by decide +kernel) (by decide +kernel)
theorem w_959 : Cond.static ⟨"ElasticNetsModel", "apply", "(III)I"⟩ ∈ lw_gw := wd_t 959 (by decide +kernel) (by decide +kernel)
theorem sl_M_164 : pm_sl "ElasticNetsModel" 164 ⟨"ElasticNetsModel", "apply", "(III)I"⟩ := ⟨w_958, w_959, w_6⟩
theorem w_954 : Cond.methodLink "ElasticNetsModel" 167 ⟨"ElasticNetsModel", "result", "(II)I"⟩ ∈ lw_gw := wd_t 954 (by decide +kernel) (by decide +kernel)
theorem w_956 : Cond.instanceMethod ⟨"ElasticNetsModel", "result", "(II)I"⟩ ∈ lw_gw := wd_t 956 (by decide +kernel) (by decide +kernel)
theorem ws_44 : Cond.selects "ElasticNetsModel" ⟨"ElasticNetsModel", "result", "(II)I"⟩ ⟨"ElasticNetsModel", "result", "(II)I"⟩ ∈ lw_gw := wd_s 44 (by decide +kernel) (by decide +kernel)
theorem vl_M_167 : pm_vl "ElasticNetsModel" 167 ⟨"ElasticNetsModel", "result", "(II)I"⟩ := ⟨w_954, w_956, ws_44, w_6⟩
theorem w_926 : Cond.methodLink "ElasticNetsModel" 170 ⟨"ElasticNetsModel", "ready", "(I)I"⟩ ∈ lw_gw := wd_t 926 (by decide +kernel) (by decide +kernel)
theorem w_928 : Cond.instanceMethod ⟨"ElasticNetsModel", "ready", "(I)I"⟩ ∈ lw_gw := wd_t 928 (by decide +kernel) (by decide +kernel)
theorem ws_37 : Cond.selects "ElasticNetsModel" ⟨"ElasticNetsModel", "ready", "(I)I"⟩ ⟨"ElasticNetsModel", "ready", "(I)I"⟩ ∈ lw_gw := wd_s 37 (by decide +kernel) (by decide +kernel)
theorem vl_M_170 : pm_vl "ElasticNetsModel" 170 ⟨"ElasticNetsModel", "ready", "(I)I"⟩ := ⟨w_926, w_928, ws_37, w_6⟩
theorem w_942 : Cond.methodLink "ElasticNetsModel" 174 ⟨"ElasticNetsModel", "give", "(III)Z"⟩ ∈ lw_gw := wd_t 942 (by decide +kernel) (by decide +kernel)
theorem w_944 : Cond.instanceMethod ⟨"ElasticNetsModel", "give", "(III)Z"⟩ ∈ lw_gw := wd_t 944 (by decide +kernel) (by decide +kernel)
theorem ws_41 : Cond.selects "ElasticNetsModel" ⟨"ElasticNetsModel", "give", "(III)Z"⟩ ⟨"ElasticNetsModel", "give", "(III)Z"⟩ ∈ lw_gw := wd_s 41 (by decide +kernel) (by decide +kernel)
theorem vl_M_174 : pm_vl "ElasticNetsModel" 174 ⟨"ElasticNetsModel", "give", "(III)Z"⟩ := ⟨w_942, w_944, ws_41, w_6⟩
theorem w_961 : Cond.methodLink "ElasticNetsModel" 178 ⟨"ElasticNetsModel", "giveOut", "(III)Z"⟩ ∈ lw_gw := wd_t 961 (by decide +kernel) (by decide +kernel)
theorem w_963 : Cond.instanceMethod ⟨"ElasticNetsModel", "giveOut", "(III)Z"⟩ ∈ lw_gw := wd_t 963 (by decide +kernel) (by decide +kernel)
theorem ws_45 : Cond.selects "ElasticNetsModel" ⟨"ElasticNetsModel", "giveOut", "(III)Z"⟩ ⟨"ElasticNetsModel", "giveOut", "(III)Z"⟩ ∈ lw_gw := wd_s 45 (by decide +kernel) (by decide +kernel)
theorem vl_M_178 : pm_vl "ElasticNetsModel" 178 ⟨"ElasticNetsModel", "giveOut", "(III)Z"⟩ := ⟨w_961, w_963, ws_45, w_6⟩
theorem w_922 : Cond.methodLink "ElasticNetsModel" 181 ⟨"ElasticNetsModel", "work", "(II)Z"⟩ ∈ lw_gw := wd_t 922 (by decide +kernel) (by decide +kernel)
theorem w_924 : Cond.instanceMethod ⟨"ElasticNetsModel", "work", "(II)Z"⟩ ∈ lw_gw := wd_t 924 (by decide +kernel) (by decide +kernel)
theorem ws_36 : Cond.selects "ElasticNetsModel" ⟨"ElasticNetsModel", "work", "(II)Z"⟩ ⟨"ElasticNetsModel", "work", "(II)Z"⟩ ∈ lw_gw := wd_s 36 (by decide +kernel) (by decide +kernel)
theorem vl_M_181 : pm_vl "ElasticNetsModel" 181 ⟨"ElasticNetsModel", "work", "(II)Z"⟩ := ⟨w_922, w_924, ws_36, w_6⟩
theorem w_965 : Cond.methodLink "ElasticNetsModel" 185 ⟨"ElasticNetsModel", "move", "(III)Z"⟩ ∈ lw_gw := wd_t 965 (by decide +kernel) (by decide +kernel)
theorem w_967 : Cond.instanceMethod ⟨"ElasticNetsModel", "move", "(III)Z"⟩ ∈ lw_gw := wd_t 967 (by decide +kernel) (by decide +kernel)
theorem ws_46 : Cond.selects "ElasticNetsModel" ⟨"ElasticNetsModel", "move", "(III)Z"⟩ ⟨"ElasticNetsModel", "move", "(III)Z"⟩ ∈ lw_gw := wd_s 46 (by decide +kernel) (by decide +kernel)
theorem vl_M_185 : pm_vl "ElasticNetsModel" 185 ⟨"ElasticNetsModel", "move", "(III)Z"⟩ := ⟨w_965, w_967, ws_46, w_6⟩
theorem w_918 : Cond.methodLink "ElasticNetsModel" 188 ⟨"ElasticNetsModel", "settle", "(I)V"⟩ ∈ lw_gw := wd_t 918 (by decide +kernel) (by decide +kernel)
theorem w_920 : Cond.instanceMethod ⟨"ElasticNetsModel", "settle", "(I)V"⟩ ∈ lw_gw := wd_t 920 (by decide +kernel) (by decide +kernel)
theorem ws_35 : Cond.selects "ElasticNetsModel" ⟨"ElasticNetsModel", "settle", "(I)V"⟩ ⟨"ElasticNetsModel", "settle", "(I)V"⟩ ∈ lw_gw := wd_s 35 (by decide +kernel) (by decide +kernel)
theorem vl_M_188 : pm_vl "ElasticNetsModel" 188 ⟨"ElasticNetsModel", "settle", "(I)V"⟩ := ⟨w_918, w_920, ws_35, w_6⟩
theorem w_914 : Cond.methodLink "ElasticNetsModel" 192 ⟨"ElasticNetsModel", "one", "(I)I"⟩ ∈ lw_gw := wd_t 914 (by decide +kernel) (by decide +kernel)
theorem w_916 : Cond.instanceMethod ⟨"ElasticNetsModel", "one", "(I)I"⟩ ∈ lw_gw := wd_t 916 (by decide +kernel) (by decide +kernel)
theorem ws_34 : Cond.selects "ElasticNetsModel" ⟨"ElasticNetsModel", "one", "(I)I"⟩ ⟨"ElasticNetsModel", "one", "(I)I"⟩ ∈ lw_gw := wd_s 34 (by decide +kernel) (by decide +kernel)
theorem vl_M_192 : pm_vl "ElasticNetsModel" 192 ⟨"ElasticNetsModel", "one", "(I)I"⟩ := ⟨w_914, w_916, ws_34, w_6⟩
theorem w_1001 : Cond.constantLong "ElasticNetsModel" 195 (4294967295 : Int64) ∈ lw_gw := wd_t 1001 (by decide +kernel) (by decide +kernel)
theorem w_1006 : Cond.methodLink "ElasticNetsModel" 197 ⟨"ElasticNetsModel", "makeByClock", "(II)I"⟩ ∈ lw_gw := wd_t 1006 (by decide +kernel) (by decide +kernel)
theorem w_1008 : Cond.instanceMethod ⟨"ElasticNetsModel", "makeByClock", "(II)I"⟩ ∈ lw_gw := wd_t 1008 (by decide +kernel) (by decide +kernel)
theorem ws_47 : Cond.selects "ElasticNetsModel" ⟨"ElasticNetsModel", "makeByClock", "(II)I"⟩ ⟨"ElasticNetsModel", "makeByClock", "(II)I"⟩ ∈ lw_gw := wd_s 47 (by decide +kernel) (by decide +kernel)
theorem vl_M_197 : pm_vl "ElasticNetsModel" 197 ⟨"ElasticNetsModel", "makeByClock", "(II)I"⟩ := ⟨w_1006, w_1008, ws_47, w_6⟩
theorem w_741 : Cond.fieldLink "ElasticNetsModel" 200 "ElasticNetsModel" "arcs" "I" ∈ lw_gw := wd_t 741 (by decide +kernel) (by decide +kernel)
theorem w_742 : Cond.fieldLink "ElasticNetsModel" 203 "ElasticNetsModel" "nodes" "I" ∈ lw_gw := wd_t 742 (by decide +kernel) (by decide +kernel)
theorem w_882 : Cond.methodLink "ElasticNetsModel" 206 ⟨"ElasticNetsModel", "arc", "(IIII)V"⟩ ∈ lw_gw := wd_t 882 (by decide +kernel) (by decide +kernel)
theorem w_884 : Cond.instanceMethod ⟨"ElasticNetsModel", "arc", "(IIII)V"⟩ ∈ lw_gw := wd_t 884 (by decide +kernel) (by decide +kernel)
theorem ws_31 : Cond.selects "ElasticNetsModel" ⟨"ElasticNetsModel", "arc", "(IIII)V"⟩ ⟨"ElasticNetsModel", "arc", "(IIII)V"⟩ ∈ lw_gw := wd_s 31 (by decide +kernel) (by decide +kernel)
theorem vl_M_206 : pm_vl "ElasticNetsModel" 206 ⟨"ElasticNetsModel", "arc", "(IIII)V"⟩ := ⟨w_882, w_884, ws_31, w_6⟩
theorem w_887 : Cond.methodLink "ElasticNetsModel" 210 ⟨"ElasticNetsModel", "goFree", "()V"⟩ ∈ lw_gw := wd_t 887 (by decide +kernel) (by decide +kernel)
theorem w_889 : Cond.instanceMethod ⟨"ElasticNetsModel", "goFree", "()V"⟩ ∈ lw_gw := wd_t 889 (by decide +kernel) (by decide +kernel)
theorem ws_32 : Cond.selects "ElasticNetsModel" ⟨"ElasticNetsModel", "goFree", "()V"⟩ ⟨"ElasticNetsModel", "goFree", "()V"⟩ ∈ lw_gw := wd_s 32 (by decide +kernel) (by decide +kernel)
theorem vl_M_210 : pm_vl "ElasticNetsModel" 210 ⟨"ElasticNetsModel", "goFree", "()V"⟩ := ⟨w_887, w_889, ws_32, w_6⟩
theorem w_745 : Cond.fieldLink "ElasticNetsModel" 213 "ElasticNetsModel" "rateTokens" "I" ∈ lw_gw := wd_t 745 (by decide +kernel) (by decide +kernel)
theorem w_746 : Cond.fieldLink "ElasticNetsModel" 216 "ElasticNetsModel" "rateLength" "I" ∈ lw_gw := wd_t 746 (by decide +kernel) (by decide +kernel)
theorem w_878 : Cond.methodLink "ElasticNetsModel" 219 ⟨"ElasticNetsModel", "draw", "()V"⟩ ∈ lw_gw := wd_t 878 (by decide +kernel) (by decide +kernel)
theorem w_880 : Cond.instanceMethod ⟨"ElasticNetsModel", "draw", "()V"⟩ ∈ lw_gw := wd_t 880 (by decide +kernel) (by decide +kernel)
theorem ws_30 : Cond.selects "ElasticNetsModel" ⟨"ElasticNetsModel", "draw", "()V"⟩ ⟨"ElasticNetsModel", "draw", "()V"⟩ ∈ lw_gw := wd_s 30 (by decide +kernel) (by decide +kernel)
theorem vl_M_219 : pm_vl "ElasticNetsModel" 219 ⟨"ElasticNetsModel", "draw", "()V"⟩ := ⟨w_878, w_880, ws_30, w_6⟩
theorem w_891 : Cond.methodLink "ElasticNetsModel" 222 ⟨"ElasticNetsModel", "goOn", "()V"⟩ ∈ lw_gw := wd_t 891 (by decide +kernel) (by decide +kernel)
theorem w_893 : Cond.instanceMethod ⟨"ElasticNetsModel", "goOn", "()V"⟩ ∈ lw_gw := wd_t 893 (by decide +kernel) (by decide +kernel)
theorem ws_33 : Cond.selects "ElasticNetsModel" ⟨"ElasticNetsModel", "goOn", "()V"⟩ ⟨"ElasticNetsModel", "goOn", "()V"⟩ ∈ lw_gw := wd_s 33 (by decide +kernel) (by decide +kernel)
theorem vl_M_222 : pm_vl "ElasticNetsModel" 222 ⟨"ElasticNetsModel", "goOn", "()V"⟩ := ⟨w_891, w_893, ws_33, w_6⟩
theorem w_895 : Cond.methodLink "ElasticNetsModel" 225 ⟨"ElasticNetsModel", "divisor", "(II)I"⟩ ∈ lw_gw := wd_t 895 (by decide +kernel) (by decide +kernel)
theorem w_896 : Cond.static ⟨"ElasticNetsModel", "divisor", "(II)I"⟩ ∈ lw_gw := wd_t 896 (by decide +kernel) (by decide +kernel)
theorem sl_M_225 : pm_sl "ElasticNetsModel" 225 ⟨"ElasticNetsModel", "divisor", "(II)I"⟩ := ⟨w_895, w_896, w_6⟩
theorem w_173 : Cond.methodLink "ElasticNets$Clocked" 3 ⟨"java/lang/Object", "<init>", "()V"⟩ ∈ lw_gw := wd_t 173 (by decide +kernel) (by decide +kernel)
theorem w_177 : Cond.fieldLink "ElasticNets$Clocked" 9 "ElasticNets$Clocked" "cycles" "I" ∈ lw_gw := wd_t 177 (by decide +kernel) (by decide +kernel)
theorem w_178 : Cond.fieldLink "ElasticNets$Clocked" 15 "ElasticNets$Clocked" "seen" "[I" ∈ lw_gw := wd_t 178 (by decide +kernel) (by decide +kernel)
theorem w_179 : Cond.fieldLink "ElasticNets$Clocked" 19 "ElasticNets$Clocked" "made" "[I" ∈ lw_gw := wd_t 179 (by decide +kernel) (by decide +kernel)
theorem w_180 : Cond.fieldLink "ElasticNets$Clocked" 24 "ElasticNets$Clocked" "gave" "[[I" ∈ lw_gw := wd_t 180 (by decide +kernel) (by decide +kernel)
theorem w_175 : Cond.fieldLink "ElasticNets$Clocked" 27 "ElasticNets$Clocked" "design" "LElasticNets$Design;" ∈ lw_gw := wd_t 175 (by decide +kernel) (by decide +kernel)
theorem w_176 : Cond.fieldLink "ElasticNets$Clocked" 31 "ElasticNets$Clocked" "takenValues" "[[I" ∈ lw_gw := wd_t 176 (by decide +kernel) (by decide +kernel)
theorem w_38 : Cond.fieldLink "ElasticNets$Clocked" 34 "ElasticNets$Design" "channels" "I" ∈ lw_gw := wd_t 38 (by decide +kernel) (by decide +kernel)
theorem w_57 : Cond.fieldLink "ElasticNets$Clocked" 39 "ElasticNets$Design" "first" "[I" ∈ lw_gw := wd_t 57 (by decide +kernel) (by decide +kernel)
theorem w_643 : Cond.methodLink "ElasticNets$Clocked" 42 ⟨"ElasticNets$Clocked", "goThrough", "(I)V"⟩ ∈ lw_gw := wd_t 643 (by decide +kernel) (by decide +kernel)
theorem w_645 : Cond.instanceMethod ⟨"ElasticNets$Clocked", "goThrough", "(I)V"⟩ ∈ lw_gw := wd_t 645 (by decide +kernel) (by decide +kernel)
theorem ws_19 : Cond.selects "ElasticNets$Clocked" ⟨"ElasticNets$Clocked", "goThrough", "(I)V"⟩ ⟨"ElasticNets$Clocked", "goThrough", "(I)V"⟩ ∈ lw_gw := wd_s 19 (by decide +kernel) (by decide +kernel)
theorem vl_C_42 : pm_vl "ElasticNets$Clocked" 42 ⟨"ElasticNets$Clocked", "goThrough", "(I)V"⟩ := ⟨w_643, w_645, ws_19, w_4⟩
theorem w_648 : Cond.methodLink "ElasticNets$Clocked" 46 ⟨"java/lang/Math", "max", "(II)I"⟩ ∈ lw_gw := wd_t 648 (by decide +kernel) (by decide +kernel)
theorem w_43 : Cond.fieldLink "ElasticNets$Clocked" 52 "ElasticNets$Design" "inputs" "I" ∈ lw_gw := wd_t 43 (by decide +kernel) (by decide +kernel)
theorem w_35 : Cond.fieldLink "ElasticNets$Clocked" 55 "ElasticNets$Design" "blocks" "I" ∈ lw_gw := wd_t 35 (by decide +kernel) (by decide +kernel)
theorem w_647 : Cond.methodLink "ElasticNets$Clocked" 58 ⟨"ElasticNets$Design", "makes", "(I[I)I"⟩ ∈ lw_gw := wd_t 647 (by decide +kernel) (by decide +kernel)
theorem w_528 : Cond.instanceMethod ⟨"ElasticNets$Design", "makes", "(I[I)I"⟩ ∈ lw_gw := wd_t 528 (by decide +kernel) (by decide +kernel)
theorem w_529 : Cond.selects "ElasticNets$Design" ⟨"ElasticNets$Design", "makes", "(I[I)I"⟩ ⟨"ElasticNets$Design", "makes", "(I[I)I"⟩ ∈ lw_gw := wd_t 529 (by decide +kernel) (by decide +kernel)
theorem vl_C_58 : pm_vl "ElasticNets$Clocked" 58 ⟨"ElasticNets$Design", "makes", "(I[I)I"⟩ := ⟨w_647, w_528, w_529, w_2⟩
theorem w_52 : Cond.fieldLink "ElasticNets$Clocked" 62 "ElasticNets$Design" "from" "[I" ∈ lw_gw := wd_t 52 (by decide +kernel) (by decide +kernel)
theorem w_47 : Cond.fieldLink "ElasticNets$Clocked" 65 "ElasticNets$Design" "outputs" "I" ∈ lw_gw := wd_t 47 (by decide +kernel) (by decide +kernel)
theorem w_63 : Cond.fieldLink "ElasticNets$Clocked" 68 "ElasticNets$Design" "outputFrom" "[I" ∈ lw_gw := wd_t 63 (by decide +kernel) (by decide +kernel)
theorem w_29 : Cond.methodLink "ElasticNets$Design" 3 ⟨"java/lang/Object", "<init>", "()V"⟩ ∈ lw_gw := wd_t 29 (by decide +kernel) (by decide +kernel)
theorem w_32 : Cond.fieldLink "ElasticNets$Design" 9 "ElasticNets$Design" "blocks" "I" ∈ lw_gw := wd_t 32 (by decide +kernel) (by decide +kernel)
theorem w_37 : Cond.fieldLink "ElasticNets$Design" 15 "ElasticNets$Design" "channels" "I" ∈ lw_gw := wd_t 37 (by decide +kernel) (by decide +kernel)
theorem w_42 : Cond.fieldLink "ElasticNets$Design" 18 "ElasticNets$Design" "inputs" "I" ∈ lw_gw := wd_t 42 (by decide +kernel) (by decide +kernel)
theorem w_46 : Cond.fieldLink "ElasticNets$Design" 21 "ElasticNets$Design" "outputs" "I" ∈ lw_gw := wd_t 46 (by decide +kernel) (by decide +kernel)
theorem w_49 : Cond.fieldLink "ElasticNets$Design" 24 "ElasticNets$Design" "operation" "[I" ∈ lw_gw := wd_t 49 (by decide +kernel) (by decide +kernel)
theorem w_50 : Cond.fieldLink "ElasticNets$Design" 28 "ElasticNets$Design" "constant" "[I" ∈ lw_gw := wd_t 50 (by decide +kernel) (by decide +kernel)
theorem w_51 : Cond.fieldLink "ElasticNets$Design" 31 "ElasticNets$Design" "from" "[I" ∈ lw_gw := wd_t 51 (by decide +kernel) (by decide +kernel)
theorem w_54 : Cond.fieldLink "ElasticNets$Design" 34 "ElasticNets$Design" "to" "[I" ∈ lw_gw := wd_t 54 (by decide +kernel) (by decide +kernel)
theorem w_56 : Cond.fieldLink "ElasticNets$Design" 37 "ElasticNets$Design" "first" "[I" ∈ lw_gw := wd_t 56 (by decide +kernel) (by decide +kernel)
theorem w_59 : Cond.fieldLink "ElasticNets$Design" 40 "ElasticNets$Design" "behind" "[I" ∈ lw_gw := wd_t 59 (by decide +kernel) (by decide +kernel)
theorem w_62 : Cond.fieldLink "ElasticNets$Design" 43 "ElasticNets$Design" "outputFrom" "[I" ∈ lw_gw := wd_t 62 (by decide +kernel) (by decide +kernel)
theorem w_64 : Cond.fieldLink "ElasticNets$Design" 48 "ElasticNets$Design" "ins" "[[I" ∈ lw_gw := wd_t 64 (by decide +kernel) (by decide +kernel)
theorem w_66 : Cond.fieldLink "ElasticNets$Design" 51 "ElasticNets$Design" "inCount" "[I" ∈ lw_gw := wd_t 66 (by decide +kernel) (by decide +kernel)
theorem w_68 : Cond.fieldLink "ElasticNets$Design" 54 "ElasticNets$Design" "branches" "[[I" ∈ lw_gw := wd_t 68 (by decide +kernel) (by decide +kernel)
theorem w_70 : Cond.fieldLink "ElasticNets$Design" 57 "ElasticNets$Design" "branchCount" "[I" ∈ lw_gw := wd_t 70 (by decide +kernel) (by decide +kernel)
theorem w_379 : Cond.methodLink "ElasticNets$Design" 60 ⟨"ElasticNets$Design", "linkOut", "(II)V"⟩ ∈ lw_gw := wd_t 379 (by decide +kernel) (by decide +kernel)
theorem w_381 : Cond.instanceMethod ⟨"ElasticNets$Design", "linkOut", "(II)V"⟩ ∈ lw_gw := wd_t 381 (by decide +kernel) (by decide +kernel)
theorem ws_2 : Cond.selects "ElasticNets$Design" ⟨"ElasticNets$Design", "linkOut", "(II)V"⟩ ⟨"ElasticNets$Design", "linkOut", "(II)V"⟩ ∈ lw_gw := wd_s 2 (by decide +kernel) (by decide +kernel)
theorem vl_D_60 : pm_vl "ElasticNets$Design" 60 ⟨"ElasticNets$Design", "linkOut", "(II)V"⟩ := ⟨w_379, w_381, ws_2, w_2⟩
theorem w_383 : Cond.methodLink "ElasticNets$Design" 64 ⟨"ElasticNets$Design", "linkIn", "(II)V"⟩ ∈ lw_gw := wd_t 383 (by decide +kernel) (by decide +kernel)
theorem w_385 : Cond.instanceMethod ⟨"ElasticNets$Design", "linkIn", "(II)V"⟩ ∈ lw_gw := wd_t 385 (by decide +kernel) (by decide +kernel)
theorem ws_3 : Cond.selects "ElasticNets$Design" ⟨"ElasticNets$Design", "linkIn", "(II)V"⟩ ⟨"ElasticNets$Design", "linkIn", "(II)V"⟩ ∈ lw_gw := wd_s 3 (by decide +kernel) (by decide +kernel)
theorem vl_D_64 : pm_vl "ElasticNets$Design" 64 ⟨"ElasticNets$Design", "linkIn", "(II)V"⟩ := ⟨w_383, w_385, ws_3, w_2⟩
theorem w_531 : Cond.methodLink "ElasticNets$Design" 67 ⟨"ElasticNets$Design", "joined", "(III)I"⟩ ∈ lw_gw := wd_t 531 (by decide +kernel) (by decide +kernel)
theorem w_532 : Cond.static ⟨"ElasticNets$Design", "joined", "(III)I"⟩ ∈ lw_gw := wd_t 532 (by decide +kernel) (by decide +kernel)
theorem sl_D_67 : pm_sl "ElasticNets$Design" 67 ⟨"ElasticNets$Design", "joined", "(III)I"⟩ := ⟨w_531, w_532, w_2⟩
theorem w_534 : Cond.methodLink "ElasticNets$Design" 71 ⟨"java/lang/Math", "max", "(II)I"⟩ ∈ lw_gw := wd_t 534 (by decide +kernel) (by decide +kernel)
theorem w_199 : Cond.methodLink "ElasticNets$Pace" 5 ⟨"java/lang/Object", "<init>", "()V"⟩ ∈ lw_gw := wd_t 199 (by decide +kernel) (by decide +kernel)
theorem w_201 : Cond.fieldLink "ElasticNets$Pace" 11 "ElasticNets$Pace" "known" "Z" ∈ lw_gw := wd_t 201 (by decide +kernel) (by decide +kernel)
theorem w_202 : Cond.fieldLink "ElasticNets$Pace" 15 "ElasticNets$Pace" "tokens" "I" ∈ lw_gw := wd_t 202 (by decide +kernel) (by decide +kernel)
theorem w_204 : Cond.fieldLink "ElasticNets$Pace" 19 "ElasticNets$Pace" "length" "I" ∈ lw_gw := wd_t 204 (by decide +kernel) (by decide +kernel)
theorem w_206 : Cond.fieldLink "ElasticNets$Pace" 22 "ElasticNets$Pace" "nodes" "I" ∈ lw_gw := wd_t 206 (by decide +kernel) (by decide +kernel)
theorem w_207 : Cond.fieldLink "ElasticNets$Pace" 25 "ElasticNets$Pace" "arcs" "I" ∈ lw_gw := wd_t 207 (by decide +kernel) (by decide +kernel)
theorem w_208 : Cond.fieldLink "ElasticNets$Pace" 28 "ElasticNets$Pace" "arcFrom" "[I" ∈ lw_gw := wd_t 208 (by decide +kernel) (by decide +kernel)
theorem w_209 : Cond.fieldLink "ElasticNets$Pace" 32 "ElasticNets$Pace" "arcTo" "[I" ∈ lw_gw := wd_t 209 (by decide +kernel) (by decide +kernel)
theorem w_210 : Cond.fieldLink "ElasticNets$Pace" 35 "ElasticNets$Pace" "arcTokens" "[I" ∈ lw_gw := wd_t 210 (by decide +kernel) (by decide +kernel)
theorem w_211 : Cond.fieldLink "ElasticNets$Pace" 38 "ElasticNets$Pace" "arcLength" "[I" ∈ lw_gw := wd_t 211 (by decide +kernel) (by decide +kernel)
theorem w_212 : Cond.fieldLink "ElasticNets$Pace" 41 "ElasticNets$Pace" "distance" "[I" ∈ lw_gw := wd_t 212 (by decide +kernel) (by decide +kernel)
theorem w_213 : Cond.fieldLink "ElasticNets$Pace" 44 "ElasticNets$Pace" "arcInto" "[I" ∈ lw_gw := wd_t 213 (by decide +kernel) (by decide +kernel)
theorem w_200 : Cond.fieldLink "ElasticNets$Pace" 47 "ElasticNets$Pace" "design" "LElasticNets$Design;" ∈ lw_gw := wd_t 200 (by decide +kernel) (by decide +kernel)
theorem w_660 : Cond.methodLink "ElasticNets$Pace" 51 ⟨"ElasticNets$Pace", "drawGraph", "()V"⟩ ∈ lw_gw := wd_t 660 (by decide +kernel) (by decide +kernel)
theorem w_662 : Cond.instanceMethod ⟨"ElasticNets$Pace", "drawGraph", "()V"⟩ ∈ lw_gw := wd_t 662 (by decide +kernel) (by decide +kernel)
theorem ws_20 : Cond.selects "ElasticNets$Pace" ⟨"ElasticNets$Pace", "drawGraph", "()V"⟩ ⟨"ElasticNets$Pace", "drawGraph", "()V"⟩ ∈ lw_gw := wd_s 20 (by decide +kernel) (by decide +kernel)
theorem vl_A_51 : pm_vl "ElasticNets$Pace" 51 ⟨"ElasticNets$Pace", "drawGraph", "()V"⟩ := ⟨w_660, w_662, ws_20, w_5⟩
theorem w_673 : Cond.constant "ElasticNets$Pace" 54 1000000 ∈ lw_gw := wd_t 673 (by decide +kernel) (by decide +kernel)
theorem w_674 : Cond.methodLink "ElasticNets$Pace" 55 ⟨"ElasticNets$Pace", "onLowerCycle", "()I"⟩ ∈ lw_gw := wd_t 674 (by decide +kernel) (by decide +kernel)
theorem w_676 : Cond.instanceMethod ⟨"ElasticNets$Pace", "onLowerCycle", "()I"⟩ ∈ lw_gw := wd_t 676 (by decide +kernel) (by decide +kernel)
theorem ws_23 : Cond.selects "ElasticNets$Pace" ⟨"ElasticNets$Pace", "onLowerCycle", "()I"⟩ ⟨"ElasticNets$Pace", "onLowerCycle", "()I"⟩ ∈ lw_gw := wd_s 23 (by decide +kernel) (by decide +kernel)
theorem vl_A_55 : pm_vl "ElasticNets$Pace" 55 ⟨"ElasticNets$Pace", "onLowerCycle", "()I"⟩ := ⟨w_674, w_676, ws_23, w_5⟩
theorem w_687 : Cond.methodLink "ElasticNets$Pace" 59 ⟨"ElasticNets$Pace", "takeRatio", "(I)V"⟩ ∈ lw_gw := wd_t 687 (by decide +kernel) (by decide +kernel)
theorem w_689 : Cond.instanceMethod ⟨"ElasticNets$Pace", "takeRatio", "(I)V"⟩ ∈ lw_gw := wd_t 689 (by decide +kernel) (by decide +kernel)
theorem ws_26 : Cond.selects "ElasticNets$Pace" ⟨"ElasticNets$Pace", "takeRatio", "(I)V"⟩ ⟨"ElasticNets$Pace", "takeRatio", "(I)V"⟩ ∈ lw_gw := wd_s 26 (by decide +kernel) (by decide +kernel)
theorem vl_A_59 : pm_vl "ElasticNets$Pace" 59 ⟨"ElasticNets$Pace", "takeRatio", "(I)V"⟩ := ⟨w_687, w_689, ws_26, w_5⟩
theorem w_34 : Cond.fieldLink "ElasticNets$Pace" 63 "ElasticNets$Design" "blocks" "I" ∈ lw_gw := wd_t 34 (by decide +kernel) (by decide +kernel)
theorem w_664 : Cond.methodLink "ElasticNets$Pace" 68 ⟨"ElasticNets$Design", "countBuffers", "()I"⟩ ∈ lw_gw := wd_t 664 (by decide +kernel) (by decide +kernel)
theorem vl_A_68 : pm_vl "ElasticNets$Pace" 68 ⟨"ElasticNets$Design", "countBuffers", "()I"⟩ := ⟨w_664, w_447, w_448, w_2⟩
theorem w_665 : Cond.methodLink "ElasticNets$Pace" 71 ⟨"ElasticNets$Pace", "addArc", "(IIII)V"⟩ ∈ lw_gw := wd_t 665 (by decide +kernel) (by decide +kernel)
theorem w_667 : Cond.instanceMethod ⟨"ElasticNets$Pace", "addArc", "(IIII)V"⟩ ∈ lw_gw := wd_t 667 (by decide +kernel) (by decide +kernel)
theorem ws_21 : Cond.selects "ElasticNets$Pace" ⟨"ElasticNets$Pace", "addArc", "(IIII)V"⟩ ⟨"ElasticNets$Pace", "addArc", "(IIII)V"⟩ ∈ lw_gw := wd_s 21 (by decide +kernel) (by decide +kernel)
theorem vl_A_71 : pm_vl "ElasticNets$Pace" 71 ⟨"ElasticNets$Pace", "addArc", "(IIII)V"⟩ := ⟨w_665, w_667, ws_21, w_5⟩
theorem w_40 : Cond.fieldLink "ElasticNets$Pace" 75 "ElasticNets$Design" "channels" "I" ∈ lw_gw := wd_t 40 (by decide +kernel) (by decide +kernel)
theorem w_669 : Cond.methodLink "ElasticNets$Pace" 78 ⟨"ElasticNets$Pace", "drawChannel", "(I)V"⟩ ∈ lw_gw := wd_t 669 (by decide +kernel) (by decide +kernel)
theorem w_671 : Cond.instanceMethod ⟨"ElasticNets$Pace", "drawChannel", "(I)V"⟩ ∈ lw_gw := wd_t 671 (by decide +kernel) (by decide +kernel)
theorem ws_22 : Cond.selects "ElasticNets$Pace" ⟨"ElasticNets$Pace", "drawChannel", "(I)V"⟩ ⟨"ElasticNets$Pace", "drawChannel", "(I)V"⟩ ∈ lw_gw := wd_s 22 (by decide +kernel) (by decide +kernel)
theorem vl_A_78 : pm_vl "ElasticNets$Pace" 78 ⟨"ElasticNets$Pace", "drawChannel", "(I)V"⟩ := ⟨w_669, w_671, ws_22, w_5⟩
theorem w_53 : Cond.fieldLink "ElasticNets$Pace" 81 "ElasticNets$Design" "from" "[I" ∈ lw_gw := wd_t 53 (by decide +kernel) (by decide +kernel)
theorem w_60 : Cond.fieldLink "ElasticNets$Pace" 84 "ElasticNets$Design" "behind" "[I" ∈ lw_gw := wd_t 60 (by decide +kernel) (by decide +kernel)
theorem w_55 : Cond.fieldLink "ElasticNets$Pace" 87 "ElasticNets$Design" "to" "[I" ∈ lw_gw := wd_t 55 (by decide +kernel) (by decide +kernel)
theorem w_678 : Cond.methodLink "ElasticNets$Pace" 90 ⟨"java/util/Arrays", "fill", "([II)V"⟩ ∈ lw_gw := wd_t 678 (by decide +kernel) (by decide +kernel)
theorem w_436 : Cond.static ⟨"java/util/Arrays", "fill", "([II)V"⟩ ∈ lw_gw := wd_t 436 (by decide +kernel) (by decide +kernel)
theorem w_12 : Cond.initialized "java/util/Arrays" ∈ lw_gw := wd_t 12 (by decide +kernel) (by decide +kernel)
theorem sl_A_90 : pm_sl "ElasticNets$Pace" 90 ⟨"java/util/Arrays", "fill", "([II)V"⟩ := ⟨w_678, w_436, w_12⟩
theorem w_679 : Cond.methodLink "ElasticNets$Pace" 96 ⟨"ElasticNets$Pace", "shrinkAll", "()I"⟩ ∈ lw_gw := wd_t 679 (by decide +kernel) (by decide +kernel)
theorem w_681 : Cond.instanceMethod ⟨"ElasticNets$Pace", "shrinkAll", "()I"⟩ ∈ lw_gw := wd_t 681 (by decide +kernel) (by decide +kernel)
theorem ws_24 : Cond.selects "ElasticNets$Pace" ⟨"ElasticNets$Pace", "shrinkAll", "()I"⟩ ⟨"ElasticNets$Pace", "shrinkAll", "()I"⟩ ∈ lw_gw := wd_s 24 (by decide +kernel) (by decide +kernel)
theorem vl_A_96 : pm_vl "ElasticNets$Pace" 96 ⟨"ElasticNets$Pace", "shrinkAll", "()I"⟩ := ⟨w_679, w_681, ws_24, w_5⟩
theorem w_683 : Cond.methodLink "ElasticNets$Pace" 99 ⟨"ElasticNets$Pace", "nodeBefore", "(I)I"⟩ ∈ lw_gw := wd_t 683 (by decide +kernel) (by decide +kernel)
theorem w_685 : Cond.instanceMethod ⟨"ElasticNets$Pace", "nodeBefore", "(I)I"⟩ ∈ lw_gw := wd_t 685 (by decide +kernel) (by decide +kernel)
theorem ws_25 : Cond.selects "ElasticNets$Pace" ⟨"ElasticNets$Pace", "nodeBefore", "(I)I"⟩ ⟨"ElasticNets$Pace", "nodeBefore", "(I)I"⟩ ∈ lw_gw := wd_s 25 (by decide +kernel) (by decide +kernel)
theorem vl_A_99 : pm_vl "ElasticNets$Pace" 99 ⟨"ElasticNets$Pace", "nodeBefore", "(I)I"⟩ := ⟨w_683, w_685, ws_25, w_5⟩
theorem w_691 : Cond.methodLink "ElasticNets$Pace" 103 ⟨"ElasticNets$Pace", "commonDivisor", "(II)I"⟩ ∈ lw_gw := wd_t 691 (by decide +kernel) (by decide +kernel)
theorem w_692 : Cond.static ⟨"ElasticNets$Pace", "commonDivisor", "(II)I"⟩ ∈ lw_gw := wd_t 692 (by decide +kernel) (by decide +kernel)
theorem sl_A_103 : pm_sl "ElasticNets$Pace" 103 ⟨"ElasticNets$Pace", "commonDivisor", "(II)I"⟩ := ⟨w_691, w_692, w_5⟩
theorem w_694 : Cond.methodLink "ElasticNets$Pace" 107 ⟨"java/lang/Math", "min", "(II)I"⟩ ∈ lw_gw := wd_t 694 (by decide +kernel) (by decide +kernel)
theorem w_109 : Cond.methodLink "ElasticNets$Patient" 3 ⟨"java/lang/Object", "<init>", "()V"⟩ ∈ lw_gw := wd_t 109 (by decide +kernel) (by decide +kernel)
theorem w_114 : Cond.fieldLink "ElasticNets$Patient" 9 "ElasticNets$Patient" "ticks" "I" ∈ lw_gw := wd_t 114 (by decide +kernel) (by decide +kernel)
theorem w_116 : Cond.fieldLink "ElasticNets$Patient" 15 "ElasticNets$Patient" "tokens" "[I" ∈ lw_gw := wd_t 116 (by decide +kernel) (by decide +kernel)
theorem w_117 : Cond.fieldLink "ElasticNets$Patient" 19 "ElasticNets$Patient" "count" "[I" ∈ lw_gw := wd_t 117 (by decide +kernel) (by decide +kernel)
theorem w_119 : Cond.fieldLink "ElasticNets$Patient" 22 "ElasticNets$Patient" "before" "[I" ∈ lw_gw := wd_t 119 (by decide +kernel) (by decide +kernel)
theorem w_120 : Cond.fieldLink "ElasticNets$Patient" 25 "ElasticNets$Patient" "seen" "[I" ∈ lw_gw := wd_t 120 (by decide +kernel) (by decide +kernel)
theorem w_121 : Cond.fieldLink "ElasticNets$Patient" 28 "ElasticNets$Patient" "turns" "[I" ∈ lw_gw := wd_t 121 (by decide +kernel) (by decide +kernel)
theorem w_123 : Cond.fieldLink "ElasticNets$Patient" 31 "ElasticNets$Patient" "got" "[I" ∈ lw_gw := wd_t 123 (by decide +kernel) (by decide +kernel)
theorem w_125 : Cond.fieldLink "ElasticNets$Patient" 34 "ElasticNets$Patient" "gets" "[I" ∈ lw_gw := wd_t 125 (by decide +kernel) (by decide +kernel)
theorem w_126 : Cond.fieldLink "ElasticNets$Patient" 37 "ElasticNets$Patient" "waiting" "I" ∈ lw_gw := wd_t 126 (by decide +kernel) (by decide +kernel)
theorem w_127 : Cond.fieldLink "ElasticNets$Patient" 40 "ElasticNets$Patient" "waitingValues" "[I" ∈ lw_gw := wd_t 127 (by decide +kernel) (by decide +kernel)
theorem w_128 : Cond.fieldLink "ElasticNets$Patient" 43 "ElasticNets$Patient" "takenCount" "[I" ∈ lw_gw := wd_t 128 (by decide +kernel) (by decide +kernel)
theorem w_131 : Cond.fieldLink "ElasticNets$Patient" 48 "ElasticNets$Patient" "takenValues" "[[I" ∈ lw_gw := wd_t 131 (by decide +kernel) (by decide +kernel)
theorem w_132 : Cond.fieldLink "ElasticNets$Patient" 51 "ElasticNets$Patient" "givenCount" "[I" ∈ lw_gw := wd_t 132 (by decide +kernel) (by decide +kernel)
theorem w_134 : Cond.fieldLink "ElasticNets$Patient" 56 "ElasticNets$Patient" "givenValues" "[[J" ∈ lw_gw := wd_t 134 (by decide +kernel) (by decide +kernel)
theorem w_113 : Cond.fieldLink "ElasticNets$Patient" 59 "ElasticNets$Patient" "design" "LElasticNets$Design;" ∈ lw_gw := wd_t 113 (by decide +kernel) (by decide +kernel)
theorem w_435 : Cond.methodLink "ElasticNets$Patient" 63 ⟨"java/util/Arrays", "fill", "([II)V"⟩ ∈ lw_gw := wd_t 435 (by decide +kernel) (by decide +kernel)
theorem sl_P_63 : pm_sl "ElasticNets$Patient" 63 ⟨"java/util/Arrays", "fill", "([II)V"⟩ := ⟨w_435, w_436, w_12⟩
theorem w_39 : Cond.fieldLink "ElasticNets$Patient" 69 "ElasticNets$Design" "channels" "I" ∈ lw_gw := wd_t 39 (by decide +kernel) (by decide +kernel)
theorem w_58 : Cond.fieldLink "ElasticNets$Patient" 74 "ElasticNets$Design" "first" "[I" ∈ lw_gw := wd_t 58 (by decide +kernel) (by decide +kernel)
theorem w_438 : Cond.methodLink "ElasticNets$Patient" 77 ⟨"ElasticNets$Patient", "put", "(II)V"⟩ ∈ lw_gw := wd_t 438 (by decide +kernel) (by decide +kernel)
theorem w_440 : Cond.instanceMethod ⟨"ElasticNets$Patient", "put", "(II)V"⟩ ∈ lw_gw := wd_t 440 (by decide +kernel) (by decide +kernel)
theorem ws_5 : Cond.selects "ElasticNets$Patient" ⟨"ElasticNets$Patient", "put", "(II)V"⟩ ⟨"ElasticNets$Patient", "put", "(II)V"⟩ ∈ lw_gw := wd_s 5 (by decide +kernel) (by decide +kernel)
theorem vl_P_77 : pm_vl "ElasticNets$Patient" 77 ⟨"ElasticNets$Patient", "put", "(II)V"⟩ := ⟨w_438, w_440, ws_5, w_3⟩
theorem w_473 : Cond.methodLink "ElasticNets$Patient" 81 ⟨"ElasticNets$Patient", "waitsAt", "(I)Z"⟩ ∈ lw_gw := wd_t 473 (by decide +kernel) (by decide +kernel)
theorem w_475 : Cond.instanceMethod ⟨"ElasticNets$Patient", "waitsAt", "(I)Z"⟩ ∈ lw_gw := wd_t 475 (by decide +kernel) (by decide +kernel)
theorem ws_7 : Cond.selects "ElasticNets$Patient" ⟨"ElasticNets$Patient", "waitsAt", "(I)Z"⟩ ⟨"ElasticNets$Patient", "waitsAt", "(I)Z"⟩ ∈ lw_gw := wd_s 7 (by decide +kernel) (by decide +kernel)
theorem vl_P_81 : pm_vl "ElasticNets$Patient" 81 ⟨"ElasticNets$Patient", "waitsAt", "(I)Z"⟩ := ⟨w_473, w_475, ws_7, w_3⟩
theorem w_44 : Cond.fieldLink "ElasticNets$Patient" 85 "ElasticNets$Design" "inputs" "I" ∈ lw_gw := wd_t 44 (by decide +kernel) (by decide +kernel)
theorem w_637 : Cond.methodLink "ElasticNets$Patient" 88 ⟨"java/lang/Math", "min", "(II)I"⟩ ∈ lw_gw := wd_t 637 (by decide +kernel) (by decide +kernel)
theorem w_488 : Cond.methodLink "ElasticNets$Patient" 94 ⟨"ElasticNets$Patient", "look", "()V"⟩ ∈ lw_gw := wd_t 488 (by decide +kernel) (by decide +kernel)
theorem w_490 : Cond.instanceMethod ⟨"ElasticNets$Patient", "look", "()V"⟩ ∈ lw_gw := wd_t 490 (by decide +kernel) (by decide +kernel)
theorem ws_8 : Cond.selects "ElasticNets$Patient" ⟨"ElasticNets$Patient", "look", "()V"⟩ ⟨"ElasticNets$Patient", "look", "()V"⟩ ∈ lw_gw := wd_s 8 (by decide +kernel) (by decide +kernel)
theorem vl_P_94 : pm_vl "ElasticNets$Patient" 94 ⟨"ElasticNets$Patient", "look", "()V"⟩ := ⟨w_488, w_490, ws_8, w_3⟩
theorem w_36 : Cond.fieldLink "ElasticNets$Patient" 97 "ElasticNets$Design" "blocks" "I" ∈ lw_gw := wd_t 36 (by decide +kernel) (by decide +kernel)
theorem w_499 : Cond.methodLink "ElasticNets$Patient" 100 ⟨"ElasticNets$Patient", "isReady", "(I)Z"⟩ ∈ lw_gw := wd_t 499 (by decide +kernel) (by decide +kernel)
theorem w_501 : Cond.instanceMethod ⟨"ElasticNets$Patient", "isReady", "(I)Z"⟩ ∈ lw_gw := wd_t 501 (by decide +kernel) (by decide +kernel)
theorem ws_9 : Cond.selects "ElasticNets$Patient" ⟨"ElasticNets$Patient", "isReady", "(I)Z"⟩ ⟨"ElasticNets$Patient", "isReady", "(I)Z"⟩ ∈ lw_gw := wd_s 9 (by decide +kernel) (by decide +kernel)
theorem vl_P_100 : pm_vl "ElasticNets$Patient" 100 ⟨"ElasticNets$Patient", "isReady", "(I)Z"⟩ := ⟨w_499, w_501, ws_9, w_3⟩
theorem w_507 : Cond.methodLink "ElasticNets$Patient" 103 ⟨"ElasticNets$Patient", "whichGet", "(II)I"⟩ ∈ lw_gw := wd_t 507 (by decide +kernel) (by decide +kernel)
theorem w_509 : Cond.instanceMethod ⟨"ElasticNets$Patient", "whichGet", "(II)I"⟩ ∈ lw_gw := wd_t 509 (by decide +kernel) (by decide +kernel)
theorem ws_11 : Cond.selects "ElasticNets$Patient" ⟨"ElasticNets$Patient", "whichGet", "(II)I"⟩ ⟨"ElasticNets$Patient", "whichGet", "(II)I"⟩ ∈ lw_gw := wd_s 11 (by decide +kernel) (by decide +kernel)
theorem vl_P_103 : pm_vl "ElasticNets$Patient" 103 ⟨"ElasticNets$Patient", "whichGet", "(II)I"⟩ := ⟨w_507, w_509, ws_11, w_3⟩
theorem w_515 : Cond.methodLink "ElasticNets$Patient" 106 ⟨"ElasticNets$Patient", "moveOn", "(I)V"⟩ ∈ lw_gw := wd_t 515 (by decide +kernel) (by decide +kernel)
theorem w_517 : Cond.instanceMethod ⟨"ElasticNets$Patient", "moveOn", "(I)V"⟩ ∈ lw_gw := wd_t 517 (by decide +kernel) (by decide +kernel)
theorem ws_13 : Cond.selects "ElasticNets$Patient" ⟨"ElasticNets$Patient", "moveOn", "(I)V"⟩ ⟨"ElasticNets$Patient", "moveOn", "(I)V"⟩ ∈ lw_gw := wd_s 13 (by decide +kernel) (by decide +kernel)
theorem vl_P_106 : pm_vl "ElasticNets$Patient" 106 ⟨"ElasticNets$Patient", "moveOn", "(I)V"⟩ := ⟨w_515, w_517, ws_13, w_3⟩
theorem w_523 : Cond.methodLink "ElasticNets$Patient" 110 ⟨"ElasticNets$Patient", "act", "(I)I"⟩ ∈ lw_gw := wd_t 523 (by decide +kernel) (by decide +kernel)
theorem w_525 : Cond.instanceMethod ⟨"ElasticNets$Patient", "act", "(I)I"⟩ ∈ lw_gw := wd_t 525 (by decide +kernel) (by decide +kernel)
theorem ws_15 : Cond.selects "ElasticNets$Patient" ⟨"ElasticNets$Patient", "act", "(I)I"⟩ ⟨"ElasticNets$Patient", "act", "(I)I"⟩ ∈ lw_gw := wd_s 15 (by decide +kernel) (by decide +kernel)
theorem vl_P_110 : pm_vl "ElasticNets$Patient" 110 ⟨"ElasticNets$Patient", "act", "(I)I"⟩ := ⟨w_523, w_525, ws_15, w_3⟩
theorem w_492 : Cond.methodLink "ElasticNets$Patient" 114 ⟨"java/lang/System", "arraycopy", "(Ljava/lang/Object;ILjava/lang/Object;II)V"⟩ ∈ lw_gw := wd_t 492 (by decide +kernel) (by decide +kernel)
theorem w_495 : Cond.methodLink "ElasticNets$Patient" 120 ⟨"ElasticNets$Design", "lastBuffer", "(I)I"⟩ ∈ lw_gw := wd_t 495 (by decide +kernel) (by decide +kernel)
theorem w_496 : Cond.instanceMethod ⟨"ElasticNets$Design", "lastBuffer", "(I)I"⟩ ∈ lw_gw := wd_t 496 (by decide +kernel) (by decide +kernel)
theorem w_497 : Cond.selects "ElasticNets$Design" ⟨"ElasticNets$Design", "lastBuffer", "(I)I"⟩ ⟨"ElasticNets$Design", "lastBuffer", "(I)I"⟩ ∈ lw_gw := wd_t 497 (by decide +kernel) (by decide +kernel)
theorem vl_P_120 : pm_vl "ElasticNets$Patient" 120 ⟨"ElasticNets$Design", "lastBuffer", "(I)I"⟩ := ⟨w_495, w_496, w_497, w_2⟩
theorem w_67 : Cond.fieldLink "ElasticNets$Patient" 123 "ElasticNets$Design" "inCount" "[I" ∈ lw_gw := wd_t 67 (by decide +kernel) (by decide +kernel)
theorem w_65 : Cond.fieldLink "ElasticNets$Patient" 126 "ElasticNets$Design" "ins" "[[I" ∈ lw_gw := wd_t 65 (by decide +kernel) (by decide +kernel)
theorem w_503 : Cond.methodLink "ElasticNets$Patient" 129 ⟨"ElasticNets$Patient", "isThere", "(I)Z"⟩ ∈ lw_gw := wd_t 503 (by decide +kernel) (by decide +kernel)
theorem w_505 : Cond.instanceMethod ⟨"ElasticNets$Patient", "isThere", "(I)Z"⟩ ∈ lw_gw := wd_t 505 (by decide +kernel) (by decide +kernel)
theorem ws_10 : Cond.selects "ElasticNets$Patient" ⟨"ElasticNets$Patient", "isThere", "(I)Z"⟩ ⟨"ElasticNets$Patient", "isThere", "(I)Z"⟩ ∈ lw_gw := wd_s 10 (by decide +kernel) (by decide +kernel)
theorem vl_P_129 : pm_vl "ElasticNets$Patient" 129 ⟨"ElasticNets$Patient", "isThere", "(I)Z"⟩ := ⟨w_503, w_505, ws_10, w_3⟩
theorem w_71 : Cond.fieldLink "ElasticNets$Patient" 132 "ElasticNets$Design" "branchCount" "[I" ∈ lw_gw := wd_t 71 (by decide +kernel) (by decide +kernel)
theorem w_69 : Cond.fieldLink "ElasticNets$Patient" 135 "ElasticNets$Design" "branches" "[[I" ∈ lw_gw := wd_t 69 (by decide +kernel) (by decide +kernel)
theorem w_511 : Cond.methodLink "ElasticNets$Patient" 138 ⟨"ElasticNets$Patient", "canGet", "(II)Z"⟩ ∈ lw_gw := wd_t 511 (by decide +kernel) (by decide +kernel)
theorem w_513 : Cond.instanceMethod ⟨"ElasticNets$Patient", "canGet", "(II)Z"⟩ ∈ lw_gw := wd_t 513 (by decide +kernel) (by decide +kernel)
theorem ws_12 : Cond.selects "ElasticNets$Patient" ⟨"ElasticNets$Patient", "canGet", "(II)Z"⟩ ⟨"ElasticNets$Patient", "canGet", "(II)Z"⟩ ∈ lw_gw := wd_s 12 (by decide +kernel) (by decide +kernel)
theorem vl_P_138 : pm_vl "ElasticNets$Patient" 138 ⟨"ElasticNets$Patient", "canGet", "(II)Z"⟩ := ⟨w_511, w_513, ws_12, w_3⟩
theorem w_519 : Cond.methodLink "ElasticNets$Patient" 142 ⟨"ElasticNets$Patient", "drop", "(I)V"⟩ ∈ lw_gw := wd_t 519 (by decide +kernel) (by decide +kernel)
theorem w_521 : Cond.instanceMethod ⟨"ElasticNets$Patient", "drop", "(I)V"⟩ ∈ lw_gw := wd_t 521 (by decide +kernel) (by decide +kernel)
theorem ws_14 : Cond.selects "ElasticNets$Patient" ⟨"ElasticNets$Patient", "drop", "(I)V"⟩ ⟨"ElasticNets$Patient", "drop", "(I)V"⟩ ∈ lw_gw := wd_s 14 (by decide +kernel) (by decide +kernel)
theorem vl_P_142 : pm_vl "ElasticNets$Patient" 142 ⟨"ElasticNets$Patient", "drop", "(I)V"⟩ := ⟨w_519, w_521, ws_14, w_3⟩
theorem w_527 : Cond.methodLink "ElasticNets$Patient" 145 ⟨"ElasticNets$Design", "makes", "(I[I)I"⟩ ∈ lw_gw := wd_t 527 (by decide +kernel) (by decide +kernel)
theorem vl_P_145 : pm_vl "ElasticNets$Patient" 145 ⟨"ElasticNets$Design", "makes", "(I[I)I"⟩ := ⟨w_527, w_528, w_529, w_2⟩
theorem w_537 : Cond.methodLink "ElasticNets$Patient" 149 ⟨"ElasticNets$Patient", "give", "(II)I"⟩ ∈ lw_gw := wd_t 537 (by decide +kernel) (by decide +kernel)
theorem w_539 : Cond.instanceMethod ⟨"ElasticNets$Patient", "give", "(II)I"⟩ ∈ lw_gw := wd_t 539 (by decide +kernel) (by decide +kernel)
theorem ws_16 : Cond.selects "ElasticNets$Patient" ⟨"ElasticNets$Patient", "give", "(II)I"⟩ ⟨"ElasticNets$Patient", "give", "(II)I"⟩ ∈ lw_gw := wd_s 16 (by decide +kernel) (by decide +kernel)
theorem vl_P_149 : pm_vl "ElasticNets$Patient" 149 ⟨"ElasticNets$Patient", "give", "(II)I"⟩ := ⟨w_537, w_539, ws_16, w_3⟩
theorem w_542 : Cond.methodLink "ElasticNets$Patient" 152 ⟨"ElasticNets$Patient", "endTurn", "(I)I"⟩ ∈ lw_gw := wd_t 542 (by decide +kernel) (by decide +kernel)
theorem w_544 : Cond.instanceMethod ⟨"ElasticNets$Patient", "endTurn", "(I)I"⟩ ∈ lw_gw := wd_t 544 (by decide +kernel) (by decide +kernel)
theorem ws_17 : Cond.selects "ElasticNets$Patient" ⟨"ElasticNets$Patient", "endTurn", "(I)I"⟩ ⟨"ElasticNets$Patient", "endTurn", "(I)I"⟩ ∈ lw_gw := wd_s 17 (by decide +kernel) (by decide +kernel)
theorem vl_P_152 : pm_vl "ElasticNets$Patient" 152 ⟨"ElasticNets$Patient", "endTurn", "(I)I"⟩ := ⟨w_542, w_544, ws_17, w_3⟩
theorem w_541 : Cond.constantLong "ElasticNets$Patient" 155 (4294967295 : Int64) ∈ lw_gw := wd_t 541 (by decide +kernel) (by decide +kernel)
theorem w_546 : Cond.methodLink "ElasticNets$Patient" 157 ⟨"ElasticNets$Patient", "take", "(I)I"⟩ ∈ lw_gw := wd_t 546 (by decide +kernel) (by decide +kernel)
theorem w_548 : Cond.instanceMethod ⟨"ElasticNets$Patient", "take", "(I)I"⟩ ∈ lw_gw := wd_t 548 (by decide +kernel) (by decide +kernel)
theorem ws_18 : Cond.selects "ElasticNets$Patient" ⟨"ElasticNets$Patient", "take", "(I)I"⟩ ⟨"ElasticNets$Patient", "take", "(I)I"⟩ ∈ lw_gw := wd_s 18 (by decide +kernel) (by decide +kernel)
theorem vl_P_157 : pm_vl "ElasticNets$Patient" 157 ⟨"ElasticNets$Patient", "take", "(I)I"⟩ := ⟨w_546, w_548, ws_18, w_3⟩
theorem w_268 : Cond.methodLink "ElasticNetsLaw" 7 ⟨"ElasticNets", "block", "(II)I"⟩ ∈ lw_gw := wd_t 268 (by decide +kernel) (by decide +kernel)
theorem w_269 : Cond.instanceMethod ⟨"ElasticNets", "block", "(II)I"⟩ ∈ lw_gw := wd_t 269 (by decide +kernel) (by decide +kernel)
theorem w_270 : Cond.selects "ElasticNets" ⟨"ElasticNets", "block", "(II)I"⟩ ⟨"ElasticNets", "block", "(II)I"⟩ ∈ lw_gw := wd_t 270 (by decide +kernel) (by decide +kernel)
theorem vl_L_7 : pm_vl "ElasticNetsLaw" 7 ⟨"ElasticNets", "block", "(II)I"⟩ := ⟨w_268, w_269, w_270, w_1⟩
theorem w_367 : Cond.methodLink "ElasticNetsLaw" 17 ⟨"ElasticNets", "channel", "(III)I"⟩ ∈ lw_gw := wd_t 367 (by decide +kernel) (by decide +kernel)
theorem w_368 : Cond.instanceMethod ⟨"ElasticNets", "channel", "(III)I"⟩ ∈ lw_gw := wd_t 368 (by decide +kernel) (by decide +kernel)
theorem w_369 : Cond.selects "ElasticNets" ⟨"ElasticNets", "channel", "(III)I"⟩ ⟨"ElasticNets", "channel", "(III)I"⟩ ∈ lw_gw := wd_t 369 (by decide +kernel) (by decide +kernel)
theorem vl_L_17 : pm_vl "ElasticNetsLaw" 17 ⟨"ElasticNets", "channel", "(III)I"⟩ := ⟨w_367, w_368, w_369, w_1⟩
theorem w_390 : Cond.methodLink "ElasticNetsLaw" 21 ⟨"ElasticNets", "input", "(I)I"⟩ ∈ lw_gw := wd_t 390 (by decide +kernel) (by decide +kernel)
theorem w_391 : Cond.instanceMethod ⟨"ElasticNets", "input", "(I)I"⟩ ∈ lw_gw := wd_t 391 (by decide +kernel) (by decide +kernel)
theorem w_392 : Cond.selects "ElasticNets" ⟨"ElasticNets", "input", "(I)I"⟩ ⟨"ElasticNets", "input", "(I)I"⟩ ∈ lw_gw := wd_t 392 (by decide +kernel) (by decide +kernel)
theorem vl_L_21 : pm_vl "ElasticNetsLaw" 21 ⟨"ElasticNets", "input", "(I)I"⟩ := ⟨w_390, w_391, w_392, w_1⟩
theorem w_401 : Cond.methodLink "ElasticNetsLaw" 25 ⟨"ElasticNets", "output", "(I)I"⟩ ∈ lw_gw := wd_t 401 (by decide +kernel) (by decide +kernel)
theorem w_402 : Cond.instanceMethod ⟨"ElasticNets", "output", "(I)I"⟩ ∈ lw_gw := wd_t 402 (by decide +kernel) (by decide +kernel)
theorem w_403 : Cond.selects "ElasticNets" ⟨"ElasticNets", "output", "(I)I"⟩ ⟨"ElasticNets", "output", "(I)I"⟩ ∈ lw_gw := wd_t 403 (by decide +kernel) (by decide +kernel)
theorem vl_L_25 : pm_vl "ElasticNetsLaw" 25 ⟨"ElasticNets", "output", "(I)I"⟩ := ⟨w_401, w_402, w_403, w_1⟩
theorem w_412 : Cond.methodLink "ElasticNetsLaw" 28 ⟨"ElasticNets", "buffers", "(II)I"⟩ ∈ lw_gw := wd_t 412 (by decide +kernel) (by decide +kernel)
theorem w_413 : Cond.instanceMethod ⟨"ElasticNets", "buffers", "(II)I"⟩ ∈ lw_gw := wd_t 413 (by decide +kernel) (by decide +kernel)
theorem w_414 : Cond.selects "ElasticNets" ⟨"ElasticNets", "buffers", "(II)I"⟩ ⟨"ElasticNets", "buffers", "(II)I"⟩ ∈ lw_gw := wd_t 414 (by decide +kernel) (by decide +kernel)
theorem vl_L_28 : pm_vl "ElasticNetsLaw" 28 ⟨"ElasticNets", "buffers", "(II)I"⟩ := ⟨w_412, w_413, w_414, w_1⟩
theorem w_419 : Cond.methodLink "ElasticNetsLaw" 31 ⟨"ElasticNets", "build", "()I"⟩ ∈ lw_gw := wd_t 419 (by decide +kernel) (by decide +kernel)
theorem w_420 : Cond.instanceMethod ⟨"ElasticNets", "build", "()I"⟩ ∈ lw_gw := wd_t 420 (by decide +kernel) (by decide +kernel)
theorem w_421 : Cond.selects "ElasticNets" ⟨"ElasticNets", "build", "()I"⟩ ⟨"ElasticNets", "build", "()I"⟩ ∈ lw_gw := wd_t 421 (by decide +kernel) (by decide +kernel)
theorem vl_L_31 : pm_vl "ElasticNetsLaw" 31 ⟨"ElasticNets", "build", "()I"⟩ := ⟨w_419, w_420, w_421, w_1⟩
theorem w_453 : Cond.methodLink "ElasticNetsLaw" 35 ⟨"ElasticNets", "restart", "()V"⟩ ∈ lw_gw := wd_t 453 (by decide +kernel) (by decide +kernel)
theorem w_454 : Cond.instanceMethod ⟨"ElasticNets", "restart", "()V"⟩ ∈ lw_gw := wd_t 454 (by decide +kernel) (by decide +kernel)
theorem w_455 : Cond.selects "ElasticNets" ⟨"ElasticNets", "restart", "()V"⟩ ⟨"ElasticNets", "restart", "()V"⟩ ∈ lw_gw := wd_t 455 (by decide +kernel) (by decide +kernel)
theorem vl_L_35 : pm_vl "ElasticNetsLaw" 35 ⟨"ElasticNets", "restart", "()V"⟩ := ⟨w_453, w_454, w_455, w_1⟩
theorem w_465 : Cond.methodLink "ElasticNetsLaw" 38 ⟨"ElasticNets", "offer", "(II)Z"⟩ ∈ lw_gw := wd_t 465 (by decide +kernel) (by decide +kernel)
theorem w_466 : Cond.instanceMethod ⟨"ElasticNets", "offer", "(II)Z"⟩ ∈ lw_gw := wd_t 466 (by decide +kernel) (by decide +kernel)
theorem w_467 : Cond.selects "ElasticNets" ⟨"ElasticNets", "offer", "(II)Z"⟩ ⟨"ElasticNets", "offer", "(II)Z"⟩ ∈ lw_gw := wd_t 467 (by decide +kernel) (by decide +kernel)
theorem vl_L_38 : pm_vl "ElasticNetsLaw" 38 ⟨"ElasticNets", "offer", "(II)Z"⟩ := ⟨w_465, w_466, w_467, w_1⟩
theorem w_480 : Cond.methodLink "ElasticNetsLaw" 42 ⟨"ElasticNets", "tick", "(I)I"⟩ ∈ lw_gw := wd_t 480 (by decide +kernel) (by decide +kernel)
theorem w_481 : Cond.instanceMethod ⟨"ElasticNets", "tick", "(I)I"⟩ ∈ lw_gw := wd_t 481 (by decide +kernel) (by decide +kernel)
theorem w_482 : Cond.selects "ElasticNets" ⟨"ElasticNets", "tick", "(I)I"⟩ ⟨"ElasticNets", "tick", "(I)I"⟩ ∈ lw_gw := wd_t 482 (by decide +kernel) (by decide +kernel)
theorem vl_L_42 : pm_vl "ElasticNetsLaw" 42 ⟨"ElasticNets", "tick", "(I)I"⟩ := ⟨w_480, w_481, w_482, w_1⟩
theorem w_553 : Cond.methodLink "ElasticNetsLaw" 45 ⟨"ElasticNets", "run", "(II)I"⟩ ∈ lw_gw := wd_t 553 (by decide +kernel) (by decide +kernel)
theorem w_554 : Cond.instanceMethod ⟨"ElasticNets", "run", "(II)I"⟩ ∈ lw_gw := wd_t 554 (by decide +kernel) (by decide +kernel)
theorem w_555 : Cond.selects "ElasticNets" ⟨"ElasticNets", "run", "(II)I"⟩ ⟨"ElasticNets", "run", "(II)I"⟩ ∈ lw_gw := wd_t 555 (by decide +kernel) (by decide +kernel)
theorem vl_L_45 : pm_vl "ElasticNetsLaw" 45 ⟨"ElasticNets", "run", "(II)I"⟩ := ⟨w_553, w_554, w_555, w_1⟩
theorem w_563 : Cond.methodLink "ElasticNetsLaw" 48 ⟨"ElasticNets", "ticks", "()I"⟩ ∈ lw_gw := wd_t 563 (by decide +kernel) (by decide +kernel)
theorem w_564 : Cond.instanceMethod ⟨"ElasticNets", "ticks", "()I"⟩ ∈ lw_gw := wd_t 564 (by decide +kernel) (by decide +kernel)
theorem w_565 : Cond.selects "ElasticNets" ⟨"ElasticNets", "ticks", "()I"⟩ ⟨"ElasticNets", "ticks", "()I"⟩ ∈ lw_gw := wd_t 565 (by decide +kernel) (by decide +kernel)
theorem vl_L_48 : pm_vl "ElasticNetsLaw" 48 ⟨"ElasticNets", "ticks", "()I"⟩ := ⟨w_563, w_564, w_565, w_1⟩
theorem w_570 : Cond.methodLink "ElasticNetsLaw" 51 ⟨"ElasticNets", "turns", "(I)I"⟩ ∈ lw_gw := wd_t 570 (by decide +kernel) (by decide +kernel)
theorem w_571 : Cond.instanceMethod ⟨"ElasticNets", "turns", "(I)I"⟩ ∈ lw_gw := wd_t 571 (by decide +kernel) (by decide +kernel)
theorem w_572 : Cond.selects "ElasticNets" ⟨"ElasticNets", "turns", "(I)I"⟩ ⟨"ElasticNets", "turns", "(I)I"⟩ ∈ lw_gw := wd_t 572 (by decide +kernel) (by decide +kernel)
theorem vl_L_51 : pm_vl "ElasticNetsLaw" 51 ⟨"ElasticNets", "turns", "(I)I"⟩ := ⟨w_570, w_571, w_572, w_1⟩
theorem w_577 : Cond.methodLink "ElasticNetsLaw" 54 ⟨"ElasticNets", "got", "(I)I"⟩ ∈ lw_gw := wd_t 577 (by decide +kernel) (by decide +kernel)
theorem w_578 : Cond.instanceMethod ⟨"ElasticNets", "got", "(I)I"⟩ ∈ lw_gw := wd_t 578 (by decide +kernel) (by decide +kernel)
theorem w_579 : Cond.selects "ElasticNets" ⟨"ElasticNets", "got", "(I)I"⟩ ⟨"ElasticNets", "got", "(I)I"⟩ ∈ lw_gw := wd_t 579 (by decide +kernel) (by decide +kernel)
theorem vl_L_54 : pm_vl "ElasticNetsLaw" 54 ⟨"ElasticNets", "got", "(I)I"⟩ := ⟨w_577, w_578, w_579, w_1⟩
theorem w_584 : Cond.methodLink "ElasticNetsLaw" 57 ⟨"ElasticNets", "inside", "(II)I"⟩ ∈ lw_gw := wd_t 584 (by decide +kernel) (by decide +kernel)
theorem w_585 : Cond.instanceMethod ⟨"ElasticNets", "inside", "(II)I"⟩ ∈ lw_gw := wd_t 585 (by decide +kernel) (by decide +kernel)
theorem w_586 : Cond.selects "ElasticNets" ⟨"ElasticNets", "inside", "(II)I"⟩ ⟨"ElasticNets", "inside", "(II)I"⟩ ∈ lw_gw := wd_t 586 (by decide +kernel) (by decide +kernel)
theorem vl_L_57 : pm_vl "ElasticNetsLaw" 57 ⟨"ElasticNets", "inside", "(II)I"⟩ := ⟨w_584, w_585, w_586, w_1⟩
theorem w_591 : Cond.methodLink "ElasticNetsLaw" 60 ⟨"ElasticNets", "taken", "(I)I"⟩ ∈ lw_gw := wd_t 591 (by decide +kernel) (by decide +kernel)
theorem w_592 : Cond.instanceMethod ⟨"ElasticNets", "taken", "(I)I"⟩ ∈ lw_gw := wd_t 592 (by decide +kernel) (by decide +kernel)
theorem w_593 : Cond.selects "ElasticNets" ⟨"ElasticNets", "taken", "(I)I"⟩ ⟨"ElasticNets", "taken", "(I)I"⟩ ∈ lw_gw := wd_t 593 (by decide +kernel) (by decide +kernel)
theorem vl_L_60 : pm_vl "ElasticNetsLaw" 60 ⟨"ElasticNets", "taken", "(I)I"⟩ := ⟨w_591, w_592, w_593, w_1⟩
theorem w_598 : Cond.methodLink "ElasticNetsLaw" 63 ⟨"ElasticNets", "given", "(I)I"⟩ ∈ lw_gw := wd_t 598 (by decide +kernel) (by decide +kernel)
theorem w_599 : Cond.instanceMethod ⟨"ElasticNets", "given", "(I)I"⟩ ∈ lw_gw := wd_t 599 (by decide +kernel) (by decide +kernel)
theorem w_600 : Cond.selects "ElasticNets" ⟨"ElasticNets", "given", "(I)I"⟩ ⟨"ElasticNets", "given", "(I)I"⟩ ∈ lw_gw := wd_t 600 (by decide +kernel) (by decide +kernel)
theorem vl_L_63 : pm_vl "ElasticNetsLaw" 63 ⟨"ElasticNets", "given", "(I)I"⟩ := ⟨w_598, w_599, w_600, w_1⟩
theorem w_606 : Cond.methodLink "ElasticNetsLaw" 66 ⟨"ElasticNets", "value", "(II)J"⟩ ∈ lw_gw := wd_t 606 (by decide +kernel) (by decide +kernel)
theorem w_607 : Cond.instanceMethod ⟨"ElasticNets", "value", "(II)J"⟩ ∈ lw_gw := wd_t 607 (by decide +kernel) (by decide +kernel)
theorem w_608 : Cond.selects "ElasticNets" ⟨"ElasticNets", "value", "(II)J"⟩ ⟨"ElasticNets", "value", "(II)J"⟩ ∈ lw_gw := wd_t 608 (by decide +kernel) (by decide +kernel)
theorem vl_L_66 : pm_vl "ElasticNetsLaw" 66 ⟨"ElasticNets", "value", "(II)J"⟩ := ⟨w_606, w_607, w_608, w_1⟩
theorem w_629 : Cond.methodLink "ElasticNetsLaw" 72 ⟨"ElasticNets", "byClock", "(II)I"⟩ ∈ lw_gw := wd_t 629 (by decide +kernel) (by decide +kernel)
theorem w_630 : Cond.instanceMethod ⟨"ElasticNets", "byClock", "(II)I"⟩ ∈ lw_gw := wd_t 630 (by decide +kernel) (by decide +kernel)
theorem w_631 : Cond.selects "ElasticNets" ⟨"ElasticNets", "byClock", "(II)I"⟩ ⟨"ElasticNets", "byClock", "(II)I"⟩ ∈ lw_gw := wd_t 631 (by decide +kernel) (by decide +kernel)
theorem vl_L_72 : pm_vl "ElasticNetsLaw" 72 ⟨"ElasticNets", "byClock", "(II)I"⟩ := ⟨w_629, w_630, w_631, w_1⟩
theorem w_652 : Cond.methodLink "ElasticNetsLaw" 75 ⟨"ElasticNets", "rate", "(I)I"⟩ ∈ lw_gw := wd_t 652 (by decide +kernel) (by decide +kernel)
theorem w_653 : Cond.instanceMethod ⟨"ElasticNets", "rate", "(I)I"⟩ ∈ lw_gw := wd_t 653 (by decide +kernel) (by decide +kernel)
theorem w_654 : Cond.selects "ElasticNets" ⟨"ElasticNets", "rate", "(I)I"⟩ ⟨"ElasticNets", "rate", "(I)I"⟩ ∈ lw_gw := wd_t 654 (by decide +kernel) (by decide +kernel)
theorem vl_L_75 : pm_vl "ElasticNetsLaw" 75 ⟨"ElasticNets", "rate", "(I)I"⟩ := ⟨w_652, w_653, w_654, w_1⟩
theorem w_16 : Cond.classLink "ElasticNetsLaw" 8 "ElasticNets" ∈ lw_gw := wd_t 16 (by decide +kernel) (by decide +kernel)
theorem w_17 : Cond.instantiable "ElasticNets" 5 ∈ lw_gw := wd_t 17 (by decide +kernel) (by decide +kernel)
theorem w_18 : Cond.methodLink "ElasticNetsLaw" 78 ⟨"ElasticNets", "<init>", "()V"⟩ ∈ lw_gw := wd_t 18 (by decide +kernel) (by decide +kernel)
theorem w_19 : Cond.instanceMethod ⟨"ElasticNets", "<init>", "()V"⟩ ∈ lw_gw := wd_t 19 (by decide +kernel) (by decide +kernel)
theorem il_L_78 : pm_il "ElasticNetsLaw" 78 ⟨"ElasticNets", "<init>", "()V"⟩ := ⟨w_18, w_19, w_1, rfl⟩
theorem w_695 : Cond.classLink "ElasticNetsLaw" 79 "ElasticNetsModel" ∈ lw_gw := wd_t 695 (by decide +kernel) (by decide +kernel)
theorem w_696 : Cond.instantiable "ElasticNetsModel" 45 ∈ lw_gw := wd_t 696 (by decide +kernel) (by decide +kernel)
theorem w_697 : Cond.methodLink "ElasticNetsLaw" 81 ⟨"ElasticNetsModel", "<init>", "()V"⟩ ∈ lw_gw := wd_t 697 (by decide +kernel) (by decide +kernel)
theorem w_698 : Cond.instanceMethod ⟨"ElasticNetsModel", "<init>", "()V"⟩ ∈ lw_gw := wd_t 698 (by decide +kernel) (by decide +kernel)
theorem il_L_81 : pm_il "ElasticNetsLaw" 81 ⟨"ElasticNetsModel", "<init>", "()V"⟩ := ⟨w_697, w_698, w_6, rfl⟩
theorem w_263 : Cond.methodLink "ElasticNetsLaw" 82 ⟨"ElasticNetsLaw", "block", "(LElasticNets;II[J)I"⟩ ∈ lw_gw := wd_t 263 (by decide +kernel) (by decide +kernel)
theorem w_264 : Cond.static ⟨"ElasticNetsLaw", "block", "(LElasticNets;II[J)I"⟩ ∈ lw_gw := wd_t 264 (by decide +kernel) (by decide +kernel)
theorem w_0 : Cond.initialized "ElasticNetsLaw" ∈ lw_gw := wd_t 0 (by decide +kernel) (by decide +kernel)
theorem sl_L_82 : pm_sl "ElasticNetsLaw" 82 ⟨"ElasticNetsLaw", "block", "(LElasticNets;II[J)I"⟩ := ⟨w_263, w_264, w_0⟩
theorem w_842 : Cond.methodLink "ElasticNetsLaw" 87 ⟨"ElasticNetsModel", "block", "(II)I"⟩ ∈ lw_gw := wd_t 842 (by decide +kernel) (by decide +kernel)
theorem w_843 : Cond.instanceMethod ⟨"ElasticNetsModel", "block", "(II)I"⟩ ∈ lw_gw := wd_t 843 (by decide +kernel) (by decide +kernel)
theorem w_844 : Cond.selects "ElasticNetsModel" ⟨"ElasticNetsModel", "block", "(II)I"⟩ ⟨"ElasticNetsModel", "block", "(II)I"⟩ ∈ lw_gw := wd_t 844 (by decide +kernel) (by decide +kernel)
theorem vl_L_87 : pm_vl "ElasticNetsLaw" 87 ⟨"ElasticNetsModel", "block", "(II)I"⟩ := ⟨w_842, w_843, w_844, w_6⟩
theorem w_838 : Cond.methodLink "ElasticNetsLaw" 88 ⟨"ElasticNetsModel", "thrown", "()I"⟩ ∈ lw_gw := wd_t 838 (by decide +kernel) (by decide +kernel)
theorem w_839 : Cond.instanceMethod ⟨"ElasticNetsModel", "thrown", "()I"⟩ ∈ lw_gw := wd_t 839 (by decide +kernel) (by decide +kernel)
theorem w_840 : Cond.selects "ElasticNetsModel" ⟨"ElasticNetsModel", "thrown", "()I"⟩ ⟨"ElasticNetsModel", "thrown", "()I"⟩ ∈ lw_gw := wd_t 840 (by decide +kernel) (by decide +kernel)
theorem vl_L_88 : pm_vl "ElasticNetsLaw" 88 ⟨"ElasticNetsModel", "thrown", "()I"⟩ := ⟨w_838, w_839, w_840, w_6⟩
theorem w_364 : Cond.methodLink "ElasticNetsLaw" 91 ⟨"ElasticNetsLaw", "channel", "(LElasticNets;III[J)I"⟩ ∈ lw_gw := wd_t 364 (by decide +kernel) (by decide +kernel)
theorem w_365 : Cond.static ⟨"ElasticNetsLaw", "channel", "(LElasticNets;III[J)I"⟩ ∈ lw_gw := wd_t 365 (by decide +kernel) (by decide +kernel)
theorem sl_L_91 : pm_sl "ElasticNetsLaw" 91 ⟨"ElasticNetsLaw", "channel", "(LElasticNets;III[J)I"⟩ := ⟨w_364, w_365, w_0⟩
theorem w_846 : Cond.methodLink "ElasticNetsLaw" 94 ⟨"ElasticNetsModel", "channel", "(III)I"⟩ ∈ lw_gw := wd_t 846 (by decide +kernel) (by decide +kernel)
theorem w_847 : Cond.instanceMethod ⟨"ElasticNetsModel", "channel", "(III)I"⟩ ∈ lw_gw := wd_t 847 (by decide +kernel) (by decide +kernel)
theorem w_848 : Cond.selects "ElasticNetsModel" ⟨"ElasticNetsModel", "channel", "(III)I"⟩ ⟨"ElasticNetsModel", "channel", "(III)I"⟩ ∈ lw_gw := wd_t 848 (by decide +kernel) (by decide +kernel)
theorem vl_L_94 : pm_vl "ElasticNetsLaw" 94 ⟨"ElasticNetsModel", "channel", "(III)I"⟩ := ⟨w_846, w_847, w_848, w_6⟩
theorem w_387 : Cond.methodLink "ElasticNetsLaw" 95 ⟨"ElasticNetsLaw", "input", "(LElasticNets;I[J)I"⟩ ∈ lw_gw := wd_t 387 (by decide +kernel) (by decide +kernel)
theorem w_388 : Cond.static ⟨"ElasticNetsLaw", "input", "(LElasticNets;I[J)I"⟩ ∈ lw_gw := wd_t 388 (by decide +kernel) (by decide +kernel)
theorem sl_L_95 : pm_sl "ElasticNetsLaw" 95 ⟨"ElasticNetsLaw", "input", "(LElasticNets;I[J)I"⟩ := ⟨w_387, w_388, w_0⟩
theorem w_854 : Cond.methodLink "ElasticNetsLaw" 98 ⟨"ElasticNetsModel", "input", "(I)I"⟩ ∈ lw_gw := wd_t 854 (by decide +kernel) (by decide +kernel)
theorem w_855 : Cond.instanceMethod ⟨"ElasticNetsModel", "input", "(I)I"⟩ ∈ lw_gw := wd_t 855 (by decide +kernel) (by decide +kernel)
theorem w_856 : Cond.selects "ElasticNetsModel" ⟨"ElasticNetsModel", "input", "(I)I"⟩ ⟨"ElasticNetsModel", "input", "(I)I"⟩ ∈ lw_gw := wd_t 856 (by decide +kernel) (by decide +kernel)
theorem vl_L_98 : pm_vl "ElasticNetsLaw" 98 ⟨"ElasticNetsModel", "input", "(I)I"⟩ := ⟨w_854, w_855, w_856, w_6⟩
theorem w_398 : Cond.methodLink "ElasticNetsLaw" 99 ⟨"ElasticNetsLaw", "output", "(LElasticNets;I[J)I"⟩ ∈ lw_gw := wd_t 398 (by decide +kernel) (by decide +kernel)
theorem w_399 : Cond.static ⟨"ElasticNetsLaw", "output", "(LElasticNets;I[J)I"⟩ ∈ lw_gw := wd_t 399 (by decide +kernel) (by decide +kernel)
theorem sl_L_99 : pm_sl "ElasticNetsLaw" 99 ⟨"ElasticNetsLaw", "output", "(LElasticNets;I[J)I"⟩ := ⟨w_398, w_399, w_0⟩
theorem w_858 : Cond.methodLink "ElasticNetsLaw" 101 ⟨"ElasticNetsModel", "output", "(I)I"⟩ ∈ lw_gw := wd_t 858 (by decide +kernel) (by decide +kernel)
theorem w_859 : Cond.instanceMethod ⟨"ElasticNetsModel", "output", "(I)I"⟩ ∈ lw_gw := wd_t 859 (by decide +kernel) (by decide +kernel)
theorem w_860 : Cond.selects "ElasticNetsModel" ⟨"ElasticNetsModel", "output", "(I)I"⟩ ⟨"ElasticNetsModel", "output", "(I)I"⟩ ∈ lw_gw := wd_t 860 (by decide +kernel) (by decide +kernel)
theorem vl_L_101 : pm_vl "ElasticNetsLaw" 101 ⟨"ElasticNetsModel", "output", "(I)I"⟩ := ⟨w_858, w_859, w_860, w_6⟩
theorem w_409 : Cond.methodLink "ElasticNetsLaw" 102 ⟨"ElasticNetsLaw", "buffers", "(LElasticNets;II[J)I"⟩ ∈ lw_gw := wd_t 409 (by decide +kernel) (by decide +kernel)
theorem w_410 : Cond.static ⟨"ElasticNetsLaw", "buffers", "(LElasticNets;II[J)I"⟩ ∈ lw_gw := wd_t 410 (by decide +kernel) (by decide +kernel)
theorem sl_L_102 : pm_sl "ElasticNetsLaw" 102 ⟨"ElasticNetsLaw", "buffers", "(LElasticNets;II[J)I"⟩ := ⟨w_409, w_410, w_0⟩
theorem w_862 : Cond.methodLink "ElasticNetsLaw" 104 ⟨"ElasticNetsModel", "buffers", "(II)I"⟩ ∈ lw_gw := wd_t 862 (by decide +kernel) (by decide +kernel)
theorem w_863 : Cond.instanceMethod ⟨"ElasticNetsModel", "buffers", "(II)I"⟩ ∈ lw_gw := wd_t 863 (by decide +kernel) (by decide +kernel)
theorem w_864 : Cond.selects "ElasticNetsModel" ⟨"ElasticNetsModel", "buffers", "(II)I"⟩ ⟨"ElasticNetsModel", "buffers", "(II)I"⟩ ∈ lw_gw := wd_t 864 (by decide +kernel) (by decide +kernel)
theorem vl_L_104 : pm_vl "ElasticNetsLaw" 104 ⟨"ElasticNetsModel", "buffers", "(II)I"⟩ := ⟨w_862, w_863, w_864, w_6⟩
theorem w_416 : Cond.methodLink "ElasticNetsLaw" 105 ⟨"ElasticNetsLaw", "build", "(LElasticNets;[J)I"⟩ ∈ lw_gw := wd_t 416 (by decide +kernel) (by decide +kernel)
theorem w_417 : Cond.static ⟨"ElasticNetsLaw", "build", "(LElasticNets;[J)I"⟩ ∈ lw_gw := wd_t 417 (by decide +kernel) (by decide +kernel)
theorem sl_L_105 : pm_sl "ElasticNetsLaw" 105 ⟨"ElasticNetsLaw", "build", "(LElasticNets;[J)I"⟩ := ⟨w_416, w_417, w_0⟩
theorem w_866 : Cond.methodLink "ElasticNetsLaw" 108 ⟨"ElasticNetsModel", "build", "()I"⟩ ∈ lw_gw := wd_t 866 (by decide +kernel) (by decide +kernel)
theorem w_867 : Cond.instanceMethod ⟨"ElasticNetsModel", "build", "()I"⟩ ∈ lw_gw := wd_t 867 (by decide +kernel) (by decide +kernel)
theorem w_868 : Cond.selects "ElasticNetsModel" ⟨"ElasticNetsModel", "build", "()I"⟩ ⟨"ElasticNetsModel", "build", "()I"⟩ ∈ lw_gw := wd_t 868 (by decide +kernel) (by decide +kernel)
theorem vl_L_108 : pm_vl "ElasticNetsLaw" 108 ⟨"ElasticNetsModel", "build", "()I"⟩ := ⟨w_866, w_867, w_868, w_6⟩
theorem w_255 : Cond.methodLink "ElasticNetsLaw" 109 ⟨"ElasticNets", "clear", "()I"⟩ ∈ lw_gw := wd_t 255 (by decide +kernel) (by decide +kernel)
theorem w_256 : Cond.instanceMethod ⟨"ElasticNets", "clear", "()I"⟩ ∈ lw_gw := wd_t 256 (by decide +kernel) (by decide +kernel)
theorem w_257 : Cond.selects "ElasticNets" ⟨"ElasticNets", "clear", "()I"⟩ ⟨"ElasticNets", "clear", "()I"⟩ ∈ lw_gw := wd_t 257 (by decide +kernel) (by decide +kernel)
theorem vl_L_109 : pm_vl "ElasticNetsLaw" 109 ⟨"ElasticNets", "clear", "()I"⟩ := ⟨w_255, w_256, w_257, w_1⟩
theorem w_898 : Cond.methodLink "ElasticNetsLaw" 112 ⟨"ElasticNetsModel", "clear", "()I"⟩ ∈ lw_gw := wd_t 898 (by decide +kernel) (by decide +kernel)
theorem w_899 : Cond.instanceMethod ⟨"ElasticNetsModel", "clear", "()I"⟩ ∈ lw_gw := wd_t 899 (by decide +kernel) (by decide +kernel)
theorem w_900 : Cond.selects "ElasticNetsModel" ⟨"ElasticNetsModel", "clear", "()I"⟩ ⟨"ElasticNetsModel", "clear", "()I"⟩ ∈ lw_gw := wd_t 900 (by decide +kernel) (by decide +kernel)
theorem vl_L_112 : pm_vl "ElasticNetsLaw" 112 ⟨"ElasticNetsModel", "clear", "()I"⟩ := ⟨w_898, w_899, w_900, w_6⟩
theorem w_450 : Cond.methodLink "ElasticNetsLaw" 113 ⟨"ElasticNetsLaw", "restart", "(LElasticNets;)I"⟩ ∈ lw_gw := wd_t 450 (by decide +kernel) (by decide +kernel)
theorem w_451 : Cond.static ⟨"ElasticNetsLaw", "restart", "(LElasticNets;)I"⟩ ∈ lw_gw := wd_t 451 (by decide +kernel) (by decide +kernel)
theorem sl_L_113 : pm_sl "ElasticNetsLaw" 113 ⟨"ElasticNetsLaw", "restart", "(LElasticNets;)I"⟩ := ⟨w_450, w_451, w_0⟩
theorem w_902 : Cond.methodLink "ElasticNetsLaw" 116 ⟨"ElasticNetsModel", "restart", "()V"⟩ ∈ lw_gw := wd_t 902 (by decide +kernel) (by decide +kernel)
theorem w_903 : Cond.instanceMethod ⟨"ElasticNetsModel", "restart", "()V"⟩ ∈ lw_gw := wd_t 903 (by decide +kernel) (by decide +kernel)
theorem w_904 : Cond.selects "ElasticNetsModel" ⟨"ElasticNetsModel", "restart", "()V"⟩ ⟨"ElasticNetsModel", "restart", "()V"⟩ ∈ lw_gw := wd_t 904 (by decide +kernel) (by decide +kernel)
theorem vl_L_116 : pm_vl "ElasticNetsLaw" 116 ⟨"ElasticNetsModel", "restart", "()V"⟩ := ⟨w_902, w_903, w_904, w_6⟩
theorem w_462 : Cond.methodLink "ElasticNetsLaw" 117 ⟨"ElasticNetsLaw", "offer", "(LElasticNets;II[J)I"⟩ ∈ lw_gw := wd_t 462 (by decide +kernel) (by decide +kernel)
theorem w_463 : Cond.static ⟨"ElasticNetsLaw", "offer", "(LElasticNets;II[J)I"⟩ ∈ lw_gw := wd_t 463 (by decide +kernel) (by decide +kernel)
theorem sl_L_117 : pm_sl "ElasticNetsLaw" 117 ⟨"ElasticNetsLaw", "offer", "(LElasticNets;II[J)I"⟩ := ⟨w_462, w_463, w_0⟩
theorem w_906 : Cond.methodLink "ElasticNetsLaw" 119 ⟨"ElasticNetsModel", "offer", "(II)Z"⟩ ∈ lw_gw := wd_t 906 (by decide +kernel) (by decide +kernel)
theorem w_907 : Cond.instanceMethod ⟨"ElasticNetsModel", "offer", "(II)Z"⟩ ∈ lw_gw := wd_t 907 (by decide +kernel) (by decide +kernel)
theorem w_908 : Cond.selects "ElasticNetsModel" ⟨"ElasticNetsModel", "offer", "(II)Z"⟩ ⟨"ElasticNetsModel", "offer", "(II)Z"⟩ ∈ lw_gw := wd_t 908 (by decide +kernel) (by decide +kernel)
theorem vl_L_119 : pm_vl "ElasticNetsLaw" 119 ⟨"ElasticNetsModel", "offer", "(II)Z"⟩ := ⟨w_906, w_907, w_908, w_6⟩
theorem w_477 : Cond.methodLink "ElasticNetsLaw" 120 ⟨"ElasticNetsLaw", "tick", "(LElasticNets;I[J)I"⟩ ∈ lw_gw := wd_t 477 (by decide +kernel) (by decide +kernel)
theorem w_478 : Cond.static ⟨"ElasticNetsLaw", "tick", "(LElasticNets;I[J)I"⟩ ∈ lw_gw := wd_t 478 (by decide +kernel) (by decide +kernel)
theorem sl_L_120 : pm_sl "ElasticNetsLaw" 120 ⟨"ElasticNetsLaw", "tick", "(LElasticNets;I[J)I"⟩ := ⟨w_477, w_478, w_0⟩
theorem w_910 : Cond.methodLink "ElasticNetsLaw" 122 ⟨"ElasticNetsModel", "tick", "(I)I"⟩ ∈ lw_gw := wd_t 910 (by decide +kernel) (by decide +kernel)
theorem w_911 : Cond.instanceMethod ⟨"ElasticNetsModel", "tick", "(I)I"⟩ ∈ lw_gw := wd_t 911 (by decide +kernel) (by decide +kernel)
theorem w_912 : Cond.selects "ElasticNetsModel" ⟨"ElasticNetsModel", "tick", "(I)I"⟩ ⟨"ElasticNetsModel", "tick", "(I)I"⟩ ∈ lw_gw := wd_t 912 (by decide +kernel) (by decide +kernel)
theorem vl_L_122 : pm_vl "ElasticNetsLaw" 122 ⟨"ElasticNetsModel", "tick", "(I)I"⟩ := ⟨w_910, w_911, w_912, w_6⟩
theorem w_550 : Cond.methodLink "ElasticNetsLaw" 123 ⟨"ElasticNetsLaw", "run", "(LElasticNets;II[J)I"⟩ ∈ lw_gw := wd_t 550 (by decide +kernel) (by decide +kernel)
theorem w_551 : Cond.static ⟨"ElasticNetsLaw", "run", "(LElasticNets;II[J)I"⟩ ∈ lw_gw := wd_t 551 (by decide +kernel) (by decide +kernel)
theorem sl_L_123 : pm_sl "ElasticNetsLaw" 123 ⟨"ElasticNetsLaw", "run", "(LElasticNets;II[J)I"⟩ := ⟨w_550, w_551, w_0⟩
theorem w_969 : Cond.methodLink "ElasticNetsLaw" 125 ⟨"ElasticNetsModel", "run", "(II)I"⟩ ∈ lw_gw := wd_t 969 (by decide +kernel) (by decide +kernel)
theorem w_970 : Cond.instanceMethod ⟨"ElasticNetsModel", "run", "(II)I"⟩ ∈ lw_gw := wd_t 970 (by decide +kernel) (by decide +kernel)
theorem w_971 : Cond.selects "ElasticNetsModel" ⟨"ElasticNetsModel", "run", "(II)I"⟩ ⟨"ElasticNetsModel", "run", "(II)I"⟩ ∈ lw_gw := wd_t 971 (by decide +kernel) (by decide +kernel)
theorem vl_L_125 : pm_vl "ElasticNetsLaw" 125 ⟨"ElasticNetsModel", "run", "(II)I"⟩ := ⟨w_969, w_970, w_971, w_6⟩
theorem w_560 : Cond.methodLink "ElasticNetsLaw" 126 ⟨"ElasticNetsLaw", "ticks", "(LElasticNets;[J)I"⟩ ∈ lw_gw := wd_t 560 (by decide +kernel) (by decide +kernel)
theorem w_561 : Cond.static ⟨"ElasticNetsLaw", "ticks", "(LElasticNets;[J)I"⟩ ∈ lw_gw := wd_t 561 (by decide +kernel) (by decide +kernel)
theorem sl_L_126 : pm_sl "ElasticNetsLaw" 126 ⟨"ElasticNetsLaw", "ticks", "(LElasticNets;[J)I"⟩ := ⟨w_560, w_561, w_0⟩
theorem w_973 : Cond.methodLink "ElasticNetsLaw" 128 ⟨"ElasticNetsModel", "ticks", "()I"⟩ ∈ lw_gw := wd_t 973 (by decide +kernel) (by decide +kernel)
theorem w_974 : Cond.instanceMethod ⟨"ElasticNetsModel", "ticks", "()I"⟩ ∈ lw_gw := wd_t 974 (by decide +kernel) (by decide +kernel)
theorem w_975 : Cond.selects "ElasticNetsModel" ⟨"ElasticNetsModel", "ticks", "()I"⟩ ⟨"ElasticNetsModel", "ticks", "()I"⟩ ∈ lw_gw := wd_t 975 (by decide +kernel) (by decide +kernel)
theorem vl_L_128 : pm_vl "ElasticNetsLaw" 128 ⟨"ElasticNetsModel", "ticks", "()I"⟩ := ⟨w_973, w_974, w_975, w_6⟩
theorem w_567 : Cond.methodLink "ElasticNetsLaw" 129 ⟨"ElasticNetsLaw", "turns", "(LElasticNets;I[J)I"⟩ ∈ lw_gw := wd_t 567 (by decide +kernel) (by decide +kernel)
theorem w_568 : Cond.static ⟨"ElasticNetsLaw", "turns", "(LElasticNets;I[J)I"⟩ ∈ lw_gw := wd_t 568 (by decide +kernel) (by decide +kernel)
theorem sl_L_129 : pm_sl "ElasticNetsLaw" 129 ⟨"ElasticNetsLaw", "turns", "(LElasticNets;I[J)I"⟩ := ⟨w_567, w_568, w_0⟩
theorem w_977 : Cond.methodLink "ElasticNetsLaw" 131 ⟨"ElasticNetsModel", "turns", "(I)I"⟩ ∈ lw_gw := wd_t 977 (by decide +kernel) (by decide +kernel)
theorem w_978 : Cond.instanceMethod ⟨"ElasticNetsModel", "turns", "(I)I"⟩ ∈ lw_gw := wd_t 978 (by decide +kernel) (by decide +kernel)
theorem w_979 : Cond.selects "ElasticNetsModel" ⟨"ElasticNetsModel", "turns", "(I)I"⟩ ⟨"ElasticNetsModel", "turns", "(I)I"⟩ ∈ lw_gw := wd_t 979 (by decide +kernel) (by decide +kernel)
theorem vl_L_131 : pm_vl "ElasticNetsLaw" 131 ⟨"ElasticNetsModel", "turns", "(I)I"⟩ := ⟨w_977, w_978, w_979, w_6⟩
theorem w_574 : Cond.methodLink "ElasticNetsLaw" 132 ⟨"ElasticNetsLaw", "got", "(LElasticNets;I[J)I"⟩ ∈ lw_gw := wd_t 574 (by decide +kernel) (by decide +kernel)
theorem w_575 : Cond.static ⟨"ElasticNetsLaw", "got", "(LElasticNets;I[J)I"⟩ ∈ lw_gw := wd_t 575 (by decide +kernel) (by decide +kernel)
theorem sl_L_132 : pm_sl "ElasticNetsLaw" 132 ⟨"ElasticNetsLaw", "got", "(LElasticNets;I[J)I"⟩ := ⟨w_574, w_575, w_0⟩
theorem w_981 : Cond.methodLink "ElasticNetsLaw" 134 ⟨"ElasticNetsModel", "got", "(I)I"⟩ ∈ lw_gw := wd_t 981 (by decide +kernel) (by decide +kernel)
theorem w_982 : Cond.instanceMethod ⟨"ElasticNetsModel", "got", "(I)I"⟩ ∈ lw_gw := wd_t 982 (by decide +kernel) (by decide +kernel)
theorem w_983 : Cond.selects "ElasticNetsModel" ⟨"ElasticNetsModel", "got", "(I)I"⟩ ⟨"ElasticNetsModel", "got", "(I)I"⟩ ∈ lw_gw := wd_t 983 (by decide +kernel) (by decide +kernel)
theorem vl_L_134 : pm_vl "ElasticNetsLaw" 134 ⟨"ElasticNetsModel", "got", "(I)I"⟩ := ⟨w_981, w_982, w_983, w_6⟩
theorem w_581 : Cond.methodLink "ElasticNetsLaw" 135 ⟨"ElasticNetsLaw", "inside", "(LElasticNets;II[J)I"⟩ ∈ lw_gw := wd_t 581 (by decide +kernel) (by decide +kernel)
theorem w_582 : Cond.static ⟨"ElasticNetsLaw", "inside", "(LElasticNets;II[J)I"⟩ ∈ lw_gw := wd_t 582 (by decide +kernel) (by decide +kernel)
theorem sl_L_135 : pm_sl "ElasticNetsLaw" 135 ⟨"ElasticNetsLaw", "inside", "(LElasticNets;II[J)I"⟩ := ⟨w_581, w_582, w_0⟩
theorem w_985 : Cond.methodLink "ElasticNetsLaw" 137 ⟨"ElasticNetsModel", "inside", "(II)I"⟩ ∈ lw_gw := wd_t 985 (by decide +kernel) (by decide +kernel)
theorem w_986 : Cond.instanceMethod ⟨"ElasticNetsModel", "inside", "(II)I"⟩ ∈ lw_gw := wd_t 986 (by decide +kernel) (by decide +kernel)
theorem w_987 : Cond.selects "ElasticNetsModel" ⟨"ElasticNetsModel", "inside", "(II)I"⟩ ⟨"ElasticNetsModel", "inside", "(II)I"⟩ ∈ lw_gw := wd_t 987 (by decide +kernel) (by decide +kernel)
theorem vl_L_137 : pm_vl "ElasticNetsLaw" 137 ⟨"ElasticNetsModel", "inside", "(II)I"⟩ := ⟨w_985, w_986, w_987, w_6⟩
theorem w_588 : Cond.methodLink "ElasticNetsLaw" 138 ⟨"ElasticNetsLaw", "taken", "(LElasticNets;I[J)I"⟩ ∈ lw_gw := wd_t 588 (by decide +kernel) (by decide +kernel)
theorem w_589 : Cond.static ⟨"ElasticNetsLaw", "taken", "(LElasticNets;I[J)I"⟩ ∈ lw_gw := wd_t 589 (by decide +kernel) (by decide +kernel)
theorem sl_L_138 : pm_sl "ElasticNetsLaw" 138 ⟨"ElasticNetsLaw", "taken", "(LElasticNets;I[J)I"⟩ := ⟨w_588, w_589, w_0⟩
theorem w_989 : Cond.methodLink "ElasticNetsLaw" 140 ⟨"ElasticNetsModel", "taken", "(I)I"⟩ ∈ lw_gw := wd_t 989 (by decide +kernel) (by decide +kernel)
theorem w_990 : Cond.instanceMethod ⟨"ElasticNetsModel", "taken", "(I)I"⟩ ∈ lw_gw := wd_t 990 (by decide +kernel) (by decide +kernel)
theorem w_991 : Cond.selects "ElasticNetsModel" ⟨"ElasticNetsModel", "taken", "(I)I"⟩ ⟨"ElasticNetsModel", "taken", "(I)I"⟩ ∈ lw_gw := wd_t 991 (by decide +kernel) (by decide +kernel)
theorem vl_L_140 : pm_vl "ElasticNetsLaw" 140 ⟨"ElasticNetsModel", "taken", "(I)I"⟩ := ⟨w_989, w_990, w_991, w_6⟩
theorem w_595 : Cond.methodLink "ElasticNetsLaw" 141 ⟨"ElasticNetsLaw", "given", "(LElasticNets;I[J)I"⟩ ∈ lw_gw := wd_t 595 (by decide +kernel) (by decide +kernel)
theorem w_596 : Cond.static ⟨"ElasticNetsLaw", "given", "(LElasticNets;I[J)I"⟩ ∈ lw_gw := wd_t 596 (by decide +kernel) (by decide +kernel)
theorem sl_L_141 : pm_sl "ElasticNetsLaw" 141 ⟨"ElasticNetsLaw", "given", "(LElasticNets;I[J)I"⟩ := ⟨w_595, w_596, w_0⟩
theorem w_993 : Cond.methodLink "ElasticNetsLaw" 143 ⟨"ElasticNetsModel", "given", "(I)I"⟩ ∈ lw_gw := wd_t 993 (by decide +kernel) (by decide +kernel)
theorem w_994 : Cond.instanceMethod ⟨"ElasticNetsModel", "given", "(I)I"⟩ ∈ lw_gw := wd_t 994 (by decide +kernel) (by decide +kernel)
theorem w_995 : Cond.selects "ElasticNetsModel" ⟨"ElasticNetsModel", "given", "(I)I"⟩ ⟨"ElasticNetsModel", "given", "(I)I"⟩ ∈ lw_gw := wd_t 995 (by decide +kernel) (by decide +kernel)
theorem vl_L_143 : pm_vl "ElasticNetsLaw" 143 ⟨"ElasticNetsModel", "given", "(I)I"⟩ := ⟨w_993, w_994, w_995, w_6⟩
theorem w_602 : Cond.methodLink "ElasticNetsLaw" 144 ⟨"ElasticNetsLaw", "value", "(LElasticNets;II[J)I"⟩ ∈ lw_gw := wd_t 602 (by decide +kernel) (by decide +kernel)
theorem w_603 : Cond.static ⟨"ElasticNetsLaw", "value", "(LElasticNets;II[J)I"⟩ ∈ lw_gw := wd_t 603 (by decide +kernel) (by decide +kernel)
theorem sl_L_144 : pm_sl "ElasticNetsLaw" 144 ⟨"ElasticNetsLaw", "value", "(LElasticNets;II[J)I"⟩ := ⟨w_602, w_603, w_0⟩
theorem w_997 : Cond.methodLink "ElasticNetsLaw" 146 ⟨"ElasticNetsModel", "value", "(II)J"⟩ ∈ lw_gw := wd_t 997 (by decide +kernel) (by decide +kernel)
theorem w_998 : Cond.instanceMethod ⟨"ElasticNetsModel", "value", "(II)J"⟩ ∈ lw_gw := wd_t 998 (by decide +kernel) (by decide +kernel)
theorem w_999 : Cond.selects "ElasticNetsModel" ⟨"ElasticNetsModel", "value", "(II)J"⟩ ⟨"ElasticNetsModel", "value", "(II)J"⟩ ∈ lw_gw := wd_t 999 (by decide +kernel) (by decide +kernel)
theorem vl_L_146 : pm_vl "ElasticNetsLaw" 146 ⟨"ElasticNetsModel", "value", "(II)J"⟩ := ⟨w_997, w_998, w_999, w_6⟩
theorem w_626 : Cond.methodLink "ElasticNetsLaw" 147 ⟨"ElasticNetsLaw", "byClock", "(LElasticNets;II[J)I"⟩ ∈ lw_gw := wd_t 626 (by decide +kernel) (by decide +kernel)
theorem w_627 : Cond.static ⟨"ElasticNetsLaw", "byClock", "(LElasticNets;II[J)I"⟩ ∈ lw_gw := wd_t 627 (by decide +kernel) (by decide +kernel)
theorem sl_L_147 : pm_sl "ElasticNetsLaw" 147 ⟨"ElasticNetsLaw", "byClock", "(LElasticNets;II[J)I"⟩ := ⟨w_626, w_627, w_0⟩
theorem w_1002 : Cond.methodLink "ElasticNetsLaw" 149 ⟨"ElasticNetsModel", "byClock", "(II)I"⟩ ∈ lw_gw := wd_t 1002 (by decide +kernel) (by decide +kernel)
theorem w_1003 : Cond.instanceMethod ⟨"ElasticNetsModel", "byClock", "(II)I"⟩ ∈ lw_gw := wd_t 1003 (by decide +kernel) (by decide +kernel)
theorem w_1004 : Cond.selects "ElasticNetsModel" ⟨"ElasticNetsModel", "byClock", "(II)I"⟩ ⟨"ElasticNetsModel", "byClock", "(II)I"⟩ ∈ lw_gw := wd_t 1004 (by decide +kernel) (by decide +kernel)
theorem vl_L_149 : pm_vl "ElasticNetsLaw" 149 ⟨"ElasticNetsModel", "byClock", "(II)I"⟩ := ⟨w_1002, w_1003, w_1004, w_6⟩
theorem w_649 : Cond.methodLink "ElasticNetsLaw" 150 ⟨"ElasticNetsLaw", "rate", "(LElasticNets;I[J)I"⟩ ∈ lw_gw := wd_t 649 (by decide +kernel) (by decide +kernel)
theorem w_650 : Cond.static ⟨"ElasticNetsLaw", "rate", "(LElasticNets;I[J)I"⟩ ∈ lw_gw := wd_t 650 (by decide +kernel) (by decide +kernel)
theorem sl_L_150 : pm_sl "ElasticNetsLaw" 150 ⟨"ElasticNetsLaw", "rate", "(LElasticNets;I[J)I"⟩ := ⟨w_649, w_650, w_0⟩
theorem w_1010 : Cond.methodLink "ElasticNetsLaw" 152 ⟨"ElasticNetsModel", "rate", "(I)I"⟩ ∈ lw_gw := wd_t 1010 (by decide +kernel) (by decide +kernel)
theorem w_1011 : Cond.instanceMethod ⟨"ElasticNetsModel", "rate", "(I)I"⟩ ∈ lw_gw := wd_t 1011 (by decide +kernel) (by decide +kernel)
theorem w_1012 : Cond.selects "ElasticNetsModel" ⟨"ElasticNetsModel", "rate", "(I)I"⟩ ⟨"ElasticNetsModel", "rate", "(I)I"⟩ ∈ lw_gw := wd_t 1012 (by decide +kernel) (by decide +kernel)
theorem vl_L_152 : pm_vl "ElasticNetsLaw" 152 ⟨"ElasticNetsModel", "rate", "(I)I"⟩ := ⟨w_1010, w_1011, w_1012, w_6⟩
theorem w_103 : Cond.arrayClass FieldType.int ∈ lw_gw := wd_t 103 (by decide +kernel) (by decide +kernel)
theorem w_167 : Cond.arrayClass FieldType.long ∈ lw_gw := wd_t 167 (by decide +kernel) (by decide +kernel)
theorem w_22 : Cond.instanceMethod ⟨"java/lang/Object", "<init>", "()V"⟩ ∈ lw_gw := wd_t 22 (by decide +kernel) (by decide +kernel)
theorem w_13 : Cond.initialized "java/lang/System" ∈ lw_gw := wd_t 13 (by decide +kernel) (by decide +kernel)
theorem w_14 : Cond.initialized "java/lang/Math" ∈ lw_gw := wd_t 14 (by decide +kernel) (by decide +kernel)
theorem w_23 : Cond.code ⟨"java/lang/Object", "<init>", "()V"⟩ object_method_1_code 1 none ∈ lw_gw := wd_t 23 (by decide +kernel) (by decide +kernel)
theorem w_493 : Cond.static ⟨"java/lang/System", "arraycopy", "(Ljava/lang/Object;ILjava/lang/Object;II)V"⟩ ∈ lw_gw := wd_t 493 (by decide +kernel) (by decide +kernel)
theorem w_494 : Cond.native ⟨"java/lang/System", "arraycopy", "(Ljava/lang/Object;ILjava/lang/Object;II)V"⟩ ∈ lw_gw := wd_t 494 (by decide +kernel) (by decide +kernel)
theorem w_535 : Cond.static ⟨"java/lang/Math", "max", "(II)I"⟩ ∈ lw_gw := wd_t 535 (by decide +kernel) (by decide +kernel)
theorem w_536 : Cond.code ⟨"java/lang/Math", "max", "(II)I"⟩ prog_12_method_65_code 2 (some FieldType.int) ∈ lw_gw := wd_t 536 (by decide +kernel) (by decide +kernel)
theorem w_558 : Cond.static ⟨"java/lang/Math", "min", "(II)I"⟩ ∈ lw_gw := wd_t 558 (by decide +kernel) (by decide +kernel)
theorem w_559 : Cond.code ⟨"java/lang/Math", "min", "(II)I"⟩ prog_12_method_69_code 2 (some FieldType.int) ∈ lw_gw := wd_t 559 (by decide +kernel) (by decide +kernel)
end
section
/-! THE CLAIM OUT OF ONE WALK OF THE LAW'S BODY. Your part is whole_start (and what it stands on); all else here is the same for every law, but numbers. -/
def R_law : String := "ElasticNetsLaw"
def lw_P (b : Addr) (xs : List Int32) (args : Array Value) (s : State) : Prop := args = #[.ref b] ∧ s.IntsAt b xs ∧ xs.length ≤ 2048 ∧ (Jvm.Cond.and given_1 narrow_1).before args s = true
def lw_Q (_ : Array Value) (s : State) (o : Outcome) (t : State) : Prop := o = .returned (some (.int 1)) ∧ Framed s o t [] 601024 7293034
def lw_Z (below : List Frame) (a : Array Value) (s : State) : State → Prop := fun t => ∃ o, t.status = .running ∧ Ended t below o ∧ lw_Q a s o t
/-- the law's own end, with 1 on the stack, nothing written that was there before, its room as the claim has it -/
theorem lw_ret {p : Program} {l : Launch} {e : Env} {s : State} {m : MethodId} {below : List Frame} {meth : Method} {c : Code} {b : Nat} (hx : p.tables.exec = Jvm.exec) (hb : c.code = code) (hr : meth.sig.returnType = ret) (hlocks : meth.locks = false) {pc : Nat} {H : Heap} {ls : Array Slot} (hdg : decode code pc = .ok (.ireturn, 1)) : W p l e room_1 s m #[Value.ref b] below meth c H [] 601024 7293034 (lw_Z below #[Value.ref b] s) (F0 m pc ls [.int 1]) := by
  intro T hT X
  obtain ⟨fs, hret, hrun, hended, hW, hframe⟩ := X.leave (v := some (.int 1)) (hlocks := hlocks) (fun h => by rw [hr] at h; cases h)
  have hmeth' : T.vm.method? m = some meth := X.method'
  refine ⟨T.setFrames fs, ?_, .returned (some (.int 1)), hrun, hended, rfl, ⟨_, rfl⟩, hW, hframe⟩
  jvm_step X.here [X.here.top, hx, hb, hdg, hmeth', hr, ret, narrow_b1]
  (try refine ⟨rfl, ?_⟩); (try refine ⟨rfl, ?_⟩)
  first | (intro acts; rw [hret _ acts rfl rfl rfl]) | rw [hret _ _ rfl rfl rfl]
  exact Steps.refl _
/-- what holds at the law's entry: the machine, the code, the tables' words (any of lw_tbl by 'hts w (by decide +kernel)'), the script of L ints xs at the cell b, what the Statement gives of the start (any of its parts by flat_of_before) -/
def lw_At (p : Program) (s : State) (m : MethodId) (meth : Method) (c : Code) (b L : Nat) (xs : Nat → Int32) : Prop :=
  p.tables.exec = Jvm.exec ∧ c.code = code ∧ meth.sig.returnType = ret ∧ c.maxLocals = 8 ∧ s.vm.findClass R_law = some m.cls ∧ (∀ w ∈ lw_tbl, w.before #[Value.ref b] s = true) ∧ va_X b L xs s s.heap ∧ b < s.heap.size ∧ meth.locks = false ∧ (Jvm.Cond.and given_1 narrow_1).before #[Value.ref b] s = true ∧ c.exceptionTable.toList = []
/-- the pure start: no cell yet; the script and its length -/
def lw_σ (L : Nat) (xs : Nat → Int32) : pm_S := (0, fun _ _ => none, fun c j => if c = 1000 then xs j else if c = 1001 then Int32.ofNat L else 0, fun _ _ => 0)
/-- what is left: the law's own walk on the pure machine -/
def lw_goal : Prop := ∀ (L : Nat) (xs : Nat → Int32), L ≤ 2048 → ∃ σ' : pm_S, pm_Go 11 m_L_law 0 (pm_en [.ref 1000] 8) [] 0 0 (lw_σ L xs) (.inl (some (.int 1)), σ')
theorem lw_arr {args : Array Value} {s : State} {ty : FieldType} (h : (Cond.arrayClass ty).before args s = true) (hty : ∀ C, ty ≠ .object C) : ∃ cA : ClassId, ArrOfT s cA ty ∧ va_RA s cA ty := by
  obtain ⟨cA, kA, comp, h1, h2, h3⟩ := Cond.arrayClass_spec h
  refine ⟨cA, fun n z => ⟨fun k h => (by cases h), kA, h2, comp, h3⟩, ?_⟩
  cases ty with
  | object C => exact absurd rfl (hty C)
  | _ => exact h1
theorem lw_over {args : Array Value} {s : State} {t : FieldType} (h : (Cond.arrayOver (.array t)).before args s = true) : ∃ cA : ClassId, ArrOfT s cA (.array t) ∧ va_RA s cA (.array t) := by
  simp only [Cond.before, Cond.holds, Cond.value] at h
  cases hf : s.vm.findClass (FieldType.array t).toString with
  | none => rw [hf] at h; simp at h
  | some comp =>
    rw [hf] at h
    simp only [Option.bind_some] at h
    generalize hF : (s.vm.classes.findIdx? fun (x : Class) => match x.kind with | .array component _ => component == comp | _ => false) = fi at h
    cases fi with
    | none => simp at h
    | some cA =>
      simp only [Option.bind_some] at h
      cases hk : s.vm.classes[cA]? with
      | none => rw [hk] at h; simp at h
      | some k =>
        rw [hk] at h
        simp only [Option.map_some] at h
        cases hkk : k.kind with
        | array c2 ty =>
          rw [hkk] at h
          simp at h
          exact ⟨cA, fun n z => ⟨fun k h => (by cases h), k, hk, c2, by rw [hkk, h.1]⟩, h.2⟩
        | _ => rw [hkk] at h; simp at h
theorem pm_ao_args {t : FieldType} {A : Array Value} {U : State} (h : (Cond.arrayOver (.array t)).before A U = true) : va_AOA t U := h
theorem lw_str {args : Array Value} {s : State} {own tx : String} {k : Nat} (h1 : (Cond.stringRef own k tx).before args s = true) (h2 : (Cond.exactly (.string own k) "java/lang/String").before args s = true) : ∃ sa, vk_R own k tx sa s := by
  cases he : (Term.string own k).eval args s none [] s with
  | none => simp [Cond.before, Cond.holds, Cond.value, he] at h2
  | some v =>
    cases v with
    | ref sa => exact ⟨sa, vk_R.of (A := args) h1 he⟩
    | _ =>
      simp only [Cond.before, Cond.holds, Cond.value, he] at h2
      cases hfc : s.vm.findClass "java/lang/String" <;> simp [hfc] at h2
set_option maxRecDepth 20000 in
theorem lw_env {b : Nat} {s : State} (hts : ∀ w ∈ lw_tbl, w.before #[Value.ref b] s = true) (hgv : (Jvm.Cond.and given_1 narrow_1).before #[Value.ref b] s = true) : ∃ (D : va_G) (G : pm_G), pm_env D G (fun q : Nat => s.heap.size ≤ q) s := by
  have htg : ∀ w ∈ lw_gw, w.before #[Value.ref b] s = true := fun w hw => hts w (List.mem_filter.mp hw).1
  have ht1 : ∀ w ∈ tables_1, w.before #[Value.ref b] s = true := fun w hw => hts w (List.mem_append_right _ hw)
  have hfl := flat_of_before _ hgv
  obtain ⟨c0, i0, k0⟩ := u_known (C := cR_E) (T := cF_E) (N := 5) (n := 5) htg pc_E.2.1 (htg (.instantiable cR_E 5) w_17)
  obtain ⟨c1, i1, k1⟩ := u_known (C := cR_D) (T := cF_D) (N := 15) (n := 15) htg pc_D.2.1 (htg (.instantiable cR_D 15) w_25)
  obtain ⟨c2, i2, k2⟩ := u_known (C := cR_P) (T := cF_P) (N := 15) (n := 15) htg pc_P.2.1 (htg (.instantiable cR_P 15) w_105)
  obtain ⟨c3, i3, k3⟩ := u_known (C := cR_C) (T := cF_C) (N := 6) (n := 6) htg pc_C.2.1 (htg (.instantiable cR_C 6) w_169)
  obtain ⟨c4, i4, k4⟩ := u_known (C := cR_A) (T := cF_A) (N := 12) (n := 12) htg pc_A.2.1 (htg (.instantiable cR_A 12) w_195)
  obtain ⟨c5, i5, k5⟩ := u_known (C := cR_M) (T := cF_M) (N := 45) (n := 45) htg pc_M.2.1 (htg (.instantiable cR_M 45) w_696)
  obtain ⟨gI, a1, a2⟩ := lw_arr (htg _ w_103) (fun C h => by cases h)
  obtain ⟨gJ, b1, b2⟩ := lw_arr (htg _ w_167) (fun C h => by cases h)
  have o1 : (Cond.arrayOver (.array .int)).before #[Value.ref b] s = true := ht1 _ (List.mem_of_getElem? (i := 31) (by decide +kernel))
  have o2 : (Cond.arrayOver (.array .long)).before #[Value.ref b] s = true := ht1 _ (List.mem_of_getElem? (i := 112) (by decide +kernel))
  obtain ⟨gII, d1, d2⟩ := lw_over o1
  obtain ⟨gJJ, e1, e2⟩ := lw_over o2
  refine ⟨(fun k => if k = 0 then c0 else if k = 1 then c1 else if k = 2 then c2 else if k = 3 then c3 else if k = 4 then c4 else c5, fun k => if k = 0 then i0 else if k = 1 then i1 else if k = 2 then i2 else if k = 3 then i3 else if k = 4 then i4 else i5), (gI, gJ, gII, gJJ), ⟨?_, ?_⟩, ?_, ?_, ?_, ?_, ?_, ?_, ?_⟩
  · intro c q hq
    match c, hq with
    | 0, hq => cases hq; exact k0
    | 1, hq => cases hq; exact k1
    | 2, hq => cases hq; exact k2
    | 3, hq => cases hq; exact k3
    | 4, hq => cases hq; exact k4
    | 5, hq => cases hq; exact k5
    | k + 6, hq => simp [pm_vw] at hq
  · intro c q hq
    match c, hq with
    | 0, hq => cases hq; exact ⟨a1, a2⟩
    | 1, hq => cases hq; exact ⟨b1, b2⟩
    | 2, hq => cases hq; exact ⟨d1, d2⟩
    | 3, hq => cases hq; exact ⟨e1, e2⟩
    | k + 4, hq => simp [pm_tys] at hq
  · exact pm_zq_of (ht1 _ (List.mem_of_getElem? (i := 303) (by decide +kernel))) (ht1 _ (List.mem_of_getElem? (i := 7) (by decide +kernel))) (hfl _ (by decide +kernel)) (fun a h => Nat.not_le.mpr h)
  · exact pm_zq_of (ht1 _ (List.mem_of_getElem? (i := 305) (by decide +kernel))) (ht1 _ (List.mem_of_getElem? (i := 7) (by decide +kernel))) (hfl _ (by decide +kernel)) (fun a h => Nat.not_le.mpr h)
  · intro q hq
    simp only [pm_strs, List.mem_cons, List.not_mem_nil, or_false] at hq
    rcases hq with rfl | rfl | rfl | rfl | rfl | rfl
    · exact lw_str (ht1 _ (List.mem_of_getElem? (i := 317) (by decide +kernel))) (hfl _ (by decide +kernel))
    · exact lw_str (ht1 _ (List.mem_of_getElem? (i := 353) (by decide +kernel))) (hfl _ (by decide +kernel))
    · exact lw_str (ht1 _ (List.mem_of_getElem? (i := 374) (by decide +kernel))) (hfl _ (by decide +kernel))
    · exact lw_str (ht1 _ (List.mem_of_getElem? (i := 461) (by decide +kernel))) (hfl _ (by decide +kernel))
    · exact lw_str (ht1 _ (List.mem_of_getElem? (i := 619) (by decide +kernel))) (hfl _ (by decide +kernel))
    · exact lw_str (ht1 _ (List.mem_of_getElem? (i := 638) (by decide +kernel))) (hfl _ (by decide +kernel))
  · intro q hq
    simp only [pm_ncs, List.mem_cons, List.not_mem_nil, or_false] at hq
    rcases hq with rfl | rfl | rfl
    · exact va_Nc.of (args := #[Value.ref b]) (hfl _ (by decide +kernel))
    · exact va_Nc.of (args := #[Value.ref b]) (hfl _ (by decide +kernel))
    · exact va_Nc.of (args := #[Value.ref b]) (hfl _ (by decide +kernel))
  · exact (show va_AOA .int s from pm_ao_args o1)
  · exact (show va_AOA .long s from pm_ao_args o2)
  · exact va_Nw.of (A := #[Value.ref b]) rfl (ht1 _ (List.mem_of_getElem? (i := 26) (by decide +kernel)))
/-- from the entry, for every script of at most 2048 ints, the law comes to its end with true -/
theorem whole_start (hgo : lw_goal) {p : Program} {e : Env} {s : State} {m : MethodId} {below : List Frame} {meth : Method} {c : Code} (l : Launch) (hl : l.stackTraces = false) {b L : Nat} {xs : Nat → Int32} (hL : L ≤ 2048) (C0 : lw_At p s m meth c b L xs) : W p l e room_1 s m #[Value.ref b] below meth c s.heap [] 0 0 (lw_Z below #[Value.ref b] s) (entryFrame m ([Value.ref b] : List Value).toArray 8) := by
  obtain ⟨hx, hb, hr, hml, hown, hts, hX, hbl, hlocks, hgv, hext⟩ := id C0
  obtain ⟨D, G, hV⟩ := lw_env hts hgv
  obtain ⟨σ', hg⟩ := hgo L xs hL
  have hs := hg (pm_sound l D G) (so_all l D G)
  have K := hs p e room_1 s m #[Value.ref b] below meth c s.heap [] (fun q : Nat => s.heap.size ≤ q) (fun i => if i = 1000 then b else 0) ((lg_sl [Value.ref b] ++ List.replicate (8 - (lg_sl [Value.ref b]).length) Slot.unset).toArray) (fun _ _ o _ => o = .returned (some (.int 1))) (fun _ _ _ => True) (fun q : Nat => s.heap.size ≤ q)
    ⟨hx, hb, hr, hml, hown, fun w hw => hts w (List.mem_filter.mp hw).1, hlocks, hext, fun q h => h, ⟨by decide, by decide, by decide, by decide⟩, fun z => absurd z (by decide), hV, hl⟩
    (fun _ => ⟨L, rfl, by omega, hX, hbl, Nat.not_le.mpr hbl⟩)
    (pm_en_loc (ad := fun i => if i = 1000 then b else 0) (As := [.ref 1000]) (n := 8) rfl (by decide))
    (fun k q h => by simp [pm_ws, lw_σ] at h) ⟨fun i j p q h => by simp [pm_ws, lw_σ] at h, fun k q h => by simp [pm_ws, lw_σ] at h⟩ va_S.rf ⟨Nat.zero_le _, fun _ _ _ h => by cases h⟩ (fun _ h => h) (fun _ _ _ _ => rfl)
  rw [lg_entry_eq]
  intro T hT X
  obtain ⟨t, a1, o, b1, b2, b3, Ls, b4, b5⟩ := K T hT X
  refine ⟨t, a1, o, b1, b2, b3, b4.1, b4.2.1, ?_⟩
  exact b4.2.2.weaken (fun y hy hlt => absurd hlt (Nat.not_lt.mpr (b5 y hy))) (Nat.le_refl _) (Nat.le_refl _)
-- ===== YOUR PART ENDS =====
set_option maxHeartbeats 4000000 in
theorem lw_walk (hgo : lw_goal) (l : Launch) (hl : l.stackTraces = false) (b : Addr) (xs : List Int32) : MetFree l x (headSpec (Jvm.Cond.code x code maxLocals ret :: tables_1) room_1) (lw_P b xs) (fun _ _ _ _ _ => True) lw_Q := by
  refine MetFree.of_bodyS (code := code) (maxLocals := maxLocals) (ret := ret) (by decide) ?_ ?_
  · intro args s m h hn
    obtain ⟨meth, c, h1, h2, h3, h4, h5, h6, -, -⟩ := Cond.code_spec hn (atoms_spec (ws := Jvm.Cond.code x code maxLocals ret :: tables_1) h _ List.mem_cons_self)
    exact ⟨meth, c, h1, h2, h3, h4, h5, h6⟩
  · intro p e s m args below meth c s₁ B hml0 hP _
    obtain ⟨rfl, hx, hbd, hgv⟩ := hP
    obtain ⟨scr, harrAt, hlist, hof, hsmall⟩ := hx
    obtain ⟨hcb, hkn, -, -⟩ := State.arrayAt?_spec harrAt
    have hown : s.vm.findClass R_law = some m.cls := findClass_of_methodNamed B.named
    have hts0 : ∀ c ∈ (Jvm.Cond.code x code maxLocals ret :: tables_1), c.before #[Value.ref b] s = true := atoms_spec (ws := Jvm.Cond.code x code maxLocals ret :: tables_1) B.pre
    have hts : ∀ w ∈ lw_tbl, w.before #[Value.ref b] s = true := k2_hts_sels lw_privs (fun w hw => hts0 w (List.mem_cons_of_mem _ hw)) lw_privs_ok
    have hml : c.maxLocals = 8 := B.maxLocals_eq (hts0 _ List.mem_cons_self)
    have hext : c.exceptionTable.toList = [] := by
      obtain ⟨meth9, c9, h1, h2, -, -, -, -, h7, -⟩ := Cond.code_spec B.named (hts0 _ List.mem_cons_self)
      cases Option.some.inj (h1.symm.trans B.method)
      cases Option.some.inj (h2.symm.trans (Stand.of_body B).code)
      rw [Array.isEmpty_iff.mp h7]
    have X₀ : Stand p l e room_1 s m #[Value.ref b] below meth c s₁ [] 0 0 := Stand.of_body B
    have hh0 : s₁.heap = s.heap := by rw [B.state]; rfl
    have hsz : scr.slots.size = xs.length := by rw [← Array.length_toList, hlist, List.length_map]
    have hval : ∀ j : Nat, j < xs.length → scr.slots[j]? = some (.int (xs.getD j 0)) := fun j hj => by
      rw [← Array.getElem?_toList, hlist]
      simp [hj]
    have hbl : b < s.heap.size := (Array.getElem?_eq_some_iff.mp hcb).1
    have hX : va_X b xs.length (fun j => xs.getD j 0) s s.heap := ⟨scr, hcb, hof, hkn, hsz, hval⟩
    have K : W p l e room_1 s m #[Value.ref b] below meth c s₁.heap [] 0 0 (lw_Z below #[Value.ref b] s) (entryFrame m ([Value.ref b] : List Value).toArray 8) := by
      rw [hh0]
      exact whole_start hgo l hl hbd ⟨B.exec, B.bytes, B.returns, hml, hown, hts, hX, hbl, B.notSynchronized, hgv, hext⟩
    obtain ⟨t, a1, o, b1, b2, b3⟩ := K s₁ rfl X₀
    exact ⟨t, o, a1, b1, b2, b3⟩
theorem lw_pre_spec {args : Array Value} {s : State} (h : (Jvm.Cond.and given_1 narrow_1).before args s = true) (hr : rest_1_c.before args s = true) : ∃ (b : Addr) (xs : List Int32), lw_P b xs args s := by
  have hs := flat_of_before _ h
  have hq := flat_of_before _ hr
  have hc : (Cond.count 1).before args s = true := hs _ (by decide +kernel)
  have harr : (Cond.arrayOf (.arg 0) .int).before args s = true := hs _ (by decide +kernel)
  have hle : (Cond.le (.length (.arg 0)) (.int 2048)).before args s = true := hs _ (by decide +kernel)
  have hlen : (Cond.isInt (.length (.arg 0))).before args s = true := hq _ (by decide +kernel)
  have hall : (Cond.all (.arg 0) (.isInt (.elem (.arg 0) (.index 0)))).before args s = true := hq _ (by decide +kernel)
  obtain ⟨b, xs, hb, hx⟩ := State.ints_of_pre rfl harr hlen hall
  have hsm : xs.length < 2 ^ 31 := hx.choose_spec.2.2.2
  have hev : (Term.length (.arg 0)).eval args s none [] s = some (.int xs.length.toInt32) := hx.length_eval hb
  have hv := Cond.le_ints hev (show (Term.int 2048).eval args s none [] s = some (.int 2048) from rfl)
  have hd : xs.length.toInt32 ≤ 2048 := by
    simpa [Cond.before, Cond.holds, hv] using hle
  have hN : xs.length ≤ 2048 := (Int32.ofNat_le_ofNat hsm (by decide)).mp (show Int32.ofNat xs.length ≤ Int32.ofNat 2048 from hd)
  exact ⟨b, xs, Cond.one_arg hc (show args[0]? = some (.ref b) from hb), hx, hN, h⟩
theorem lw_comes (hgo : lw_goal) (l : Launch) (hl : l.stackTraces = false) : Comes l x (Jvm.Cond.code x code maxLocals ret :: tables_1) room_1 (fun tb e args s => Calls_1 tb e args s ∧ rest_1 tb e args s ∧ Pre_1 tb e args s)
    (fun _ _ args s o t => lw_Q args s o t) := by
  intro p e ha hc hk s m args below hf hfit hheap happ hpre
  obtain ⟨b, xs, hP⟩ := lw_pre_spec hpre.2.2 hpre.2.1
  obtain ⟨k, o, h1, h2, h3, hQ⟩ := lw_walk hgo l hl b xs p e ha hc hk s m args below hf ((Spec.applies_iff_loose hf).mp happ).1 hP trivial
  exact ⟨k, o, h1, h2, h3, hQ⟩
theorem lw_frame {s t : State} {o : Outcome} {args : Array Value} (h : Framed s o t [] 601024 7293034) :
    Framed s o t (fieldLocs frame_1_writes args s ++ arrayLocs frame_1_arrays args s ++ staticLocs frame_1_statics s) 601024 7293034 := h
theorem lw_limb (hgo : lw_goal) (L : Cond) (hL : ∀ (args : Array Value) (s t : State), L.after args s (.returned (some (.int 1))) t = true) :
    ArmFor flags0 classFile x code maxLocals ret World_1 tables_1 room_1 Calls_1 rest_1 Pre_1
      (fun tb e a s o t => postC L tb e a s o t ∧ Framed s o t (fieldLocs frame_1_writes a s ++ arrayLocs frame_1_arrays a s ++ staticLocs frame_1_statics s) 601024 7293034) := by
  intro l hfl _ _ p e ha hc hk s m args below hf hfit hheap happ hpre
  have hl : l.stackTraces = false := by
    unfold Launch.stackTraces
    rw [hfl]
    decide
  obtain ⟨k, o, h1, h2, h3, rfl, hF⟩ := lw_comes hgo l hl p e ha hc hk s m args below hf hfit hheap happ hpre
  exact ⟨k, _, h1, h2, h3, hL args s _, lw_frame hF⟩
theorem i_vc_open (hgo : lw_goal) : Claimed_1_1 ∧ Claimed_1_2 := ⟨lw_limb hgo limb_1_1 (fun args s t => by simp [limb_1_1, Cond.after, Cond.holds, Cond.value]), lw_limb hgo limb_1_2 (fun args s t => Cond.after_iff.mpr (by
  first | (rw [show limb_1_2 = Cond.eq .result (.int 1) from rfl, Cond.eq_ints (x := 1) (y := 1) rfl rfl]; simp; done) | (simp [limb_1_2, Cond.value, Term.eval]; done)))⟩
end
