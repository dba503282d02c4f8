-- ===== PART A: goes FIRST, ahead of the names: the tables' words, and 'selects' of the private methods out of them =====
/-- a private method of a class that the tables say can be made, by its rows of tables_1 -/
def lw_okq (q : MethodName × Nat) : Prop := (q.1.cls ≠ "java/lang/invoke/MethodHandle" ∧ q.1.cls ≠ "java/lang/invoke/VarHandle") ∧ Cond.instantiable q.1.cls q.2 ∈ tables_1 ∧ Cond.privateMethod q.1 ∈ tables_1 ∧ Cond.instanceMethod q.1 ∈ tables_1
theorem lw_p0 : lw_okq (⟨"RoutesByTries$Trie", "empty", "()V"⟩, 12) := ⟨⟨by decide +kernel, by decide +kernel⟩, List.mem_of_getElem? (i := 102) (by decide +kernel), List.mem_of_getElem? (i := 108) (by decide +kernel), List.mem_of_getElem? (i := 109) (by decide +kernel)⟩
theorem lw_p1 : lw_okq (⟨"RoutesByTries$Trie", "addNode", "(I)I"⟩, 12) := ⟨⟨by decide +kernel, by decide +kernel⟩, List.mem_of_getElem? (i := 102) (by decide +kernel), List.mem_of_getElem? (i := 112) (by decide +kernel), List.mem_of_getElem? (i := 113) (by decide +kernel)⟩
theorem lw_p2 : lw_okq (⟨"RoutesByTries", "refuse", "(I)I"⟩, 10) := ⟨⟨by decide +kernel, by decide +kernel⟩, List.mem_of_getElem? (i := 13) (by decide +kernel), List.mem_of_getElem? (i := 269) (by decide +kernel), List.mem_of_getElem? (i := 270) (by decide +kernel)⟩
theorem lw_p3 : lw_okq (⟨"RoutesByTries$Trie", "plant", "(ILRoutesByTries$Route;)V"⟩, 12) := ⟨⟨by decide +kernel, by decide +kernel⟩, List.mem_of_getElem? (i := 102) (by decide +kernel), List.mem_of_getElem? (i := 407) (by decide +kernel), List.mem_of_getElem? (i := 408) (by decide +kernel)⟩
theorem lw_p4 : lw_okq (⟨"RoutesByTries$Trie", "findWays", "(LRoutesByTries$Book;)V"⟩, 12) := ⟨⟨by decide +kernel, by decide +kernel⟩, List.mem_of_getElem? (i := 102) (by decide +kernel), List.mem_of_getElem? (i := 429) (by decide +kernel), List.mem_of_getElem? (i := 430) (by decide +kernel)⟩
theorem lw_p5 : lw_okq (⟨"RoutesByTries$Walk", "look", "(IIII)I"⟩, 11) := ⟨⟨by decide +kernel, by decide +kernel⟩, List.mem_of_getElem? (i := 96) (by decide +kernel), List.mem_of_getElem? (i := 516) (by decide +kernel), List.mem_of_getElem? (i := 517) (by decide +kernel)⟩
theorem lw_p6 : lw_okq (⟨"RoutesByTries$Walk", "nextBy", "(III)I"⟩, 11) := ⟨⟨by decide +kernel, by decide +kernel⟩, List.mem_of_getElem? (i := 96) (by decide +kernel), List.mem_of_getElem? (i := 526) (by decide +kernel), List.mem_of_getElem? (i := 527) (by decide +kernel)⟩
theorem lw_p7 : lw_okq (⟨"RoutesByTries$Walk", "lookAtMounts", "(IIII)I"⟩, 11) := ⟨⟨by decide +kernel, by decide +kernel⟩, List.mem_of_getElem? (i := 96) (by decide +kernel), List.mem_of_getElem? (i := 538) (by decide +kernel), List.mem_of_getElem? (i := 539) (by decide +kernel)⟩
theorem lw_p8 : lw_okq (⟨"RoutesByTries$Walk", "endBy", "(IIII)I"⟩, 11) := ⟨⟨by decide +kernel, by decide +kernel⟩, List.mem_of_getElem? (i := 96) (by decide +kernel), List.mem_of_getElem? (i := 544) (by decide +kernel), List.mem_of_getElem? (i := 545) (by decide +kernel)⟩
theorem lw_p9 : lw_okq (⟨"RoutesByTries", "letterBound", "(II)I"⟩, 10) := ⟨⟨by decide +kernel, by decide +kernel⟩, List.mem_of_getElem? (i := 13) (by decide +kernel), List.mem_of_getElem? (i := 556) (by decide +kernel), List.mem_of_getElem? (i := 557) (by decide +kernel)⟩
theorem lw_p10 : lw_okq (⟨"RoutesByTries", "askedVerb", "(I)I"⟩, 10) := ⟨⟨by decide +kernel, by decide +kernel⟩, List.mem_of_getElem? (i := 13) (by decide +kernel), List.mem_of_getElem? (i := 576) (by decide +kernel), List.mem_of_getElem? (i := 577) (by decide +kernel)⟩
theorem lw_p11 : lw_okq (⟨"RoutesByTries", "clashing", "(II)Z"⟩, 10) := ⟨⟨by decide +kernel, by decide +kernel⟩, List.mem_of_getElem? (i := 13) (by decide +kernel), List.mem_of_getElem? (i := 614) (by decide +kernel), List.mem_of_getElem? (i := 615) (by decide +kernel)⟩
theorem lw_p12 : lw_okq (⟨"RoutesByTries", "give", "(IIII)V"⟩, 10) := ⟨⟨by decide +kernel, by decide +kernel⟩, List.mem_of_getElem? (i := 13) (by decide +kernel), List.mem_of_getElem? (i := 631) (by decide +kernel), List.mem_of_getElem? (i := 632) (by decide +kernel)⟩
theorem lw_p13 : lw_okq (⟨"RoutesByTries", "pathBuilt", "(I)I"⟩, 10) := ⟨⟨by decide +kernel, by decide +kernel⟩, List.mem_of_getElem? (i := 13) (by decide +kernel), List.mem_of_getElem? (i := 635) (by decide +kernel), List.mem_of_getElem? (i := 636) (by decide +kernel)⟩
theorem lw_p14 : lw_okq (⟨"RoutesByTries", "layWay", "(II)Z"⟩, 10) := ⟨⟨by decide +kernel, by decide +kernel⟩, List.mem_of_getElem? (i := 13) (by decide +kernel), List.mem_of_getElem? (i := 639) (by decide +kernel), List.mem_of_getElem? (i := 640) (by decide +kernel)⟩
theorem lw_p15 : lw_okq (⟨"RoutesByTries", "lay", "(LRoutesByTries$Route;)Z"⟩, 10) := ⟨⟨by decide +kernel, by decide +kernel⟩, List.mem_of_getElem? (i := 13) (by decide +kernel), List.mem_of_getElem? (i := 643) (by decide +kernel), List.mem_of_getElem? (i := 644) (by decide +kernel)⟩
def lw_privs_1 : List (MethodName × Nat) := [(⟨"RoutesByTries$Trie", "empty", "()V"⟩, 12), (⟨"RoutesByTries$Trie", "addNode", "(I)I"⟩, 12), (⟨"RoutesByTries", "refuse", "(I)I"⟩, 10), (⟨"RoutesByTries$Trie", "plant", "(ILRoutesByTries$Route;)V"⟩, 12), (⟨"RoutesByTries$Trie", "findWays", "(LRoutesByTries$Book;)V"⟩, 12), (⟨"RoutesByTries$Walk", "look", "(IIII)I"⟩, 11), (⟨"RoutesByTries$Walk", "nextBy", "(III)I"⟩, 11), (⟨"RoutesByTries$Walk", "lookAtMounts", "(IIII)I"⟩, 11), (⟨"RoutesByTries$Walk", "endBy", "(IIII)I"⟩, 11), (⟨"RoutesByTries", "letterBound", "(II)I"⟩, 10), (⟨"RoutesByTries", "askedVerb", "(I)I"⟩, 10), (⟨"RoutesByTries", "clashing", "(II)Z"⟩, 10), (⟨"RoutesByTries", "give", "(IIII)V"⟩, 10), (⟨"RoutesByTries", "pathBuilt", "(I)I"⟩, 10), (⟨"RoutesByTries", "layWay", "(II)Z"⟩, 10), (⟨"RoutesByTries", "lay", "(LRoutesByTries$Route;)Z"⟩, 10)]
theorem lw_r1 : ∀ q ∈ lw_privs_1, lw_okq q := List.forall_mem_cons.mpr ⟨lw_p0, List.forall_mem_cons.mpr ⟨lw_p1, List.forall_mem_cons.mpr ⟨lw_p2, List.forall_mem_cons.mpr ⟨lw_p3, List.forall_mem_cons.mpr ⟨lw_p4, List.forall_mem_cons.mpr ⟨lw_p5, List.forall_mem_cons.mpr ⟨lw_p6, List.forall_mem_cons.mpr ⟨lw_p7, List.forall_mem_cons.mpr ⟨lw_p8, List.forall_mem_cons.mpr ⟨lw_p9, List.forall_mem_cons.mpr ⟨lw_p10, List.forall_mem_cons.mpr ⟨lw_p11, List.forall_mem_cons.mpr ⟨lw_p12, List.forall_mem_cons.mpr ⟨lw_p13, List.forall_mem_cons.mpr ⟨lw_p14, List.forall_mem_cons.mpr ⟨lw_p15, fun _ h => absurd h List.not_mem_nil⟩⟩⟩⟩⟩⟩⟩⟩⟩⟩⟩⟩⟩⟩⟩⟩
theorem lw_p16 : lw_okq (⟨"RoutesByTries", "refuseLong", "(I)J"⟩, 10) := ⟨⟨by decide +kernel, by decide +kernel⟩, List.mem_of_getElem? (i := 13) (by decide +kernel), List.mem_of_getElem? (i := 668) (by decide +kernel), List.mem_of_getElem? (i := 669) (by decide +kernel)⟩
theorem lw_p17 : lw_okq (⟨"RoutesByTries", "firstNotSo", "(I)I"⟩, 10) := ⟨⟨by decide +kernel, by decide +kernel⟩, List.mem_of_getElem? (i := 13) (by decide +kernel), List.mem_of_getElem? (i := 691) (by decide +kernel), List.mem_of_getElem? (i := 692) (by decide +kernel)⟩
theorem lw_p18 : lw_okq (⟨"RoutesByTriesModel", "no", "(I)I"⟩, 52) := ⟨⟨by decide +kernel, by decide +kernel⟩, List.mem_of_getElem? (i := 736) (by decide +kernel), List.mem_of_getElem? (i := 906) (by decide +kernel), List.mem_of_getElem? (i := 907) (by decide +kernel)⟩
theorem lw_p19 : lw_okq (⟨"RoutesByTriesModel", "statement", "()Z"⟩, 52) := ⟨⟨by decide +kernel, by decide +kernel⟩, List.mem_of_getElem? (i := 736) (by decide +kernel), List.mem_of_getElem? (i := 914) (by decide +kernel), List.mem_of_getElem? (i := 915) (by decide +kernel)⟩
theorem lw_p20 : lw_okq (⟨"RoutesByTriesModel", "sign", "()I"⟩, 52) := ⟨⟨by decide +kernel, by decide +kernel⟩, List.mem_of_getElem? (i := 736) (by decide +kernel), List.mem_of_getElem? (i := 918) (by decide +kernel), List.mem_of_getElem? (i := 919) (by decide +kernel)⟩
theorem lw_p21 : lw_okq (⟨"RoutesByTriesModel", "readsDigit", "()Z"⟩, 52) := ⟨⟨by decide +kernel, by decide +kernel⟩, List.mem_of_getElem? (i := 736) (by decide +kernel), List.mem_of_getElem? (i := 922) (by decide +kernel), List.mem_of_getElem? (i := 923) (by decide +kernel)⟩
theorem lw_p22 : lw_okq (⟨"RoutesByTriesModel", "readsSegments", "()Z"⟩, 52) := ⟨⟨by decide +kernel, by decide +kernel⟩, List.mem_of_getElem? (i := 736) (by decide +kernel), List.mem_of_getElem? (i := 929) (by decide +kernel), List.mem_of_getElem? (i := 930) (by decide +kernel)⟩
theorem lw_p23 : lw_okq (⟨"RoutesByTriesModel", "readsSegment", "()Z"⟩, 52) := ⟨⟨by decide +kernel, by decide +kernel⟩, List.mem_of_getElem? (i := 736) (by decide +kernel), List.mem_of_getElem? (i := 933) (by decide +kernel), List.mem_of_getElem? (i := 934) (by decide +kernel)⟩
theorem lw_p24 : lw_okq (⟨"RoutesByTriesModel", "passesAll", "(IZ)V"⟩, 52) := ⟨⟨by decide +kernel, by decide +kernel⟩, List.mem_of_getElem? (i := 736) (by decide +kernel), List.mem_of_getElem? (i := 937) (by decide +kernel), List.mem_of_getElem? (i := 938) (by decide +kernel)⟩
theorem lw_p25 : lw_okq (⟨"RoutesByTriesModel", "passes", "([I)V"⟩, 52) := ⟨⟨by decide +kernel, by decide +kernel⟩, List.mem_of_getElem? (i := 736) (by decide +kernel), List.mem_of_getElem? (i := 941) (by decide +kernel), List.mem_of_getElem? (i := 942) (by decide +kernel)⟩
theorem lw_p26 : lw_okq (⟨"RoutesByTriesModel", "comesTold", "(I)Z"⟩, 52) := ⟨⟨by decide +kernel, by decide +kernel⟩, List.mem_of_getElem? (i := 736) (by decide +kernel), List.mem_of_getElem? (i := 945) (by decide +kernel), List.mem_of_getElem? (i := 946) (by decide +kernel)⟩
theorem lw_p27 : lw_okq (⟨"RoutesByTriesModel", "comesKind", "(III)Z"⟩, 52) := ⟨⟨by decide +kernel, by decide +kernel⟩, List.mem_of_getElem? (i := 736) (by decide +kernel), List.mem_of_getElem? (i := 949) (by decide +kernel), List.mem_of_getElem? (i := 950) (by decide +kernel)⟩
theorem lw_p28 : lw_okq (⟨"RoutesByTriesModel", "comesDrop", "(I)Z"⟩, 52) := ⟨⟨by decide +kernel, by decide +kernel⟩, List.mem_of_getElem? (i := 736) (by decide +kernel), List.mem_of_getElem? (i := 956) (by decide +kernel), List.mem_of_getElem? (i := 957) (by decide +kernel)⟩
theorem lw_p29 : lw_okq (⟨"RoutesByTriesModel", "isRoute", "(I)Z"⟩, 52) := ⟨⟨by decide +kernel, by decide +kernel⟩, List.mem_of_getElem? (i := 736) (by decide +kernel), List.mem_of_getElem? (i := 960) (by decide +kernel), List.mem_of_getElem? (i := 961) (by decide +kernel)⟩
theorem lw_p30 : lw_okq (⟨"RoutesByTriesModel", "comesRoute", "(III)Z"⟩, 52) := ⟨⟨by decide +kernel, by decide +kernel⟩, List.mem_of_getElem? (i := 736) (by decide +kernel), List.mem_of_getElem? (i := 964) (by decide +kernel), List.mem_of_getElem? (i := 965) (by decide +kernel)⟩
theorem lw_p31 : lw_okq (⟨"RoutesByTriesModel", "areSegments", "(IIZ)Z"⟩, 52) := ⟨⟨by decide +kernel, by decide +kernel⟩, List.mem_of_getElem? (i := 736) (by decide +kernel), List.mem_of_getElem? (i := 971) (by decide +kernel), List.mem_of_getElem? (i := 972) (by decide +kernel)⟩
def lw_privs_2 : List (MethodName × Nat) := [(⟨"RoutesByTries", "refuseLong", "(I)J"⟩, 10), (⟨"RoutesByTries", "firstNotSo", "(I)I"⟩, 10), (⟨"RoutesByTriesModel", "no", "(I)I"⟩, 52), (⟨"RoutesByTriesModel", "statement", "()Z"⟩, 52), (⟨"RoutesByTriesModel", "sign", "()I"⟩, 52), (⟨"RoutesByTriesModel", "readsDigit", "()Z"⟩, 52), (⟨"RoutesByTriesModel", "readsSegments", "()Z"⟩, 52), (⟨"RoutesByTriesModel", "readsSegment", "()Z"⟩, 52), (⟨"RoutesByTriesModel", "passesAll", "(IZ)V"⟩, 52), (⟨"RoutesByTriesModel", "passes", "([I)V"⟩, 52), (⟨"RoutesByTriesModel", "comesTold", "(I)Z"⟩, 52), (⟨"RoutesByTriesModel", "comesKind", "(III)Z"⟩, 52), (⟨"RoutesByTriesModel", "comesDrop", "(I)Z"⟩, 52), (⟨"RoutesByTriesModel", "isRoute", "(I)Z"⟩, 52), (⟨"RoutesByTriesModel", "comesRoute", "(III)Z"⟩, 52), (⟨"RoutesByTriesModel", "areSegments", "(IIZ)Z"⟩, 52)]
theorem lw_r2 : ∀ q ∈ lw_privs_2, lw_okq q := List.forall_mem_cons.mpr ⟨lw_p16, List.forall_mem_cons.mpr ⟨lw_p17, List.forall_mem_cons.mpr ⟨lw_p18, List.forall_mem_cons.mpr ⟨lw_p19, List.forall_mem_cons.mpr ⟨lw_p20, List.forall_mem_cons.mpr ⟨lw_p21, List.forall_mem_cons.mpr ⟨lw_p22, List.forall_mem_cons.mpr ⟨lw_p23, List.forall_mem_cons.mpr ⟨lw_p24, List.forall_mem_cons.mpr ⟨lw_p25, List.forall_mem_cons.mpr ⟨lw_p26, List.forall_mem_cons.mpr ⟨lw_p27, List.forall_mem_cons.mpr ⟨lw_p28, List.forall_mem_cons.mpr ⟨lw_p29, List.forall_mem_cons.mpr ⟨lw_p30, List.forall_mem_cons.mpr ⟨lw_p31, fun _ h => absurd h List.not_mem_nil⟩⟩⟩⟩⟩⟩⟩⟩⟩⟩⟩⟩⟩⟩⟩⟩
theorem lw_p32 : lw_okq (⟨"RoutesByTriesModel", "isMore", "(IIII)V"⟩, 52) := ⟨⟨by decide +kernel, by decide +kernel⟩, List.mem_of_getElem? (i := 736) (by decide +kernel), List.mem_of_getElem? (i := 978) (by decide +kernel), List.mem_of_getElem? (i := 979) (by decide +kernel)⟩
theorem lw_p33 : lw_okq (⟨"RoutesByTriesModel", "setThere", "()I"⟩, 52) := ⟨⟨by decide +kernel, by decide +kernel⟩, List.mem_of_getElem? (i := 736) (by decide +kernel), List.mem_of_getElem? (i := 986) (by decide +kernel), List.mem_of_getElem? (i := 987) (by decide +kernel)⟩
theorem lw_p34 : lw_okq (⟨"RoutesByTriesModel", "isMount", "(I)Z"⟩, 52) := ⟨⟨by decide +kernel, by decide +kernel⟩, List.mem_of_getElem? (i := 736) (by decide +kernel), List.mem_of_getElem? (i := 1005) (by decide +kernel), List.mem_of_getElem? (i := 1006) (by decide +kernel)⟩
theorem lw_p35 : lw_okq (⟨"RoutesByTriesModel", "parametersOf", "(I)I"⟩, 52) := ⟨⟨by decide +kernel, by decide +kernel⟩, List.mem_of_getElem? (i := 736) (by decide +kernel), List.mem_of_getElem? (i := 1021) (by decide +kernel), List.mem_of_getElem? (i := 1022) (by decide +kernel)⟩
theorem lw_p36 : lw_okq (⟨"RoutesByTriesModel", "hasRest", "(I)Z"⟩, 52) := ⟨⟨by decide +kernel, by decide +kernel⟩, List.mem_of_getElem? (i := 736) (by decide +kernel), List.mem_of_getElem? (i := 1025) (by decide +kernel), List.mem_of_getElem? (i := 1026) (by decide +kernel)⟩
theorem lw_p37 : lw_okq (⟨"RoutesByTriesModel", "typeOf", "(II)I"⟩, 52) := ⟨⟨by decide +kernel, by decide +kernel⟩, List.mem_of_getElem? (i := 736) (by decide +kernel), List.mem_of_getElem? (i := 1029) (by decide +kernel), List.mem_of_getElem? (i := 1030) (by decide +kernel)⟩
theorem lw_p38 : lw_okq (⟨"RoutesByTriesModel", "nodesOf", "(I)I"⟩, 52) := ⟨⟨by decide +kernel, by decide +kernel⟩, List.mem_of_getElem? (i := 736) (by decide +kernel), List.mem_of_getElem? (i := 1041) (by decide +kernel), List.mem_of_getElem? (i := 1042) (by decide +kernel)⟩
theorem lw_p39 : lw_okq (⟨"RoutesByTriesModel", "isNewNode", "(II)Z"⟩, 52) := ⟨⟨by decide +kernel, by decide +kernel⟩, List.mem_of_getElem? (i := 736) (by decide +kernel), List.mem_of_getElem? (i := 1045) (by decide +kernel), List.mem_of_getElem? (i := 1046) (by decide +kernel)⟩
theorem lw_p40 : lw_okq (⟨"RoutesByTriesModel", "beginAlike", "(III)Z"⟩, 52) := ⟨⟨by decide +kernel, by decide +kernel⟩, List.mem_of_getElem? (i := 736) (by decide +kernel), List.mem_of_getElem? (i := 1049) (by decide +kernel), List.mem_of_getElem? (i := 1050) (by decide +kernel)⟩
theorem lw_p41 : lw_okq (⟨"RoutesByTriesModel", "opens", "(I)V"⟩, 52) := ⟨⟨by decide +kernel, by decide +kernel⟩, List.mem_of_getElem? (i := 736) (by decide +kernel), List.mem_of_getElem? (i := 1060) (by decide +kernel), List.mem_of_getElem? (i := 1061) (by decide +kernel)⟩
theorem lw_p42 : lw_okq (⟨"RoutesByTriesModel", "notAsked", "(II)I"⟩, 52) := ⟨⟨by decide +kernel, by decide +kernel⟩, List.mem_of_getElem? (i := 736) (by decide +kernel), List.mem_of_getElem? (i := 1068) (by decide +kernel), List.mem_of_getElem? (i := 1069) (by decide +kernel)⟩
theorem lw_p43 : lw_okq (⟨"RoutesByTriesModel", "matchOf", "(II)I"⟩, 52) := ⟨⟨by decide +kernel, by decide +kernel⟩, List.mem_of_getElem? (i := 736) (by decide +kernel), List.mem_of_getElem? (i := 1072) (by decide +kernel), List.mem_of_getElem? (i := 1073) (by decide +kernel)⟩
theorem lw_p44 : lw_okq (⟨"RoutesByTriesModel", "setOf", "(I)I"⟩, 52) := ⟨⟨by decide +kernel, by decide +kernel⟩, List.mem_of_getElem? (i := 736) (by decide +kernel), List.mem_of_getElem? (i := 1076) (by decide +kernel), List.mem_of_getElem? (i := 1077) (by decide +kernel)⟩
theorem lw_p45 : lw_okq (⟨"RoutesByTriesModel", "looksAt", "(IIIIIII)V"⟩, 52) := ⟨⟨by decide +kernel, by decide +kernel⟩, List.mem_of_getElem? (i := 736) (by decide +kernel), List.mem_of_getElem? (i := 1080) (by decide +kernel), List.mem_of_getElem? (i := 1081) (by decide +kernel)⟩
theorem lw_p46 : lw_okq (⟨"RoutesByTriesModel", "goesStage", "()V"⟩, 52) := ⟨⟨by decide +kernel, by decide +kernel⟩, List.mem_of_getElem? (i := 736) (by decide +kernel), List.mem_of_getElem? (i := 1084) (by decide +kernel), List.mem_of_getElem? (i := 1085) (by decide +kernel)⟩
theorem lw_p47 : lw_okq (⟨"RoutesByTriesModel", "goesBack", "()V"⟩, 52) := ⟨⟨by decide +kernel, by decide +kernel⟩, List.mem_of_getElem? (i := 736) (by decide +kernel), List.mem_of_getElem? (i := 1093) (by decide +kernel), List.mem_of_getElem? (i := 1094) (by decide +kernel)⟩
def lw_privs_3 : List (MethodName × Nat) := [(⟨"RoutesByTriesModel", "isMore", "(IIII)V"⟩, 52), (⟨"RoutesByTriesModel", "setThere", "()I"⟩, 52), (⟨"RoutesByTriesModel", "isMount", "(I)Z"⟩, 52), (⟨"RoutesByTriesModel", "parametersOf", "(I)I"⟩, 52), (⟨"RoutesByTriesModel", "hasRest", "(I)Z"⟩, 52), (⟨"RoutesByTriesModel", "typeOf", "(II)I"⟩, 52), (⟨"RoutesByTriesModel", "nodesOf", "(I)I"⟩, 52), (⟨"RoutesByTriesModel", "isNewNode", "(II)Z"⟩, 52), (⟨"RoutesByTriesModel", "beginAlike", "(III)Z"⟩, 52), (⟨"RoutesByTriesModel", "opens", "(I)V"⟩, 52), (⟨"RoutesByTriesModel", "notAsked", "(II)I"⟩, 52), (⟨"RoutesByTriesModel", "matchOf", "(II)I"⟩, 52), (⟨"RoutesByTriesModel", "setOf", "(I)I"⟩, 52), (⟨"RoutesByTriesModel", "looksAt", "(IIIIIII)V"⟩, 52), (⟨"RoutesByTriesModel", "goesStage", "()V"⟩, 52), (⟨"RoutesByTriesModel", "goesBack", "()V"⟩, 52)]
theorem lw_r3 : ∀ q ∈ lw_privs_3, lw_okq q := List.forall_mem_cons.mpr ⟨lw_p32, List.forall_mem_cons.mpr ⟨lw_p33, List.forall_mem_cons.mpr ⟨lw_p34, List.forall_mem_cons.mpr ⟨lw_p35, List.forall_mem_cons.mpr ⟨lw_p36, List.forall_mem_cons.mpr ⟨lw_p37, List.forall_mem_cons.mpr ⟨lw_p38, List.forall_mem_cons.mpr ⟨lw_p39, List.forall_mem_cons.mpr ⟨lw_p40, List.forall_mem_cons.mpr ⟨lw_p41, List.forall_mem_cons.mpr ⟨lw_p42, List.forall_mem_cons.mpr ⟨lw_p43, List.forall_mem_cons.mpr ⟨lw_p44, List.forall_mem_cons.mpr ⟨lw_p45, List.forall_mem_cons.mpr ⟨lw_p46, List.forall_mem_cons.mpr ⟨lw_p47, fun _ h => absurd h List.not_mem_nil⟩⟩⟩⟩⟩⟩⟩⟩⟩⟩⟩⟩⟩⟩⟩⟩
theorem lw_p48 : lw_okq (⟨"RoutesByTriesModel", "isStrict", "(I)Z"⟩, 52) := ⟨⟨by decide +kernel, by decide +kernel⟩, List.mem_of_getElem? (i := 736) (by decide +kernel), List.mem_of_getElem? (i := 1097) (by decide +kernel), List.mem_of_getElem? (i := 1098) (by decide +kernel)⟩
theorem lw_p49 : lw_okq (⟨"RoutesByTriesModel", "goesMount", "()V"⟩, 52) := ⟨⟨by decide +kernel, by decide +kernel⟩, List.mem_of_getElem? (i := 736) (by decide +kernel), List.mem_of_getElem? (i := 1101) (by decide +kernel), List.mem_of_getElem? (i := 1102) (by decide +kernel)⟩
theorem lw_p50 : lw_okq (⟨"RoutesByTriesModel", "mountFrom", "(III)I"⟩, 52) := ⟨⟨by decide +kernel, by decide +kernel⟩, List.mem_of_getElem? (i := 736) (by decide +kernel), List.mem_of_getElem? (i := 1105) (by decide +kernel), List.mem_of_getElem? (i := 1106) (by decide +kernel)⟩
theorem lw_p51 : lw_okq (⟨"RoutesByTriesModel", "leastEnd", "(II)I"⟩, 52) := ⟨⟨by decide +kernel, by decide +kernel⟩, List.mem_of_getElem? (i := 736) (by decide +kernel), List.mem_of_getElem? (i := 1109) (by decide +kernel), List.mem_of_getElem? (i := 1110) (by decide +kernel)⟩
theorem lw_p52 : lw_okq (⟨"RoutesByTriesModel", "serves", "(II)Z"⟩, 52) := ⟨⟨by decide +kernel, by decide +kernel⟩, List.mem_of_getElem? (i := 736) (by decide +kernel), List.mem_of_getElem? (i := 1113) (by decide +kernel), List.mem_of_getElem? (i := 1114) (by decide +kernel)⟩
theorem lw_p53 : lw_okq (⟨"RoutesByTriesModel", "leastRest", "(II)I"⟩, 52) := ⟨⟨by decide +kernel, by decide +kernel⟩, List.mem_of_getElem? (i := 736) (by decide +kernel), List.mem_of_getElem? (i := 1119) (by decide +kernel), List.mem_of_getElem? (i := 1120) (by decide +kernel)⟩
theorem lw_p54 : lw_okq (⟨"RoutesByTriesModel", "goesBy", "(I)V"⟩, 52) := ⟨⟨by decide +kernel, by decide +kernel⟩, List.mem_of_getElem? (i := 736) (by decide +kernel), List.mem_of_getElem? (i := 1123) (by decide +kernel), List.mem_of_getElem? (i := 1124) (by decide +kernel)⟩
theorem lw_p55 : lw_okq (⟨"RoutesByTriesModel", "setBy", "(III)I"⟩, 52) := ⟨⟨by decide +kernel, by decide +kernel⟩, List.mem_of_getElem? (i := 736) (by decide +kernel), List.mem_of_getElem? (i := 1127) (by decide +kernel), List.mem_of_getElem? (i := 1128) (by decide +kernel)⟩
theorem lw_p56 : lw_okq (⟨"RoutesByTriesModel", "findBound", "()V"⟩, 52) := ⟨⟨by decide +kernel, by decide +kernel⟩, List.mem_of_getElem? (i := 736) (by decide +kernel), List.mem_of_getElem? (i := 1135) (by decide +kernel), List.mem_of_getElem? (i := 1136) (by decide +kernel)⟩
theorem lw_p57 : lw_okq (⟨"RoutesByTriesModel", "bindsBy", "(II)V"⟩, 52) := ⟨⟨by decide +kernel, by decide +kernel⟩, List.mem_of_getElem? (i := 736) (by decide +kernel), List.mem_of_getElem? (i := 1139) (by decide +kernel), List.mem_of_getElem? (i := 1140) (by decide +kernel)⟩
theorem lw_p58 : lw_okq (⟨"RoutesByTriesModel", "askedFor", "(I)I"⟩, 52) := ⟨⟨by decide +kernel, by decide +kernel⟩, List.mem_of_getElem? (i := 736) (by decide +kernel), List.mem_of_getElem? (i := 1155) (by decide +kernel), List.mem_of_getElem? (i := 1156) (by decide +kernel)⟩
theorem lw_p59 : lw_okq (⟨"RoutesByTriesModel", "isBrought", "(I)Z"⟩, 52) := ⟨⟨by decide +kernel, by decide +kernel⟩, List.mem_of_getElem? (i := 736) (by decide +kernel), List.mem_of_getElem? (i := 1163) (by decide +kernel), List.mem_of_getElem? (i := 1164) (by decide +kernel)⟩
theorem lw_p60 : lw_okq (⟨"RoutesByTriesModel", "matchedBy", "(I)I"⟩, 52) := ⟨⟨by decide +kernel, by decide +kernel⟩, List.mem_of_getElem? (i := 736) (by decide +kernel), List.mem_of_getElem? (i := 1171) (by decide +kernel), List.mem_of_getElem? (i := 1172) (by decide +kernel)⟩
theorem lw_p61 : lw_okq (⟨"RoutesByTriesModel", "takes", "(I)Z"⟩, 52) := ⟨⟨by decide +kernel, by decide +kernel⟩, List.mem_of_getElem? (i := 736) (by decide +kernel), List.mem_of_getElem? (i := 1179) (by decide +kernel), List.mem_of_getElem? (i := 1180) (by decide +kernel)⟩
theorem lw_p62 : lw_okq (⟨"RoutesByTriesModel", "takesLetter", "(II)Z"⟩, 52) := ⟨⟨by decide +kernel, by decide +kernel⟩, List.mem_of_getElem? (i := 736) (by decide +kernel), List.mem_of_getElem? (i := 1183) (by decide +kernel), List.mem_of_getElem? (i := 1184) (by decide +kernel)⟩
theorem lw_p63 : lw_okq (⟨"RoutesByTriesModel", "doClash", "(II)Z"⟩, 52) := ⟨⟨by decide +kernel, by decide +kernel⟩, List.mem_of_getElem? (i := 736) (by decide +kernel), List.mem_of_getElem? (i := 1191) (by decide +kernel), List.mem_of_getElem? (i := 1192) (by decide +kernel)⟩
def lw_privs_4 : List (MethodName × Nat) := [(⟨"RoutesByTriesModel", "isStrict", "(I)Z"⟩, 52), (⟨"RoutesByTriesModel", "goesMount", "()V"⟩, 52), (⟨"RoutesByTriesModel", "mountFrom", "(III)I"⟩, 52), (⟨"RoutesByTriesModel", "leastEnd", "(II)I"⟩, 52), (⟨"RoutesByTriesModel", "serves", "(II)Z"⟩, 52), (⟨"RoutesByTriesModel", "leastRest", "(II)I"⟩, 52), (⟨"RoutesByTriesModel", "goesBy", "(I)V"⟩, 52), (⟨"RoutesByTriesModel", "setBy", "(III)I"⟩, 52), (⟨"RoutesByTriesModel", "findBound", "()V"⟩, 52), (⟨"RoutesByTriesModel", "bindsBy", "(II)V"⟩, 52), (⟨"RoutesByTriesModel", "askedFor", "(I)I"⟩, 52), (⟨"RoutesByTriesModel", "isBrought", "(I)Z"⟩, 52), (⟨"RoutesByTriesModel", "matchedBy", "(I)I"⟩, 52), (⟨"RoutesByTriesModel", "takes", "(I)Z"⟩, 52), (⟨"RoutesByTriesModel", "takesLetter", "(II)Z"⟩, 52), (⟨"RoutesByTriesModel", "doClash", "(II)Z"⟩, 52)]
theorem lw_r4 : ∀ q ∈ lw_privs_4, lw_okq q := List.forall_mem_cons.mpr ⟨lw_p48, List.forall_mem_cons.mpr ⟨lw_p49, List.forall_mem_cons.mpr ⟨lw_p50, List.forall_mem_cons.mpr ⟨lw_p51, List.forall_mem_cons.mpr ⟨lw_p52, List.forall_mem_cons.mpr ⟨lw_p53, List.forall_mem_cons.mpr ⟨lw_p54, List.forall_mem_cons.mpr ⟨lw_p55, List.forall_mem_cons.mpr ⟨lw_p56, List.forall_mem_cons.mpr ⟨lw_p57, List.forall_mem_cons.mpr ⟨lw_p58, List.forall_mem_cons.mpr ⟨lw_p59, List.forall_mem_cons.mpr ⟨lw_p60, List.forall_mem_cons.mpr ⟨lw_p61, List.forall_mem_cons.mpr ⟨lw_p62, List.forall_mem_cons.mpr ⟨lw_p63, fun _ h => absurd h List.not_mem_nil⟩⟩⟩⟩⟩⟩⟩⟩⟩⟩⟩⟩⟩⟩⟩⟩
theorem lw_p64 : lw_okq (⟨"RoutesByTriesModel", "pathOf", "(I)I"⟩, 52) := ⟨⟨by decide +kernel, by decide +kernel⟩, List.mem_of_getElem? (i := 736) (by decide +kernel), List.mem_of_getElem? (i := 1199) (by decide +kernel), List.mem_of_getElem? (i := 1200) (by decide +kernel)⟩
theorem lw_p65 : lw_okq (⟨"RoutesByTriesModel", "findWays", "()V"⟩, 52) := ⟨⟨by decide +kernel, by decide +kernel⟩, List.mem_of_getElem? (i := 736) (by decide +kernel), List.mem_of_getElem? (i := 1203) (by decide +kernel), List.mem_of_getElem? (i := 1204) (by decide +kernel)⟩
theorem lw_p66 : lw_okq (⟨"RoutesByTriesModel", "buildsWay", "(I)V"⟩, 52) := ⟨⟨by decide +kernel, by decide +kernel⟩, List.mem_of_getElem? (i := 736) (by decide +kernel), List.mem_of_getElem? (i := 1207) (by decide +kernel), List.mem_of_getElem? (i := 1208) (by decide +kernel)⟩
theorem lw_p67 : lw_okq (⟨"RoutesByTriesModel", "builds", "(I)V"⟩, 52) := ⟨⟨by decide +kernel, by decide +kernel⟩, List.mem_of_getElem? (i := 736) (by decide +kernel), List.mem_of_getElem? (i := 1211) (by decide +kernel), List.mem_of_getElem? (i := 1212) (by decide +kernel)⟩
theorem lw_p68 : lw_okq (⟨"RoutesByTriesModel", "numberOf", "([II)I"⟩, 52) := ⟨⟨by decide +kernel, by decide +kernel⟩, List.mem_of_getElem? (i := 736) (by decide +kernel), List.mem_of_getElem? (i := 1215) (by decide +kernel), List.mem_of_getElem? (i := 1216) (by decide +kernel)⟩
theorem lw_p69 : lw_okq (⟨"RoutesByTriesModel", "lowestOf", "(I)J"⟩, 52) := ⟨⟨by decide +kernel, by decide +kernel⟩, List.mem_of_getElem? (i := 736) (by decide +kernel), List.mem_of_getElem? (i := 1235) (by decide +kernel), List.mem_of_getElem? (i := 1236) (by decide +kernel)⟩
theorem lw_p70 : lw_okq (⟨"RoutesByTriesModel", "firstWrong", "(I)I"⟩, 52) := ⟨⟨by decide +kernel, by decide +kernel⟩, List.mem_of_getElem? (i := 736) (by decide +kernel), List.mem_of_getElem? (i := 1255) (by decide +kernel), List.mem_of_getElem? (i := 1256) (by decide +kernel)⟩
theorem lw_p71 : lw_okq (⟨"RoutesByTriesModel", "draw", "(I)I"⟩, 52) := ⟨⟨by decide +kernel, by decide +kernel⟩, List.mem_of_getElem? (i := 736) (by decide +kernel), List.mem_of_getElem? (i := 1275) (by decide +kernel), List.mem_of_getElem? (i := 1276) (by decide +kernel)⟩
theorem lw_p72 : lw_okq (⟨"RoutesByTriesModel", "setMounts", "()I"⟩, 52) := ⟨⟨by decide +kernel, by decide +kernel⟩, List.mem_of_getElem? (i := 736) (by decide +kernel), List.mem_of_getElem? (i := 1286) (by decide +kernel), List.mem_of_getElem? (i := 1287) (by decide +kernel)⟩
theorem lw_p73 : lw_okq (⟨"RoutesByTriesModel", "allSegments", "()I"⟩, 52) := ⟨⟨by decide +kernel, by decide +kernel⟩, List.mem_of_getElem? (i := 736) (by decide +kernel), List.mem_of_getElem? (i := 1290) (by decide +kernel), List.mem_of_getElem? (i := 1291) (by decide +kernel)⟩
def lw_privs_5 : List (MethodName × Nat) := [(⟨"RoutesByTriesModel", "pathOf", "(I)I"⟩, 52), (⟨"RoutesByTriesModel", "findWays", "()V"⟩, 52), (⟨"RoutesByTriesModel", "buildsWay", "(I)V"⟩, 52), (⟨"RoutesByTriesModel", "builds", "(I)V"⟩, 52), (⟨"RoutesByTriesModel", "numberOf", "([II)I"⟩, 52), (⟨"RoutesByTriesModel", "lowestOf", "(I)J"⟩, 52), (⟨"RoutesByTriesModel", "firstWrong", "(I)I"⟩, 52), (⟨"RoutesByTriesModel", "draw", "(I)I"⟩, 52), (⟨"RoutesByTriesModel", "setMounts", "()I"⟩, 52), (⟨"RoutesByTriesModel", "allSegments", "()I"⟩, 52)]
theorem lw_r5 : ∀ q ∈ lw_privs_5, lw_okq q := List.forall_mem_cons.mpr ⟨lw_p64, List.forall_mem_cons.mpr ⟨lw_p65, List.forall_mem_cons.mpr ⟨lw_p66, List.forall_mem_cons.mpr ⟨lw_p67, List.forall_mem_cons.mpr ⟨lw_p68, List.forall_mem_cons.mpr ⟨lw_p69, List.forall_mem_cons.mpr ⟨lw_p70, List.forall_mem_cons.mpr ⟨lw_p71, List.forall_mem_cons.mpr ⟨lw_p72, List.forall_mem_cons.mpr ⟨lw_p73, fun _ h => absurd h List.not_mem_nil⟩⟩⟩⟩⟩⟩⟩⟩⟩⟩
def lw_privs : List (MethodName × Nat) := lw_privs_1 ++ (lw_privs_2 ++ (lw_privs_3 ++ (lw_privs_4 ++ (lw_privs_5))))
def lw_tbl : List Cond := k2_sels lw_privs ++ tables_1
theorem lw_privs_ok : ∀ q ∈ lw_privs, lw_okq q := by
  show ∀ q ∈ lw_privs_1 ++ (lw_privs_2 ++ (lw_privs_3 ++ (lw_privs_4 ++ (lw_privs_5)))), lw_okq q
  exact List.forall_mem_append.mpr ⟨lw_r1, List.forall_mem_append.mpr ⟨lw_r2, List.forall_mem_append.mpr ⟨lw_r3, List.forall_mem_append.mpr ⟨lw_r4, lw_r5⟩⟩⟩⟩
/-! ===== BEGIN words of one list among another's, by their places ===== -/
theorem goodIn_r {big : List Cond} (ws : List Cond) (ps : List Nat) (hp : ws = ps.filterMap (fun i => big[i]?)) (h : ws.all goodWord = true) : GoodIn big ws := by
  intro w hw
  have h1 := List.all_eq_true.mp h w hw
  rw [hp] at hw
  obtain ⟨i, -, hi⟩ := List.mem_filterMap.mp hw
  have hm : w ∈ big := by first | exact List.mem_of_getElem? hi | exact List.getElem?_mem hi
  exact ⟨hm, good_of_word h1⟩
theorem goodIn_app {big a b : List Cond} (ha : GoodIn big a) (hb : GoodIn big b) : GoodIn big (a ++ b) := fun w h => (List.mem_append.mp h).elim (ha w) (hb w)
theorem goodIn_ca {big a b : List Cond} {c : Cond} (ha : GoodIn big (c :: a)) (hb : GoodIn big b) : GoodIn big (c :: (a ++ b)) := fun w h => (List.mem_cons.mp h).elim (fun e => ha w (List.mem_cons.mpr (Or.inl e))) (fun h => (List.mem_append.mp h).elim (fun h => ha w (List.mem_cons.mpr (Or.inr h))) (hb w))
theorem goodIn_sub {big ws : List Cond} (hm : ∀ w ∈ ws, w ∈ big) (h : ws.all goodWord = true) : GoodIn big ws := fun w hw => ⟨hm w hw, good_of_word (List.all_eq_true.mp h w hw)⟩
/-! ===== END ===== -/

/-! ===== BEGIN printed: names, fields, word lists, decode rows ===== -/
def RX0 : String := "RoutesByTries$Book"
def TX0 : u_T := fun k => match k with
  | 0 => ("RoutesByTries$Book", "kinds", "[I", true)
  | 1 => ("RoutesByTries$Book", "figures", "[I", true)
  | 2 => ("RoutesByTries$Book", "routes", "[LRoutesByTries$Route;", true)
  | 3 => ("RoutesByTries$Book", "nobody", "LRoutesByTries$Route;", true)
  | _ => ("RoutesByTries$Book", "came", "I", false)
def tyX0 : Nat → FieldType := fun k => match k with
  | 0 => .array .int
  | 1 => .array .int
  | 2 => .array (.object "RoutesByTries$Route")
  | 3 => .object "RoutesByTries$Route"
  | _ => .int
abbrev wsX00 : List Cond := u_ws RX0 TX0 5
theorem nmX0 : ∀ a, a < 5 → ∀ b, b < 5 → a ≠ b → (TX0 a).2.1 ≠ (TX0 b).2.1 := by decide +kernel
theorem tyX0_ok : ∀ k, k < 5 → parseFieldDescriptor (TX0 k).2.2.1 = some (tyX0 k) := by decide +kernel
abbrev cX0_init : ByteArray := prog_2_method_1_code
def yX0_init : MethodName := ⟨RX0, "<init>", "()V"⟩
abbrev cX0_copyFrom : ByteArray := prog_2_method_2_code
def yX0_copyFrom : MethodName := ⟨RX0, "copyFrom", "(LRoutesByTries$Book;)V"⟩
abbrev cX0_at : ByteArray := prog_2_method_3_code
def yX0_at : MethodName := ⟨RX0, "at", "(I)LRoutesByTries$Route;"⟩
abbrev cX0_isThere : ByteArray := prog_2_method_4_code
def yX0_isThere : MethodName := ⟨RX0, "isThere", "(I)Z"⟩
abbrev cX0_isFull : ByteArray := prog_2_method_5_code
def yX0_isFull : MethodName := ⟨RX0, "isFull", "()Z"⟩
abbrev cX0_draft : ByteArray := prog_2_method_6_code
def yX0_draft : MethodName := ⟨RX0, "draft", "()LRoutesByTries$Route;"⟩
abbrev cX0_addDraft : ByteArray := prog_2_method_7_code
def yX0_addDraft : MethodName := ⟨RX0, "addDraft", "()V"⟩
abbrev cX0_thereBits : ByteArray := prog_2_method_8_code
def yX0_thereBits : MethodName := ⟨RX0, "thereBits", "()I"⟩
abbrev cX0_mountBits : ByteArray := prog_2_method_9_code
def yX0_mountBits : MethodName := ⟨RX0, "mountBits", "()I"⟩
abbrev cX0_segmentsThere : ByteArray := prog_2_method_10_code
def yX0_segmentsThere : MethodName := ⟨RX0, "segmentsThere", "()I"⟩
def RX1 : String := "RoutesByTries$Paths"
def TX1 : u_T := fun k => match k with
  | _ => ("", "", "", false)
def tyX1 : Nat → FieldType := fun k => match k with
  | _ => .int
abbrev wsX10 : List Cond := u_ws RX1 TX1 0
theorem nmX1 : ∀ a, a < 0 → ∀ b, b < 0 → a ≠ b → (TX1 a).2.1 ≠ (TX1 b).2.1 := by decide +kernel
theorem tyX1_ok : ∀ k, k < 0 → parseFieldDescriptor (TX1 k).2.2.1 = some (tyX1 k) := by decide +kernel
abbrev cX1_read : ByteArray := prog_3_method_2_code
def yX1_read : MethodName := ⟨RX1, "read", "(ILRoutesByTries$Pile;)V"⟩
abbrev cX1_numberOf : ByteArray := prog_3_method_3_code
def yX1_numberOf : MethodName := ⟨RX1, "numberOf", "(LRoutesByTries$Pile;)I"⟩
def RX2 : String := "RoutesByTries$Pile"
def TX2 : u_T := fun k => match k with
  | 0 => ("RoutesByTries$Pile", "numbers", "[I", true)
  | _ => ("RoutesByTries$Pile", "size", "I", false)
def tyX2 : Nat → FieldType := fun k => match k with
  | 0 => .array .int
  | _ => .int
abbrev wsX20 : List Cond := u_ws RX2 TX2 2
theorem nmX2 : ∀ a, a < 2 → ∀ b, b < 2 → a ≠ b → (TX2 a).2.1 ≠ (TX2 b).2.1 := by decide +kernel
theorem tyX2_ok : ∀ k, k < 2 → parseFieldDescriptor (TX2 k).2.2.1 = some (tyX2 k) := by decide +kernel
abbrev cX2_init : ByteArray := prog_4_method_1_code
def yX2_init : MethodName := ⟨RX2, "<init>", "(I)V"⟩
abbrev cX2_isFull : ByteArray := prog_4_method_2_code
def yX2_isFull : MethodName := ⟨RX2, "isFull", "()Z"⟩
abbrev cX2_add : ByteArray := prog_4_method_3_code
def yX2_add : MethodName := ⟨RX2, "add", "(I)V"⟩
abbrev cX2_at : ByteArray := prog_4_method_4_code
def yX2_at : MethodName := ⟨RX2, "at", "(I)I"⟩
def RX3 : String := "RoutesByTries$Reader"
def TX3 : u_T := fun k => match k with
  | _ => ("", "", "", false)
def tyX3 : Nat → FieldType := fun k => match k with
  | _ => .int
abbrev wsX30 : List Cond := u_ws RX3 TX3 0
theorem nmX3 : ∀ a, a < 0 → ∀ b, b < 0 → a ≠ b → (TX3 a).2.1 ≠ (TX3 b).2.1 := by decide +kernel
theorem tyX3_ok : ∀ k, k < 0 → parseFieldDescriptor (TX3 k).2.2.1 = some (tyX3 k) := by decide +kernel
abbrev cX3_read : ByteArray := prog_5_method_2_code
def yX3_read : MethodName := ⟨RX3, "read", "(LRoutesByTries$Pile;LRoutesByTries$Book;)I"⟩
abbrev cX3_placeOfFormFault : ByteArray := prog_5_method_3_code
def yX3_placeOfFormFault : MethodName := ⟨RX3, "placeOfFormFault", "(LRoutesByTries$Pile;)I"⟩
abbrev cX3_stateBehind : ByteArray := prog_5_method_4_code
def yX3_stateBehind : MethodName := ⟨RX3, "stateBehind", "(II)I"⟩
abbrev cX3_stateBehindFirst : ByteArray := prog_5_method_5_code
def yX3_stateBehindFirst : MethodName := ⟨RX3, "stateBehindFirst", "(I)I"⟩
abbrev cX3_stateBehindClose : ByteArray := prog_5_method_6_code
def yX3_stateBehindClose : MethodName := ⟨RX3, "stateBehindClose", "(I)I"⟩
abbrev cX3_isDigit : ByteArray := prog_5_method_7_code
def yX3_isDigit : MethodName := ⟨RX3, "isDigit", "(I)Z"⟩
abbrev cX3_isNamed : ByteArray := prog_5_method_8_code
def yX3_isNamed : MethodName := ⟨RX3, "isNamed", "(I)Z"⟩
abbrev cX3_obey : ByteArray := prog_5_method_9_code
def yX3_obey : MethodName := ⟨RX3, "obey", "(LRoutesByTries$Pile;IILRoutesByTries$Book;)Z"⟩
abbrev cX3_addRoute : ByteArray := prog_5_method_10_code
def yX3_addRoute : MethodName := ⟨RX3, "addRoute", "(LRoutesByTries$Pile;IILRoutesByTries$Book;)Z"⟩
abbrev cX3_readSegments : ByteArray := prog_5_method_11_code
def yX3_readSegments : MethodName := ⟨RX3, "readSegments", "(LRoutesByTries$Pile;IILRoutesByTries$Route;)Z"⟩
abbrev cX3_segmentOf : ByteArray := prog_5_method_12_code
def yX3_segmentOf : MethodName := ⟨RX3, "segmentOf", "(II)I"⟩
abbrev cX3_turn : ByteArray := prog_5_method_13_code
def yX3_turn : MethodName := ⟨RX3, "turn", "(IIILRoutesByTries$Book;)Z"⟩
abbrev cX3_drop : ByteArray := prog_5_method_14_code
def yX3_drop : MethodName := ⟨RX3, "drop", "(ILRoutesByTries$Book;)Z"⟩
def RX4 : String := "RoutesByTries$Route"
def TX4 : u_T := fun k => match k with
  | 0 => ("RoutesByTries$Route", "segments", "[I", true)
  | 1 => ("RoutesByTries$Route", "size", "I", false)
  | 2 => ("RoutesByTries$Route", "plain", "I", false)
  | 3 => ("RoutesByTries$Route", "router", "I", false)
  | 4 => ("RoutesByTries$Route", "verb", "I", false)
  | 5 => ("RoutesByTries$Route", "mounted", "I", false)
  | _ => ("RoutesByTries$Route", "there", "Z", false)
def tyX4 : Nat → FieldType := fun k => match k with
  | 0 => .array .int
  | 1 => .int
  | 2 => .int
  | 3 => .int
  | 4 => .int
  | 5 => .int
  | _ => .boolean
abbrev wsX40 : List Cond := u_ws RX4 TX4 7
theorem nmX4 : ∀ a, a < 7 → ∀ b, b < 7 → a ≠ b → (TX4 a).2.1 ≠ (TX4 b).2.1 := by decide +kernel
theorem tyX4_ok : ∀ k, k < 7 → parseFieldDescriptor (TX4 k).2.2.1 = some (tyX4 k) := by decide +kernel
abbrev cX4_init : ByteArray := prog_6_method_1_code
def yX4_init : MethodName := ⟨RX4, "<init>", "()V"⟩
abbrev cX4_copyFrom : ByteArray := prog_6_method_2_code
def yX4_copyFrom : MethodName := ⟨RX4, "copyFrom", "(LRoutesByTries$Route;)V"⟩
abbrev cX4_isMount : ByteArray := prog_6_method_3_code
def yX4_isMount : MethodName := ⟨RX4, "isMount", "()Z"⟩
abbrev cX4_hasRest : ByteArray := prog_6_method_4_code
def yX4_hasRest : MethodName := ⟨RX4, "hasRest", "()Z"⟩
abbrev cX4_isFull : ByteArray := prog_6_method_5_code
def yX4_isFull : MethodName := ⟨RX4, "isFull", "()Z"⟩
abbrev cX4_empty : ByteArray := prog_6_method_6_code
def yX4_empty : MethodName := ⟨RX4, "empty", "()V"⟩
abbrev cX4_add : ByteArray := prog_6_method_7_code
def yX4_add : MethodName := ⟨RX4, "add", "(I)V"⟩
abbrev cX4_segmentAt : ByteArray := prog_6_method_8_code
def yX4_segmentAt : MethodName := ⟨RX4, "segmentAt", "(I)I"⟩
abbrev cX4_placeOf : ByteArray := prog_6_method_9_code
def yX4_placeOf : MethodName := ⟨RX4, "placeOf", "(I)I"⟩
abbrev cX4_parameterBits : ByteArray := prog_6_method_10_code
def yX4_parameterBits : MethodName := ⟨RX4, "parameterBits", "()I"⟩
abbrev cX4_isAlike : ByteArray := prog_6_method_11_code
def yX4_isAlike : MethodName := ⟨RX4, "isAlike", "(LRoutesByTries$Route;)Z"⟩
abbrev cX4_takes : ByteArray := prog_6_method_12_code
def yX4_takes : MethodName := ⟨RX4, "takes", "(LRoutesByTries$Pile;)Z"⟩
def RX5 : String := "RoutesByTries$Trie"
def TX5 : u_T := fun k => match k with
  | 0 => ("RoutesByTries$Trie", "behind", "[I", true)
  | 1 => ("RoutesByTries$Trie", "owners", "[I", true)
  | 2 => ("RoutesByTries$Trie", "passing", "[I", true)
  | 3 => ("RoutesByTries$Trie", "ends", "[I", true)
  | 4 => ("RoutesByTries$Trie", "rests", "[I", true)
  | 5 => ("RoutesByTries$Trie", "mounts", "[I", true)
  | 6 => ("RoutesByTries$Trie", "mounted", "[I", true)
  | 7 => ("RoutesByTries$Trie", "serving", "[I", true)
  | 8 => ("RoutesByTries$Trie", "kinds", "[I", true)
  | 9 => ("RoutesByTries$Trie", "figures", "[I", true)
  | 10 => ("RoutesByTries$Trie", "ways", "[I", true)
  | _ => ("RoutesByTries$Trie", "size", "I", false)
def tyX5 : Nat → FieldType := fun k => match k with
  | 0 => .array .int
  | 1 => .array .int
  | 2 => .array .int
  | 3 => .array .int
  | 4 => .array .int
  | 5 => .array .int
  | 6 => .array .int
  | 7 => .array .int
  | 8 => .array .int
  | 9 => .array .int
  | 10 => .array .int
  | _ => .int
abbrev wsX50 : List Cond := u_ws RX5 TX5 12
theorem nmX5 : ∀ a, a < 12 → ∀ b, b < 12 → a ≠ b → (TX5 a).2.1 ≠ (TX5 b).2.1 := by decide +kernel
theorem tyX5_ok : ∀ k, k < 12 → parseFieldDescriptor (TX5 k).2.2.1 = some (tyX5 k) := by decide +kernel
abbrev cX5_init : ByteArray := prog_7_method_1_code
def yX5_init : MethodName := ⟨RX5, "<init>", "()V"⟩
abbrev cX5_edgeOf : ByteArray := prog_7_method_2_code
def yX5_edgeOf : MethodName := ⟨RX5, "edgeOf", "(I)I"⟩
abbrev cX5_empty : ByteArray := prog_7_method_3_code
def yX5_empty : MethodName := ⟨RX5, "empty", "()V"⟩
abbrev cX5_grow : ByteArray := prog_7_method_4_code
def yX5_grow : MethodName := ⟨RX5, "grow", "(LRoutesByTries$Book;)V"⟩
abbrev cX5_addNode : ByteArray := prog_7_method_5_code
def yX5_addNode : MethodName := ⟨RX5, "addNode", "(I)I"⟩
abbrev cX5_plant : ByteArray := prog_7_method_6_code
def yX5_plant : MethodName := ⟨RX5, "plant", "(ILRoutesByTries$Route;)V"⟩
abbrev cX5_mark : ByteArray := prog_7_method_7_code
def yX5_mark : MethodName := ⟨RX5, "mark", "([III)V"⟩
abbrev cX5_findWays : ByteArray := prog_7_method_8_code
def yX5_findWays : MethodName := ⟨RX5, "findWays", "(LRoutesByTries$Book;)V"⟩
abbrev cX5_nodesOf : ByteArray := prog_7_method_9_code
def yX5_nodesOf : MethodName := ⟨RX5, "nodesOf", "(I)I"⟩
abbrev cX5_nodeBehind : ByteArray := prog_7_method_10_code
def yX5_nodeBehind : MethodName := ⟨RX5, "nodeBehind", "(III)I"⟩
def RX6 : String := "RoutesByTries$Walk"
def TX6 : u_T := fun k => match k with
  | 0 => ("RoutesByTries$Walk", "trie", "LRoutesByTries$Trie;", true)
  | 1 => ("RoutesByTries$Walk", "path", "LRoutesByTries$Pile;", true)
  | 2 => ("RoutesByTries$Walk", "trail", "[I", true)
  | 3 => ("RoutesByTries$Walk", "starts", "[I", true)
  | 4 => ("RoutesByTries$Walk", "verb", "I", false)
  | 5 => ("RoutesByTries$Walk", "present", "I", false)
  | 6 => ("RoutesByTries$Walk", "seen", "I", false)
  | 7 => ("RoutesByTries$Walk", "mounts", "I", false)
  | 8 => ("RoutesByTries$Walk", "taken", "I", false)
  | 9 => ("RoutesByTries$Walk", "allBrought", "I", false)
  | _ => ("RoutesByTries$Walk", "allSeen", "I", false)
def tyX6 : Nat → FieldType := fun k => match k with
  | 0 => .object "RoutesByTries$Trie"
  | 1 => .object "RoutesByTries$Pile"
  | 2 => .array .int
  | 3 => .array .int
  | 4 => .int
  | 5 => .int
  | 6 => .int
  | 7 => .int
  | 8 => .int
  | 9 => .int
  | _ => .int
abbrev wsX60 : List Cond := u_ws RX6 TX6 11
theorem nmX6 : ∀ a, a < 11 → ∀ b, b < 11 → a ≠ b → (TX6 a).2.1 ≠ (TX6 b).2.1 := by decide +kernel
theorem tyX6_ok : ∀ k, k < 11 → parseFieldDescriptor (TX6 k).2.2.1 = some (tyX6 k) := by decide +kernel
abbrev cX6_init : ByteArray := prog_8_method_1_code
def yX6_init : MethodName := ⟨RX6, "<init>", "()V"⟩
abbrev cX6_bring : ByteArray := prog_8_method_2_code
def yX6_bring : MethodName := ⟨RX6, "bring", "(III)I"⟩
abbrev cX6_bringAll : ByteArray := prog_8_method_3_code
def yX6_bringAll : MethodName := ⟨RX6, "bringAll", "(II)V"⟩
abbrev cX6_look : ByteArray := prog_8_method_4_code
def yX6_look : MethodName := ⟨RX6, "look", "(IIII)I"⟩
abbrev cX6_stepOf : ByteArray := prog_8_method_5_code
def yX6_stepOf : MethodName := ⟨RX6, "stepOf", "(II)I"⟩
abbrev cX6_nextBy : ByteArray := prog_8_method_6_code
def yX6_nextBy : MethodName := ⟨RX6, "nextBy", "(III)I"⟩
abbrev cX6_lookAtMounts : ByteArray := prog_8_method_7_code
def yX6_lookAtMounts : MethodName := ⟨RX6, "lookAtMounts", "(IIII)I"⟩
abbrev cX6_endBy : ByteArray := prog_8_method_8_code
def yX6_endBy : MethodName := ⟨RX6, "endBy", "(IIII)I"⟩
def RX7 : String := "RoutesByTries"
def TX7 : u_T := fun k => match k with
  | 0 => ("RoutesByTries", "book", "LRoutesByTries$Book;", true)
  | 1 => ("RoutesByTries", "trial", "LRoutesByTries$Book;", true)
  | 2 => ("RoutesByTries", "kept", "LRoutesByTries$Book;", true)
  | 3 => ("RoutesByTries", "walk", "LRoutesByTries$Walk;", true)
  | 4 => ("RoutesByTries", "told", "LRoutesByTries$Pile;", true)
  | 5 => ("RoutesByTries", "row", "LRoutesByTries$Pile;", true)
  | 6 => ("RoutesByTries", "built", "LRoutesByTries$Pile;", true)
  | 7 => ("RoutesByTries", "given", "[I", true)
  | 8 => ("RoutesByTries", "refusals", "[I", true)
  | _ => ("RoutesByTries", "hasImage", "Z", false)
def tyX7 : Nat → FieldType := fun k => match k with
  | 0 => .object "RoutesByTries$Book"
  | 1 => .object "RoutesByTries$Book"
  | 2 => .object "RoutesByTries$Book"
  | 3 => .object "RoutesByTries$Walk"
  | 4 => .object "RoutesByTries$Pile"
  | 5 => .object "RoutesByTries$Pile"
  | 6 => .object "RoutesByTries$Pile"
  | 7 => .array .int
  | 8 => .array .int
  | _ => .boolean
abbrev wsX70 : List Cond := u_ws RX7 TX7 10
theorem nmX7 : ∀ a, a < 10 → ∀ b, b < 10 → a ≠ b → (TX7 a).2.1 ≠ (TX7 b).2.1 := by decide +kernel
theorem tyX7_ok : ∀ k, k < 10 → parseFieldDescriptor (TX7 k).2.2.1 = some (tyX7 k) := by decide +kernel
abbrev cX7_init : ByteArray := prog_1_method_1_code
def yX7_init : MethodName := ⟨RX7, "<init>", "()V"⟩
abbrev cX7_letter : ByteArray := prog_1_method_2_code
def yX7_letter : MethodName := ⟨RX7, "letter", "(I)I"⟩
abbrev cX7_table : ByteArray := prog_1_method_3_code
def yX7_table : MethodName := ⟨RX7, "table", "()I"⟩
abbrev cX7_kind : ByteArray := prog_1_method_4_code
def yX7_kind : MethodName := ⟨RX7, "kind", "(III)I"⟩
abbrev cX7_verb : ByteArray := prog_1_method_5_code
def yX7_verb : MethodName := ⟨RX7, "verb", "(II)I"⟩
abbrev cX7_drops : ByteArray := prog_1_method_6_code
def yX7_drops : MethodName := ⟨RX7, "drops", "(I)I"⟩
abbrev cX7_copies : ByteArray := prog_1_method_7_code
def yX7_copies : MethodName := ⟨RX7, "copies", "(II)I"⟩
abbrev cX7_route : ByteArray := prog_1_method_8_code
def yX7_route : MethodName := ⟨RX7, "route", "(II)I"⟩
abbrev cX7_segment : ByteArray := prog_1_method_9_code
def yX7_segment : MethodName := ⟨RX7, "segment", "(II)I"⟩
abbrev cX7_nodes : ByteArray := prog_1_method_10_code
def yX7_nodes : MethodName := ⟨RX7, "nodes", "(I)I"⟩
abbrev cX7_letterOf : ByteArray := prog_1_method_11_code
def yX7_letterOf : MethodName := ⟨RX7, "letterOf", "(II)I"⟩
abbrev cX7_match : ByteArray := prog_1_method_12_code
def yX7_match : MethodName := ⟨RX7, "match", "(II)I"⟩
abbrev cX7_bound : ByteArray := prog_1_method_13_code
def yX7_bound : MethodName := ⟨RX7, "bound", "(III)I"⟩
abbrev cX7_looked : ByteArray := prog_1_method_14_code
def yX7_looked : MethodName := ⟨RX7, "looked", "(II)I"⟩
abbrev cX7_verbs : ByteArray := prog_1_method_15_code
def yX7_verbs : MethodName := ⟨RX7, "verbs", "(I)I"⟩
abbrev cX7_brought : ByteArray := prog_1_method_16_code
def yX7_brought : MethodName := ⟨RX7, "brought", "(II)I"⟩
abbrev cX7_never : ByteArray := prog_1_method_17_code
def yX7_never : MethodName := ⟨RX7, "never", "()I"⟩
abbrev cX7_matched : ByteArray := prog_1_method_18_code
def yX7_matched : MethodName := ⟨RX7, "matched", "(I)I"⟩
abbrev cX7_witness : ByteArray := prog_1_method_19_code
def yX7_witness : MethodName := ⟨RX7, "witness", "(II)I"⟩
abbrev cX7_clash : ByteArray := prog_1_method_20_code
def yX7_clash : MethodName := ⟨RX7, "clash", "(I)I"⟩
abbrev cX7_build : ByteArray := prog_1_method_21_code
def yX7_build : MethodName := ⟨RX7, "build", "(IIIII)I"⟩
abbrev cX7_back : ByteArray := prog_1_method_22_code
def yX7_back : MethodName := ⟨RX7, "back", "(I)I"⟩
abbrev cX7_without : ByteArray := prog_1_method_23_code
def yX7_without : MethodName := ⟨RX7, "without", "(III)I"⟩
abbrev cX7_best : ByteArray := prog_1_method_24_code
def yX7_best : MethodName := ⟨RX7, "best", "(I)I"⟩
abbrev cX7_lost : ByteArray := prog_1_method_25_code
def yX7_lost : MethodName := ⟨RX7, "lost", "(IIII)J"⟩
abbrev cX7_mean : ByteArray := prog_1_method_26_code
def yX7_mean : MethodName := ⟨RX7, "mean", "(II)J"⟩
abbrev cX7_whatIs : ByteArray := prog_1_method_27_code
def yX7_whatIs : MethodName := ⟨RX7, "whatIs", "(II)I"⟩
abbrev cX7_row : ByteArray := prog_1_method_28_code
def yX7_row : MethodName := ⟨RX7, "row", "(I)I"⟩
abbrev cX7_judge : ByteArray := prog_1_method_29_code
def yX7_judge : MethodName := ⟨RX7, "judge", "(I)I"⟩
abbrev cX7_clear : ByteArray := prog_1_method_30_code
def yX7_clear : MethodName := ⟨RX7, "clear", "()I"⟩
abbrev cX7_lots : ByteArray := prog_1_method_31_code
def yX7_lots : MethodName := ⟨RX7, "lots", "(III)I"⟩
abbrev cX7_image : ByteArray := prog_1_method_32_code
def yX7_image : MethodName := ⟨RX7, "image", "()I"⟩
abbrev cX7_on : ByteArray := prog_1_method_33_code
def yX7_on : MethodName := ⟨RX7, "on", "()I"⟩
abbrev cX7_count : ByteArray := prog_1_method_34_code
def yX7_count : MethodName := ⟨RX7, "count", "(I)I"⟩
abbrev cX7_refuse : ByteArray := prog_1_method_35_code
def yX7_refuse : MethodName := ⟨RX7, "refuse", "(I)I"⟩
abbrev cX7_refuseLong : ByteArray := prog_1_method_36_code
def yX7_refuseLong : MethodName := ⟨RX7, "refuseLong", "(I)J"⟩
abbrev cX7_askedVerb : ByteArray := prog_1_method_37_code
def yX7_askedVerb : MethodName := ⟨RX7, "askedVerb", "(I)I"⟩
abbrev cX7_letterBound : ByteArray := prog_1_method_38_code
def yX7_letterBound : MethodName := ⟨RX7, "letterBound", "(II)I"⟩
abbrev cX7_clashing : ByteArray := prog_1_method_39_code
def yX7_clashing : MethodName := ⟨RX7, "clashing", "(II)Z"⟩
abbrev cX7_give : ByteArray := prog_1_method_40_code
def yX7_give : MethodName := ⟨RX7, "give", "(IIII)V"⟩
abbrev cX7_pathBuilt : ByteArray := prog_1_method_41_code
def yX7_pathBuilt : MethodName := ⟨RX7, "pathBuilt", "(I)I"⟩
abbrev cX7_layWay : ByteArray := prog_1_method_42_code
def yX7_layWay : MethodName := ⟨RX7, "layWay", "(II)Z"⟩
abbrev cX7_lay : ByteArray := prog_1_method_43_code
def yX7_lay : MethodName := ⟨RX7, "lay", "(LRoutesByTries$Route;)Z"⟩
abbrev cX7_firstNotSo : ByteArray := prog_1_method_44_code
def yX7_firstNotSo : MethodName := ⟨RX7, "firstNotSo", "(I)I"⟩
abbrev cX7_isRouter : ByteArray := prog_1_method_45_code
def yX7_isRouter : MethodName := ⟨RX7, "isRouter", "(I)Z"⟩
abbrev cX7_isPath : ByteArray := prog_1_method_46_code
def yX7_isPath : MethodName := ⟨RX7, "isPath", "(I)Z"⟩
abbrev cX7_isVerb : ByteArray := prog_1_method_47_code
def yX7_isVerb : MethodName := ⟨RX7, "isVerb", "(I)Z"⟩
abbrev cX7_isLetter : ByteArray := prog_1_method_48_code
def yX7_isLetter : MethodName := ⟨RX7, "isLetter", "(I)Z"⟩
abbrev cX7_isOneOfTwo : ByteArray := prog_1_method_49_code
def yX7_isOneOfTwo : MethodName := ⟨RX7, "isOneOfTwo", "(I)Z"⟩
abbrev cX7_has : ByteArray := prog_1_method_50_code
def yX7_has : MethodName := ⟨RX7, "has", "(II)Z"⟩
abbrev cX7_leastOf : ByteArray := prog_1_method_51_code
def yX7_leastOf : MethodName := ⟨RX7, "leastOf", "(I)I"⟩
abbrev cX7_numberAt : ByteArray := prog_1_method_52_code
def yX7_numberAt : MethodName := ⟨RX7, "numberAt", "([II)I"⟩
abbrev cX7_put : ByteArray := prog_1_method_53_code
def yX7_put : MethodName := ⟨RX7, "put", "([III)V"⟩
abbrev cX7_served : ByteArray := prog_1_method_54_code
def yX7_served : MethodName := ⟨RX7, "served", "(I)I"⟩
abbrev cX7_fits : ByteArray := prog_1_method_55_code
def yX7_fits : MethodName := ⟨RX7, "fits", "(II)Z"⟩
abbrev cX7_power : ByteArray := prog_1_method_56_code
def yX7_power : MethodName := ⟨RX7, "power", "(JI)J"⟩
abbrev cX7_partOfFraction : ByteArray := prog_1_method_57_code
def yX7_partOfFraction : MethodName := ⟨RX7, "partOfFraction", "(JJI)J"⟩
abbrev cX7_greatestDivisor : ByteArray := prog_1_method_58_code
def yX7_greatestDivisor : MethodName := ⟨RX7, "greatestDivisor", "(JJ)J"⟩
abbrev cX7_nextSeed : ByteArray := prog_1_method_59_code
def yX7_nextSeed : MethodName := ⟨RX7, "nextSeed", "(I)I"⟩
abbrev cX7_drawn : ByteArray := prog_1_method_60_code
def yX7_drawn : MethodName := ⟨RX7, "drawn", "(I)I"⟩
def RX8 : String := "RoutesByTriesModel"
def TX8 : u_T := fun k => match k with
  | 0 => ("RoutesByTriesModel", "refused", "[I", true)
  | 1 => ("RoutesByTriesModel", "kind", "[I", true)
  | 2 => ("RoutesByTriesModel", "figure", "[I", true)
  | 3 => ("RoutesByTriesModel", "there", "[I", true)
  | 4 => ("RoutesByTriesModel", "routerOf", "[I", true)
  | 5 => ("RoutesByTriesModel", "verbOf", "[I", true)
  | 6 => ("RoutesByTriesModel", "mounts", "[I", true)
  | 7 => ("RoutesByTriesModel", "many", "[I", true)
  | 8 => ("RoutesByTriesModel", "segment", "[I", true)
  | 9 => ("RoutesByTriesModel", "came", "I", false)
  | 10 => ("RoutesByTriesModel", "letters", "[I", true)
  | 11 => ("RoutesByTriesModel", "length", "I", false)
  | 12 => ("RoutesByTriesModel", "atRouter", "[I", true)
  | 13 => ("RoutesByTriesModel", "atDepth", "[I", true)
  | 14 => ("RoutesByTriesModel", "atSet", "[I", true)
  | 15 => ("RoutesByTriesModel", "atPlace", "[I", true)
  | 16 => ("RoutesByTriesModel", "atRoot", "[I", true)
  | 17 => ("RoutesByTriesModel", "atStage", "[I", true)
  | 18 => ("RoutesByTriesModel", "atMount", "[I", true)
  | 19 => ("RoutesByTriesModel", "atVia", "[I", true)
  | 20 => ("RoutesByTriesModel", "atByLetter", "[I", true)
  | 21 => ("RoutesByTriesModel", "top", "I", false)
  | 22 => ("RoutesByTriesModel", "looks", "I", false)
  | 23 => ("RoutesByTriesModel", "found", "I", false)
  | 24 => ("RoutesByTriesModel", "verbAsked", "I", false)
  | 25 => ("RoutesByTriesModel", "boundTo", "[I", true)
  | 26 => ("RoutesByTriesModel", "tape", "[I", true)
  | 27 => ("RoutesByTriesModel", "sort", "[I", true)
  | 28 => ("RoutesByTriesModel", "sortAt", "[I", true)
  | 29 => ("RoutesByTriesModel", "told", "[I", true)
  | 30 => ("RoutesByTriesModel", "segmentsAt", "[I", true)
  | 31 => ("RoutesByTriesModel", "segmentsMany", "[I", true)
  | 32 => ("RoutesByTriesModel", "toldSegment", "[I", true)
  | 33 => ("RoutesByTriesModel", "taped", "I", false)
  | 34 => ("RoutesByTriesModel", "reading", "I", false)
  | 35 => ("RoutesByTriesModel", "statements", "I", false)
  | 36 => ("RoutesByTriesModel", "telling", "I", false)
  | 37 => ("RoutesByTriesModel", "segmentsTold", "I", false)
  | 38 => ("RoutesByTriesModel", "kept", "[I", true)
  | 39 => ("RoutesByTriesModel", "hasImage", "Z", false)
  | 40 => ("RoutesByTriesModel", "isKeeping", "Z", false)
  | 41 => ("RoutesByTriesModel", "cursor", "I", false)
  | 42 => ("RoutesByTriesModel", "allLooks", "I", false)
  | 43 => ("RoutesByTriesModel", "given", "[I", true)
  | 44 => ("RoutesByTriesModel", "built", "[I", true)
  | 45 => ("RoutesByTriesModel", "wayMount", "[I", true)
  | 46 => ("RoutesByTriesModel", "builtMany", "I", false)
  | 47 => ("RoutesByTriesModel", "isBuilt", "Z", false)
  | 48 => ("RoutesByTriesModel", "lost", "[I", true)
  | 49 => ("RoutesByTriesModel", "row", "[I", true)
  | 50 => ("RoutesByTriesModel", "rowMany", "I", false)
  | _ => ("RoutesByTriesModel", "lots", "I", false)
def tyX8 : Nat → FieldType := fun k => match k with
  | 0 => .array .int
  | 1 => .array .int
  | 2 => .array .int
  | 3 => .array .int
  | 4 => .array .int
  | 5 => .array .int
  | 6 => .array .int
  | 7 => .array .int
  | 8 => .array .int
  | 9 => .int
  | 10 => .array .int
  | 11 => .int
  | 12 => .array .int
  | 13 => .array .int
  | 14 => .array .int
  | 15 => .array .int
  | 16 => .array .int
  | 17 => .array .int
  | 18 => .array .int
  | 19 => .array .int
  | 20 => .array .int
  | 21 => .int
  | 22 => .int
  | 23 => .int
  | 24 => .int
  | 25 => .array .int
  | 26 => .array .int
  | 27 => .array .int
  | 28 => .array .int
  | 29 => .array .int
  | 30 => .array .int
  | 31 => .array .int
  | 32 => .array .int
  | 33 => .int
  | 34 => .int
  | 35 => .int
  | 36 => .int
  | 37 => .int
  | 38 => .array .int
  | 39 => .boolean
  | 40 => .boolean
  | 41 => .int
  | 42 => .int
  | 43 => .array .int
  | 44 => .array .int
  | 45 => .array .int
  | 46 => .int
  | 47 => .boolean
  | 48 => .array .int
  | 49 => .array .int
  | 50 => .int
  | _ => .int
abbrev wsX80 : List Cond := u_ws RX8 TX8 52
theorem nmX8 : ∀ a, a < 52 → ∀ b, b < 52 → a ≠ b → (TX8 a).2.1 ≠ (TX8 b).2.1 := by decide +kernel
theorem tyX8_ok : ∀ k, k < 52 → parseFieldDescriptor (TX8 k).2.2.1 = some (tyX8 k) := by decide +kernel
abbrev cX8_init : ByteArray := prog_10_method_1_code
def yX8_init : MethodName := ⟨RX8, "<init>", "()V"⟩
abbrev cX8_no : ByteArray := prog_10_method_2_code
def yX8_no : MethodName := ⟨RX8, "no", "(I)I"⟩
abbrev cX8_lowestOf : ByteArray := prog_10_method_3_code
def yX8_lowestOf : MethodName := ⟨RX8, "lowestOf", "(I)J"⟩
abbrev cX8_isIn : ByteArray := prog_10_method_4_code
def yX8_isIn : MethodName := ⟨RX8, "isIn", "(III)Z"⟩
abbrev cX8_beyond : ByteArray := prog_10_method_5_code
def yX8_beyond : MethodName := ⟨RX8, "beyond", "(III)I"⟩
abbrev cX8_has : ByteArray := prog_10_method_6_code
def yX8_has : MethodName := ⟨RX8, "has", "(II)Z"⟩
abbrev cX8_bits : ByteArray := prog_10_method_7_code
def yX8_bits : MethodName := ⟨RX8, "bits", "(I)I"⟩
abbrev cX8_isRouter : ByteArray := prog_10_method_8_code
def yX8_isRouter : MethodName := ⟨RX8, "isRouter", "(I)Z"⟩
abbrev cX8_isRoute : ByteArray := prog_10_method_9_code
def yX8_isRoute : MethodName := ⟨RX8, "isRoute", "(I)Z"⟩
abbrev cX8_isPath : ByteArray := prog_10_method_10_code
def yX8_isPath : MethodName := ⟨RX8, "isPath", "(I)Z"⟩
abbrev cX8_isVerb : ByteArray := prog_10_method_11_code
def yX8_isVerb : MethodName := ⟨RX8, "isVerb", "(I)Z"⟩
abbrev cX8_isMount : ByteArray := prog_10_method_12_code
def yX8_isMount : MethodName := ⟨RX8, "isMount", "(I)Z"⟩
abbrev cX8_typeOf : ByteArray := prog_10_method_13_code
def yX8_typeOf : MethodName := ⟨RX8, "typeOf", "(II)I"⟩
abbrev cX8_hasRest : ByteArray := prog_10_method_14_code
def yX8_hasRest : MethodName := ⟨RX8, "hasRest", "(I)Z"⟩
abbrev cX8_setOf : ByteArray := prog_10_method_15_code
def yX8_setOf : MethodName := ⟨RX8, "setOf", "(I)I"⟩
abbrev cX8_setBy : ByteArray := prog_10_method_16_code
def yX8_setBy : MethodName := ⟨RX8, "setBy", "(III)I"⟩
abbrev cX8_serves : ByteArray := prog_10_method_17_code
def yX8_serves : MethodName := ⟨RX8, "serves", "(II)Z"⟩
abbrev cX8_opens : ByteArray := prog_10_method_18_code
def yX8_opens : MethodName := ⟨RX8, "opens", "(I)V"⟩
abbrev cX8_numberOf : ByteArray := prog_10_method_19_code
def yX8_numberOf : MethodName := ⟨RX8, "numberOf", "([II)I"⟩
abbrev cX8_orderOf : ByteArray := prog_10_method_20_code
def yX8_orderOf : MethodName := ⟨RX8, "orderOf", "(I)I"⟩
abbrev cX8_isStrict : ByteArray := prog_10_method_21_code
def yX8_isStrict : MethodName := ⟨RX8, "isStrict", "(I)Z"⟩
abbrev cX8_looksAt : ByteArray := prog_10_method_22_code
def yX8_looksAt : MethodName := ⟨RX8, "looksAt", "(IIIIIII)V"⟩
abbrev cX8_leastEnd : ByteArray := prog_10_method_23_code
def yX8_leastEnd : MethodName := ⟨RX8, "leastEnd", "(II)I"⟩
abbrev cX8_leastRest : ByteArray := prog_10_method_24_code
def yX8_leastRest : MethodName := ⟨RX8, "leastRest", "(II)I"⟩
abbrev cX8_mountFrom : ByteArray := prog_10_method_25_code
def yX8_mountFrom : MethodName := ⟨RX8, "mountFrom", "(III)I"⟩
abbrev cX8_goesBy : ByteArray := prog_10_method_26_code
def yX8_goesBy : MethodName := ⟨RX8, "goesBy", "(I)V"⟩
abbrev cX8_goesMount : ByteArray := prog_10_method_27_code
def yX8_goesMount : MethodName := ⟨RX8, "goesMount", "()V"⟩
abbrev cX8_goesBack : ByteArray := prog_10_method_28_code
def yX8_goesBack : MethodName := ⟨RX8, "goesBack", "()V"⟩
abbrev cX8_goesStage : ByteArray := prog_10_method_29_code
def yX8_goesStage : MethodName := ⟨RX8, "goesStage", "()V"⟩
abbrev cX8_matchOf : ByteArray := prog_10_method_30_code
def yX8_matchOf : MethodName := ⟨RX8, "matchOf", "(II)I"⟩
abbrev cX8_bindsBy : ByteArray := prog_10_method_31_code
def yX8_bindsBy : MethodName := ⟨RX8, "bindsBy", "(II)V"⟩
abbrev cX8_findBound : ByteArray := prog_10_method_32_code
def yX8_findBound : MethodName := ⟨RX8, "findBound", "()V"⟩
abbrev cX8_letter : ByteArray := prog_10_method_33_code
def yX8_letter : MethodName := ⟨RX8, "letter", "(I)I"⟩
abbrev cX8_sign : ByteArray := prog_10_method_34_code
def yX8_sign : MethodName := ⟨RX8, "sign", "()I"⟩
abbrev cX8_readsDigit : ByteArray := prog_10_method_35_code
def yX8_readsDigit : MethodName := ⟨RX8, "readsDigit", "()Z"⟩
abbrev cX8_readsSegment : ByteArray := prog_10_method_36_code
def yX8_readsSegment : MethodName := ⟨RX8, "readsSegment", "()Z"⟩
abbrev cX8_readsSegments : ByteArray := prog_10_method_37_code
def yX8_readsSegments : MethodName := ⟨RX8, "readsSegments", "()Z"⟩
abbrev cX8_statement : ByteArray := prog_10_method_38_code
def yX8_statement : MethodName := ⟨RX8, "statement", "()Z"⟩
abbrev cX8_areSegments : ByteArray := prog_10_method_39_code
def yX8_areSegments : MethodName := ⟨RX8, "areSegments", "(IIZ)Z"⟩
abbrev cX8_isMore : ByteArray := prog_10_method_40_code
def yX8_isMore : MethodName := ⟨RX8, "isMore", "(IIII)V"⟩
abbrev cX8_comesRoute : ByteArray := prog_10_method_41_code
def yX8_comesRoute : MethodName := ⟨RX8, "comesRoute", "(III)Z"⟩
abbrev cX8_comesKind : ByteArray := prog_10_method_42_code
def yX8_comesKind : MethodName := ⟨RX8, "comesKind", "(III)Z"⟩
abbrev cX8_comesDrop : ByteArray := prog_10_method_43_code
def yX8_comesDrop : MethodName := ⟨RX8, "comesDrop", "(I)Z"⟩
abbrev cX8_comesTold : ByteArray := prog_10_method_44_code
def yX8_comesTold : MethodName := ⟨RX8, "comesTold", "(I)Z"⟩
abbrev cX8_table : ByteArray := prog_10_method_45_code
def yX8_table : MethodName := ⟨RX8, "table", "()I"⟩
abbrev cX8_passes : ByteArray := prog_10_method_46_code
def yX8_passes : MethodName := ⟨RX8, "passes", "([I)V"⟩
abbrev cX8_passesAll : ByteArray := prog_10_method_47_code
def yX8_passesAll : MethodName := ⟨RX8, "passesAll", "(IZ)V"⟩
abbrev cX8_setThere : ByteArray := prog_10_method_48_code
def yX8_setThere : MethodName := ⟨RX8, "setThere", "()I"⟩
abbrev cX8_image : ByteArray := prog_10_method_49_code
def yX8_image : MethodName := ⟨RX8, "image", "()I"⟩
abbrev cX8_on : ByteArray := prog_10_method_50_code
def yX8_on : MethodName := ⟨RX8, "on", "()I"⟩
abbrev cX8_kind : ByteArray := prog_10_method_51_code
def yX8_kind : MethodName := ⟨RX8, "kind", "(III)I"⟩
abbrev cX8_verb : ByteArray := prog_10_method_52_code
def yX8_verb : MethodName := ⟨RX8, "verb", "(II)I"⟩
abbrev cX8_drops : ByteArray := prog_10_method_53_code
def yX8_drops : MethodName := ⟨RX8, "drops", "(I)I"⟩
abbrev cX8_copies : ByteArray := prog_10_method_54_code
def yX8_copies : MethodName := ⟨RX8, "copies", "(II)I"⟩
abbrev cX8_parametersOf : ByteArray := prog_10_method_55_code
def yX8_parametersOf : MethodName := ⟨RX8, "parametersOf", "(I)I"⟩
abbrev cX8_route : ByteArray := prog_10_method_56_code
def yX8_route : MethodName := ⟨RX8, "route", "(II)I"⟩
abbrev cX8_segment : ByteArray := prog_10_method_57_code
def yX8_segment : MethodName := ⟨RX8, "segment", "(II)I"⟩
abbrev cX8_beginAlike : ByteArray := prog_10_method_58_code
def yX8_beginAlike : MethodName := ⟨RX8, "beginAlike", "(III)Z"⟩
abbrev cX8_isNewNode : ByteArray := prog_10_method_59_code
def yX8_isNewNode : MethodName := ⟨RX8, "isNewNode", "(II)Z"⟩
abbrev cX8_nodesOf : ByteArray := prog_10_method_60_code
def yX8_nodesOf : MethodName := ⟨RX8, "nodesOf", "(I)I"⟩
abbrev cX8_nodes : ByteArray := prog_10_method_61_code
def yX8_nodes : MethodName := ⟨RX8, "nodes", "(I)I"⟩
abbrev cX8_letterOf : ByteArray := prog_10_method_62_code
def yX8_letterOf : MethodName := ⟨RX8, "letterOf", "(II)I"⟩
abbrev cX8_notAsked : ByteArray := prog_10_method_63_code
def yX8_notAsked : MethodName := ⟨RX8, "notAsked", "(II)I"⟩
abbrev cX8_match : ByteArray := prog_10_method_64_code
def yX8_match : MethodName := ⟨RX8, "match", "(II)I"⟩
abbrev cX8_bound : ByteArray := prog_10_method_65_code
def yX8_bound : MethodName := ⟨RX8, "bound", "(III)I"⟩
abbrev cX8_looked : ByteArray := prog_10_method_66_code
def yX8_looked : MethodName := ⟨RX8, "looked", "(II)I"⟩
abbrev cX8_verbs : ByteArray := prog_10_method_67_code
def yX8_verbs : MethodName := ⟨RX8, "verbs", "(I)I"⟩
abbrev cX8_askedFor : ByteArray := prog_10_method_68_code
def yX8_askedFor : MethodName := ⟨RX8, "askedFor", "(I)I"⟩
abbrev cX8_brought : ByteArray := prog_10_method_69_code
def yX8_brought : MethodName := ⟨RX8, "brought", "(II)I"⟩
abbrev cX8_isBrought : ByteArray := prog_10_method_70_code
def yX8_isBrought : MethodName := ⟨RX8, "isBrought", "(I)Z"⟩
abbrev cX8_never : ByteArray := prog_10_method_71_code
def yX8_never : MethodName := ⟨RX8, "never", "()I"⟩
abbrev cX8_matchedBy : ByteArray := prog_10_method_72_code
def yX8_matchedBy : MethodName := ⟨RX8, "matchedBy", "(I)I"⟩
abbrev cX8_matched : ByteArray := prog_10_method_73_code
def yX8_matched : MethodName := ⟨RX8, "matched", "(I)I"⟩
abbrev cX8_takesLetter : ByteArray := prog_10_method_74_code
def yX8_takesLetter : MethodName := ⟨RX8, "takesLetter", "(II)Z"⟩
abbrev cX8_takes : ByteArray := prog_10_method_75_code
def yX8_takes : MethodName := ⟨RX8, "takes", "(I)Z"⟩
abbrev cX8_witness : ByteArray := prog_10_method_76_code
def yX8_witness : MethodName := ⟨RX8, "witness", "(II)I"⟩
abbrev cX8_doClash : ByteArray := prog_10_method_77_code
def yX8_doClash : MethodName := ⟨RX8, "doClash", "(II)Z"⟩
abbrev cX8_clash : ByteArray := prog_10_method_78_code
def yX8_clash : MethodName := ⟨RX8, "clash", "(I)I"⟩
abbrev cX8_findWays : ByteArray := prog_10_method_79_code
def yX8_findWays : MethodName := ⟨RX8, "findWays", "()V"⟩
abbrev cX8_builds : ByteArray := prog_10_method_80_code
def yX8_builds : MethodName := ⟨RX8, "builds", "(I)V"⟩
abbrev cX8_buildsWay : ByteArray := prog_10_method_81_code
def yX8_buildsWay : MethodName := ⟨RX8, "buildsWay", "(I)V"⟩
abbrev cX8_pathOf : ByteArray := prog_10_method_82_code
def yX8_pathOf : MethodName := ⟨RX8, "pathOf", "(I)I"⟩
abbrev cX8_build : ByteArray := prog_10_method_83_code
def yX8_build : MethodName := ⟨RX8, "build", "(IIIII)I"⟩
abbrev cX8_back : ByteArray := prog_10_method_84_code
def yX8_back : MethodName := ⟨RX8, "back", "(I)I"⟩
abbrev cX8_without : ByteArray := prog_10_method_85_code
def yX8_without : MethodName := ⟨RX8, "without", "(III)I"⟩
abbrev cX8_best : ByteArray := prog_10_method_86_code
def yX8_best : MethodName := ⟨RX8, "best", "(I)I"⟩
abbrev cX8_divisor : ByteArray := prog_10_method_87_code
def yX8_divisor : MethodName := ⟨RX8, "divisor", "(JJ)J"⟩
abbrev cX8_partOf : ByteArray := prog_10_method_88_code
def yX8_partOf : MethodName := ⟨RX8, "partOf", "(JJI)J"⟩
abbrev cX8_lost : ByteArray := prog_10_method_89_code
def yX8_lost : MethodName := ⟨RX8, "lost", "(IIII)J"⟩
abbrev cX8_mean : ByteArray := prog_10_method_90_code
def yX8_mean : MethodName := ⟨RX8, "mean", "(II)J"⟩
abbrev cX8_firstWrong : ByteArray := prog_10_method_91_code
def yX8_firstWrong : MethodName := ⟨RX8, "firstWrong", "(I)I"⟩
abbrev cX8_whatIs : ByteArray := prog_10_method_92_code
def yX8_whatIs : MethodName := ⟨RX8, "whatIs", "(II)I"⟩
abbrev cX8_row : ByteArray := prog_10_method_93_code
def yX8_row : MethodName := ⟨RX8, "row", "(I)I"⟩
abbrev cX8_judge : ByteArray := prog_10_method_94_code
def yX8_judge : MethodName := ⟨RX8, "judge", "(I)I"⟩
abbrev cX8_clear : ByteArray := prog_10_method_95_code
def yX8_clear : MethodName := ⟨RX8, "clear", "()I"⟩
abbrev cX8_draw : ByteArray := prog_10_method_96_code
def yX8_draw : MethodName := ⟨RX8, "draw", "(I)I"⟩
abbrev cX8_lots : ByteArray := prog_10_method_97_code
def yX8_lots : MethodName := ⟨RX8, "lots", "(III)I"⟩
abbrev cX8_setMounts : ByteArray := prog_10_method_98_code
def yX8_setMounts : MethodName := ⟨RX8, "setMounts", "()I"⟩
abbrev cX8_allSegments : ByteArray := prog_10_method_99_code
def yX8_allSegments : MethodName := ⟨RX8, "allSegments", "()I"⟩
abbrev cX8_count : ByteArray := prog_10_method_100_code
def yX8_count : MethodName := ⟨RX8, "count", "(I)I"⟩
def RJ6 : String := "java/lang/Integer"
def TJ6 : u_T := fun k => match k with
  | _ => ("", "", "", false)
def tyJ6 : Nat → FieldType := fun k => match k with
  | _ => .int
abbrev wsJ60 : List Cond := u_ws RJ6 TJ6 0
theorem nmJ6 : ∀ a, a < 0 → ∀ b, b < 0 → a ≠ b → (TJ6 a).2.1 ≠ (TJ6 b).2.1 := by decide +kernel
theorem tyJ6_ok : ∀ k, k < 0 → parseFieldDescriptor (TJ6 k).2.2.1 = some (tyJ6 k) := by decide +kernel
abbrev cJ6_bitCount_0f7a4 : ByteArray := prog_11_method_49_code
def yJ6_bitCount_0f7a4 : MethodName := ⟨RJ6, "bitCount", "(I)I"⟩
def RJ9 : String := "java/lang/Math"
def TJ9 : u_T := fun k => match k with
  | _ => ("", "", "", false)
def tyJ9 : Nat → FieldType := fun k => match k with
  | _ => .int
abbrev wsJ90 : List Cond := u_ws RJ9 TJ9 0
theorem nmJ9 : ∀ a, a < 0 → ∀ b, b < 0 → a ≠ b → (TJ9 a).2.1 ≠ (TJ9 b).2.1 := by decide +kernel
theorem tyJ9_ok : ∀ k, k < 0 → parseFieldDescriptor (TJ9 k).2.2.1 = some (tyJ9 k) := by decide +kernel
abbrev cJ9_max_7cf53 : ByteArray := prog_12_method_65_code
def yJ9_max_7cf53 : MethodName := ⟨RJ9, "max", "(II)I"⟩
def RL : String := "RoutesByTriesLaw"
abbrev cL_law : ByteArray := code
def yL_law : MethodName := ⟨RL, "law", "([I)Z"⟩
