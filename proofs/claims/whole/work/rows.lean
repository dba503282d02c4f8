section
-- ===== PART A: goes FIRST, ahead of the names: the tables' words, and 'selects' of the private methods out of them =====
/-- a private method of a class that the tables say can be made, by its rows of tables_1 -/
def lw_okq (q : MethodName × Nat) : Prop := (q.1.cls ≠ "java/lang/invoke/MethodHandle" ∧ q.1.cls ≠ "java/lang/invoke/VarHandle") ∧ Cond.instantiable q.1.cls q.2 ∈ tables_1 ∧ Cond.privateMethod q.1 ∈ tables_1 ∧ Cond.instanceMethod q.1 ∈ tables_1
theorem lw_p0 : lw_okq (⟨"RoutesByTries$Trie", "empty", "()V"⟩, 12) := ⟨⟨by decide +kernel, by decide +kernel⟩, List.mem_of_getElem? (i := 106) (by decide +kernel), List.mem_of_getElem? (i := 112) (by decide +kernel), List.mem_of_getElem? (i := 113) (by decide +kernel)⟩
theorem lw_p1 : lw_okq (⟨"RoutesByTries$Trie", "addNode", "(I)I"⟩, 12) := ⟨⟨by decide +kernel, by decide +kernel⟩, List.mem_of_getElem? (i := 106) (by decide +kernel), List.mem_of_getElem? (i := 116) (by decide +kernel), List.mem_of_getElem? (i := 117) (by decide +kernel)⟩
theorem lw_p2 : lw_okq (⟨"RoutesByTries", "refuse", "(I)I"⟩, 10) := ⟨⟨by decide +kernel, by decide +kernel⟩, List.mem_of_getElem? (i := 17) (by decide +kernel), List.mem_of_getElem? (i := 286) (by decide +kernel), List.mem_of_getElem? (i := 287) (by decide +kernel)⟩
theorem lw_p3 : lw_okq (⟨"RoutesByTries$Trie", "plant", "(ILRoutesByTries$Route;)V"⟩, 12) := ⟨⟨by decide +kernel, by decide +kernel⟩, List.mem_of_getElem? (i := 106) (by decide +kernel), List.mem_of_getElem? (i := 424) (by decide +kernel), List.mem_of_getElem? (i := 425) (by decide +kernel)⟩
theorem lw_p4 : lw_okq (⟨"RoutesByTries$Trie", "findWays", "(LRoutesByTries$Book;)V"⟩, 12) := ⟨⟨by decide +kernel, by decide +kernel⟩, List.mem_of_getElem? (i := 106) (by decide +kernel), List.mem_of_getElem? (i := 446) (by decide +kernel), List.mem_of_getElem? (i := 447) (by decide +kernel)⟩
theorem lw_p5 : lw_okq (⟨"RoutesByTries$Walk", "look", "(IIII)I"⟩, 11) := ⟨⟨by decide +kernel, by decide +kernel⟩, List.mem_of_getElem? (i := 100) (by decide +kernel), List.mem_of_getElem? (i := 537) (by decide +kernel), List.mem_of_getElem? (i := 538) (by decide +kernel)⟩
theorem lw_p6 : lw_okq (⟨"RoutesByTries$Walk", "nextBy", "(III)I"⟩, 11) := ⟨⟨by decide +kernel, by decide +kernel⟩, List.mem_of_getElem? (i := 100) (by decide +kernel), List.mem_of_getElem? (i := 597) (by decide +kernel), List.mem_of_getElem? (i := 598) (by decide +kernel)⟩
theorem lw_p7 : lw_okq (⟨"RoutesByTries$Walk", "lookAtMounts", "(IIII)I"⟩, 11) := ⟨⟨by decide +kernel, by decide +kernel⟩, List.mem_of_getElem? (i := 100) (by decide +kernel), List.mem_of_getElem? (i := 609) (by decide +kernel), List.mem_of_getElem? (i := 610) (by decide +kernel)⟩
theorem lw_p8 : lw_okq (⟨"RoutesByTries$Walk", "endBy", "(IIII)I"⟩, 11) := ⟨⟨by decide +kernel, by decide +kernel⟩, List.mem_of_getElem? (i := 100) (by decide +kernel), List.mem_of_getElem? (i := 615) (by decide +kernel), List.mem_of_getElem? (i := 616) (by decide +kernel)⟩
theorem lw_p9 : lw_okq (⟨"RoutesByTries", "letterBound", "(II)I"⟩, 10) := ⟨⟨by decide +kernel, by decide +kernel⟩, List.mem_of_getElem? (i := 17) (by decide +kernel), List.mem_of_getElem? (i := 628) (by decide +kernel), List.mem_of_getElem? (i := 629) (by decide +kernel)⟩
theorem lw_p10 : lw_okq (⟨"RoutesByTries", "askedVerb", "(I)I"⟩, 10) := ⟨⟨by decide +kernel, by decide +kernel⟩, List.mem_of_getElem? (i := 17) (by decide +kernel), List.mem_of_getElem? (i := 648) (by decide +kernel), List.mem_of_getElem? (i := 649) (by decide +kernel)⟩
theorem lw_p11 : lw_okq (⟨"RoutesByTries", "clashing", "(II)Z"⟩, 10) := ⟨⟨by decide +kernel, by decide +kernel⟩, List.mem_of_getElem? (i := 17) (by decide +kernel), List.mem_of_getElem? (i := 686) (by decide +kernel), List.mem_of_getElem? (i := 687) (by decide +kernel)⟩
theorem lw_p12 : lw_okq (⟨"RoutesByTries", "give", "(IIII)V"⟩, 10) := ⟨⟨by decide +kernel, by decide +kernel⟩, List.mem_of_getElem? (i := 17) (by decide +kernel), List.mem_of_getElem? (i := 703) (by decide +kernel), List.mem_of_getElem? (i := 704) (by decide +kernel)⟩
theorem lw_p13 : lw_okq (⟨"RoutesByTries", "pathBuilt", "(I)I"⟩, 10) := ⟨⟨by decide +kernel, by decide +kernel⟩, List.mem_of_getElem? (i := 17) (by decide +kernel), List.mem_of_getElem? (i := 707) (by decide +kernel), List.mem_of_getElem? (i := 708) (by decide +kernel)⟩
theorem lw_p14 : lw_okq (⟨"RoutesByTries", "layWay", "(II)Z"⟩, 10) := ⟨⟨by decide +kernel, by decide +kernel⟩, List.mem_of_getElem? (i := 17) (by decide +kernel), List.mem_of_getElem? (i := 711) (by decide +kernel), List.mem_of_getElem? (i := 712) (by decide +kernel)⟩
theorem lw_p15 : lw_okq (⟨"RoutesByTries", "lay", "(LRoutesByTries$Route;)Z"⟩, 10) := ⟨⟨by decide +kernel, by decide +kernel⟩, List.mem_of_getElem? (i := 17) (by decide +kernel), List.mem_of_getElem? (i := 715) (by decide +kernel), List.mem_of_getElem? (i := 716) (by decide +kernel)⟩
def lw_privs_1 : List (MethodName × Nat) := [(⟨"RoutesByTries$Trie", "empty", "()V"⟩, 12), (⟨"RoutesByTries$Trie", "addNode", "(I)I"⟩, 12), (⟨"RoutesByTries", "refuse", "(I)I"⟩, 10), (⟨"RoutesByTries$Trie", "plant", "(ILRoutesByTries$Route;)V"⟩, 12), (⟨"RoutesByTries$Trie", "findWays", "(LRoutesByTries$Book;)V"⟩, 12), (⟨"RoutesByTries$Walk", "look", "(IIII)I"⟩, 11), (⟨"RoutesByTries$Walk", "nextBy", "(III)I"⟩, 11), (⟨"RoutesByTries$Walk", "lookAtMounts", "(IIII)I"⟩, 11), (⟨"RoutesByTries$Walk", "endBy", "(IIII)I"⟩, 11), (⟨"RoutesByTries", "letterBound", "(II)I"⟩, 10), (⟨"RoutesByTries", "askedVerb", "(I)I"⟩, 10), (⟨"RoutesByTries", "clashing", "(II)Z"⟩, 10), (⟨"RoutesByTries", "give", "(IIII)V"⟩, 10), (⟨"RoutesByTries", "pathBuilt", "(I)I"⟩, 10), (⟨"RoutesByTries", "layWay", "(II)Z"⟩, 10), (⟨"RoutesByTries", "lay", "(LRoutesByTries$Route;)Z"⟩, 10)]
theorem lw_r1 : ∀ q ∈ lw_privs_1, lw_okq q := List.forall_mem_cons.mpr ⟨lw_p0, List.forall_mem_cons.mpr ⟨lw_p1, List.forall_mem_cons.mpr ⟨lw_p2, List.forall_mem_cons.mpr ⟨lw_p3, List.forall_mem_cons.mpr ⟨lw_p4, List.forall_mem_cons.mpr ⟨lw_p5, List.forall_mem_cons.mpr ⟨lw_p6, List.forall_mem_cons.mpr ⟨lw_p7, List.forall_mem_cons.mpr ⟨lw_p8, List.forall_mem_cons.mpr ⟨lw_p9, List.forall_mem_cons.mpr ⟨lw_p10, List.forall_mem_cons.mpr ⟨lw_p11, List.forall_mem_cons.mpr ⟨lw_p12, List.forall_mem_cons.mpr ⟨lw_p13, List.forall_mem_cons.mpr ⟨lw_p14, List.forall_mem_cons.mpr ⟨lw_p15, fun _ h => absurd h List.not_mem_nil⟩⟩⟩⟩⟩⟩⟩⟩⟩⟩⟩⟩⟩⟩⟩⟩
theorem lw_p16 : lw_okq (⟨"RoutesByTries", "refuseLong", "(I)J"⟩, 10) := ⟨⟨by decide +kernel, by decide +kernel⟩, List.mem_of_getElem? (i := 17) (by decide +kernel), List.mem_of_getElem? (i := 749) (by decide +kernel), List.mem_of_getElem? (i := 750) (by decide +kernel)⟩
theorem lw_p17 : lw_okq (⟨"RoutesByTries", "firstNotSo", "(I)I"⟩, 10) := ⟨⟨by decide +kernel, by decide +kernel⟩, List.mem_of_getElem? (i := 17) (by decide +kernel), List.mem_of_getElem? (i := 772) (by decide +kernel), List.mem_of_getElem? (i := 773) (by decide +kernel)⟩
theorem lw_p18 : lw_okq (⟨"RoutesByTriesModel", "no", "(I)I"⟩, 52) := ⟨⟨by decide +kernel, by decide +kernel⟩, List.mem_of_getElem? (i := 818) (by decide +kernel), List.mem_of_getElem? (i := 988) (by decide +kernel), List.mem_of_getElem? (i := 989) (by decide +kernel)⟩
theorem lw_p19 : lw_okq (⟨"RoutesByTriesModel", "statement", "()Z"⟩, 52) := ⟨⟨by decide +kernel, by decide +kernel⟩, List.mem_of_getElem? (i := 818) (by decide +kernel), List.mem_of_getElem? (i := 996) (by decide +kernel), List.mem_of_getElem? (i := 997) (by decide +kernel)⟩
theorem lw_p20 : lw_okq (⟨"RoutesByTriesModel", "sign", "()I"⟩, 52) := ⟨⟨by decide +kernel, by decide +kernel⟩, List.mem_of_getElem? (i := 818) (by decide +kernel), List.mem_of_getElem? (i := 1000) (by decide +kernel), List.mem_of_getElem? (i := 1001) (by decide +kernel)⟩
theorem lw_p21 : lw_okq (⟨"RoutesByTriesModel", "readsDigit", "()Z"⟩, 52) := ⟨⟨by decide +kernel, by decide +kernel⟩, List.mem_of_getElem? (i := 818) (by decide +kernel), List.mem_of_getElem? (i := 1004) (by decide +kernel), List.mem_of_getElem? (i := 1005) (by decide +kernel)⟩
theorem lw_p22 : lw_okq (⟨"RoutesByTriesModel", "readsSegments", "()Z"⟩, 52) := ⟨⟨by decide +kernel, by decide +kernel⟩, List.mem_of_getElem? (i := 818) (by decide +kernel), List.mem_of_getElem? (i := 1011) (by decide +kernel), List.mem_of_getElem? (i := 1012) (by decide +kernel)⟩
theorem lw_p23 : lw_okq (⟨"RoutesByTriesModel", "readsSegment", "()Z"⟩, 52) := ⟨⟨by decide +kernel, by decide +kernel⟩, List.mem_of_getElem? (i := 818) (by decide +kernel), List.mem_of_getElem? (i := 1015) (by decide +kernel), List.mem_of_getElem? (i := 1016) (by decide +kernel)⟩
theorem lw_p24 : lw_okq (⟨"RoutesByTriesModel", "passesAll", "(IZ)V"⟩, 52) := ⟨⟨by decide +kernel, by decide +kernel⟩, List.mem_of_getElem? (i := 818) (by decide +kernel), List.mem_of_getElem? (i := 1019) (by decide +kernel), List.mem_of_getElem? (i := 1020) (by decide +kernel)⟩
theorem lw_p25 : lw_okq (⟨"RoutesByTriesModel", "passes", "([I)V"⟩, 52) := ⟨⟨by decide +kernel, by decide +kernel⟩, List.mem_of_getElem? (i := 818) (by decide +kernel), List.mem_of_getElem? (i := 1023) (by decide +kernel), List.mem_of_getElem? (i := 1024) (by decide +kernel)⟩
theorem lw_p26 : lw_okq (⟨"RoutesByTriesModel", "comesTold", "(I)Z"⟩, 52) := ⟨⟨by decide +kernel, by decide +kernel⟩, List.mem_of_getElem? (i := 818) (by decide +kernel), List.mem_of_getElem? (i := 1027) (by decide +kernel), List.mem_of_getElem? (i := 1028) (by decide +kernel)⟩
theorem lw_p27 : lw_okq (⟨"RoutesByTriesModel", "comesKind", "(III)Z"⟩, 52) := ⟨⟨by decide +kernel, by decide +kernel⟩, List.mem_of_getElem? (i := 818) (by decide +kernel), List.mem_of_getElem? (i := 1031) (by decide +kernel), List.mem_of_getElem? (i := 1032) (by decide +kernel)⟩
theorem lw_p28 : lw_okq (⟨"RoutesByTriesModel", "comesDrop", "(I)Z"⟩, 52) := ⟨⟨by decide +kernel, by decide +kernel⟩, List.mem_of_getElem? (i := 818) (by decide +kernel), List.mem_of_getElem? (i := 1038) (by decide +kernel), List.mem_of_getElem? (i := 1039) (by decide +kernel)⟩
theorem lw_p29 : lw_okq (⟨"RoutesByTriesModel", "isRoute", "(I)Z"⟩, 52) := ⟨⟨by decide +kernel, by decide +kernel⟩, List.mem_of_getElem? (i := 818) (by decide +kernel), List.mem_of_getElem? (i := 1042) (by decide +kernel), List.mem_of_getElem? (i := 1043) (by decide +kernel)⟩
theorem lw_p30 : lw_okq (⟨"RoutesByTriesModel", "comesRoute", "(III)Z"⟩, 52) := ⟨⟨by decide +kernel, by decide +kernel⟩, List.mem_of_getElem? (i := 818) (by decide +kernel), List.mem_of_getElem? (i := 1046) (by decide +kernel), List.mem_of_getElem? (i := 1047) (by decide +kernel)⟩
theorem lw_p31 : lw_okq (⟨"RoutesByTriesModel", "areSegments", "(IIZ)Z"⟩, 52) := ⟨⟨by decide +kernel, by decide +kernel⟩, List.mem_of_getElem? (i := 818) (by decide +kernel), List.mem_of_getElem? (i := 1053) (by decide +kernel), List.mem_of_getElem? (i := 1054) (by decide +kernel)⟩
def lw_privs_2 : List (MethodName × Nat) := [(⟨"RoutesByTries", "refuseLong", "(I)J"⟩, 10), (⟨"RoutesByTries", "firstNotSo", "(I)I"⟩, 10), (⟨"RoutesByTriesModel", "no", "(I)I"⟩, 52), (⟨"RoutesByTriesModel", "statement", "()Z"⟩, 52), (⟨"RoutesByTriesModel", "sign", "()I"⟩, 52), (⟨"RoutesByTriesModel", "readsDigit", "()Z"⟩, 52), (⟨"RoutesByTriesModel", "readsSegments", "()Z"⟩, 52), (⟨"RoutesByTriesModel", "readsSegment", "()Z"⟩, 52), (⟨"RoutesByTriesModel", "passesAll", "(IZ)V"⟩, 52), (⟨"RoutesByTriesModel", "passes", "([I)V"⟩, 52), (⟨"RoutesByTriesModel", "comesTold", "(I)Z"⟩, 52), (⟨"RoutesByTriesModel", "comesKind", "(III)Z"⟩, 52), (⟨"RoutesByTriesModel", "comesDrop", "(I)Z"⟩, 52), (⟨"RoutesByTriesModel", "isRoute", "(I)Z"⟩, 52), (⟨"RoutesByTriesModel", "comesRoute", "(III)Z"⟩, 52), (⟨"RoutesByTriesModel", "areSegments", "(IIZ)Z"⟩, 52)]
theorem lw_r2 : ∀ q ∈ lw_privs_2, lw_okq q := List.forall_mem_cons.mpr ⟨lw_p16, List.forall_mem_cons.mpr ⟨lw_p17, List.forall_mem_cons.mpr ⟨lw_p18, List.forall_mem_cons.mpr ⟨lw_p19, List.forall_mem_cons.mpr ⟨lw_p20, List.forall_mem_cons.mpr ⟨lw_p21, List.forall_mem_cons.mpr ⟨lw_p22, List.forall_mem_cons.mpr ⟨lw_p23, List.forall_mem_cons.mpr ⟨lw_p24, List.forall_mem_cons.mpr ⟨lw_p25, List.forall_mem_cons.mpr ⟨lw_p26, List.forall_mem_cons.mpr ⟨lw_p27, List.forall_mem_cons.mpr ⟨lw_p28, List.forall_mem_cons.mpr ⟨lw_p29, List.forall_mem_cons.mpr ⟨lw_p30, List.forall_mem_cons.mpr ⟨lw_p31, fun _ h => absurd h List.not_mem_nil⟩⟩⟩⟩⟩⟩⟩⟩⟩⟩⟩⟩⟩⟩⟩⟩
theorem lw_p32 : lw_okq (⟨"RoutesByTriesModel", "isMore", "(IIII)V"⟩, 52) := ⟨⟨by decide +kernel, by decide +kernel⟩, List.mem_of_getElem? (i := 818) (by decide +kernel), List.mem_of_getElem? (i := 1060) (by decide +kernel), List.mem_of_getElem? (i := 1061) (by decide +kernel)⟩
theorem lw_p33 : lw_okq (⟨"RoutesByTriesModel", "setThere", "()I"⟩, 52) := ⟨⟨by decide +kernel, by decide +kernel⟩, List.mem_of_getElem? (i := 818) (by decide +kernel), List.mem_of_getElem? (i := 1068) (by decide +kernel), List.mem_of_getElem? (i := 1069) (by decide +kernel)⟩
theorem lw_p34 : lw_okq (⟨"RoutesByTriesModel", "isMount", "(I)Z"⟩, 52) := ⟨⟨by decide +kernel, by decide +kernel⟩, List.mem_of_getElem? (i := 818) (by decide +kernel), List.mem_of_getElem? (i := 1087) (by decide +kernel), List.mem_of_getElem? (i := 1088) (by decide +kernel)⟩
theorem lw_p35 : lw_okq (⟨"RoutesByTriesModel", "parametersOf", "(I)I"⟩, 52) := ⟨⟨by decide +kernel, by decide +kernel⟩, List.mem_of_getElem? (i := 818) (by decide +kernel), List.mem_of_getElem? (i := 1103) (by decide +kernel), List.mem_of_getElem? (i := 1104) (by decide +kernel)⟩
theorem lw_p36 : lw_okq (⟨"RoutesByTriesModel", "hasRest", "(I)Z"⟩, 52) := ⟨⟨by decide +kernel, by decide +kernel⟩, List.mem_of_getElem? (i := 818) (by decide +kernel), List.mem_of_getElem? (i := 1107) (by decide +kernel), List.mem_of_getElem? (i := 1108) (by decide +kernel)⟩
theorem lw_p37 : lw_okq (⟨"RoutesByTriesModel", "typeOf", "(II)I"⟩, 52) := ⟨⟨by decide +kernel, by decide +kernel⟩, List.mem_of_getElem? (i := 818) (by decide +kernel), List.mem_of_getElem? (i := 1111) (by decide +kernel), List.mem_of_getElem? (i := 1112) (by decide +kernel)⟩
theorem lw_p38 : lw_okq (⟨"RoutesByTriesModel", "nodesOf", "(I)I"⟩, 52) := ⟨⟨by decide +kernel, by decide +kernel⟩, List.mem_of_getElem? (i := 818) (by decide +kernel), List.mem_of_getElem? (i := 1123) (by decide +kernel), List.mem_of_getElem? (i := 1124) (by decide +kernel)⟩
theorem lw_p39 : lw_okq (⟨"RoutesByTriesModel", "isNewNode", "(II)Z"⟩, 52) := ⟨⟨by decide +kernel, by decide +kernel⟩, List.mem_of_getElem? (i := 818) (by decide +kernel), List.mem_of_getElem? (i := 1127) (by decide +kernel), List.mem_of_getElem? (i := 1128) (by decide +kernel)⟩
theorem lw_p40 : lw_okq (⟨"RoutesByTriesModel", "beginAlike", "(III)Z"⟩, 52) := ⟨⟨by decide +kernel, by decide +kernel⟩, List.mem_of_getElem? (i := 818) (by decide +kernel), List.mem_of_getElem? (i := 1131) (by decide +kernel), List.mem_of_getElem? (i := 1132) (by decide +kernel)⟩
theorem lw_p41 : lw_okq (⟨"RoutesByTriesModel", "opens", "(I)V"⟩, 52) := ⟨⟨by decide +kernel, by decide +kernel⟩, List.mem_of_getElem? (i := 818) (by decide +kernel), List.mem_of_getElem? (i := 1142) (by decide +kernel), List.mem_of_getElem? (i := 1143) (by decide +kernel)⟩
theorem lw_p42 : lw_okq (⟨"RoutesByTriesModel", "notAsked", "(II)I"⟩, 52) := ⟨⟨by decide +kernel, by decide +kernel⟩, List.mem_of_getElem? (i := 818) (by decide +kernel), List.mem_of_getElem? (i := 1150) (by decide +kernel), List.mem_of_getElem? (i := 1151) (by decide +kernel)⟩
theorem lw_p43 : lw_okq (⟨"RoutesByTriesModel", "matchOf", "(II)I"⟩, 52) := ⟨⟨by decide +kernel, by decide +kernel⟩, List.mem_of_getElem? (i := 818) (by decide +kernel), List.mem_of_getElem? (i := 1154) (by decide +kernel), List.mem_of_getElem? (i := 1155) (by decide +kernel)⟩
theorem lw_p44 : lw_okq (⟨"RoutesByTriesModel", "setOf", "(I)I"⟩, 52) := ⟨⟨by decide +kernel, by decide +kernel⟩, List.mem_of_getElem? (i := 818) (by decide +kernel), List.mem_of_getElem? (i := 1158) (by decide +kernel), List.mem_of_getElem? (i := 1159) (by decide +kernel)⟩
theorem lw_p45 : lw_okq (⟨"RoutesByTriesModel", "looksAt", "(IIIIIII)V"⟩, 52) := ⟨⟨by decide +kernel, by decide +kernel⟩, List.mem_of_getElem? (i := 818) (by decide +kernel), List.mem_of_getElem? (i := 1162) (by decide +kernel), List.mem_of_getElem? (i := 1163) (by decide +kernel)⟩
theorem lw_p46 : lw_okq (⟨"RoutesByTriesModel", "goesStage", "()V"⟩, 52) := ⟨⟨by decide +kernel, by decide +kernel⟩, List.mem_of_getElem? (i := 818) (by decide +kernel), List.mem_of_getElem? (i := 1166) (by decide +kernel), List.mem_of_getElem? (i := 1167) (by decide +kernel)⟩
theorem lw_p47 : lw_okq (⟨"RoutesByTriesModel", "goesBack", "()V"⟩, 52) := ⟨⟨by decide +kernel, by decide +kernel⟩, List.mem_of_getElem? (i := 818) (by decide +kernel), List.mem_of_getElem? (i := 1175) (by decide +kernel), List.mem_of_getElem? (i := 1176) (by decide +kernel)⟩
def lw_privs_3 : List (MethodName × Nat) := [(⟨"RoutesByTriesModel", "isMore", "(IIII)V"⟩, 52), (⟨"RoutesByTriesModel", "setThere", "()I"⟩, 52), (⟨"RoutesByTriesModel", "isMount", "(I)Z"⟩, 52), (⟨"RoutesByTriesModel", "parametersOf", "(I)I"⟩, 52), (⟨"RoutesByTriesModel", "hasRest", "(I)Z"⟩, 52), (⟨"RoutesByTriesModel", "typeOf", "(II)I"⟩, 52), (⟨"RoutesByTriesModel", "nodesOf", "(I)I"⟩, 52), (⟨"RoutesByTriesModel", "isNewNode", "(II)Z"⟩, 52), (⟨"RoutesByTriesModel", "beginAlike", "(III)Z"⟩, 52), (⟨"RoutesByTriesModel", "opens", "(I)V"⟩, 52), (⟨"RoutesByTriesModel", "notAsked", "(II)I"⟩, 52), (⟨"RoutesByTriesModel", "matchOf", "(II)I"⟩, 52), (⟨"RoutesByTriesModel", "setOf", "(I)I"⟩, 52), (⟨"RoutesByTriesModel", "looksAt", "(IIIIIII)V"⟩, 52), (⟨"RoutesByTriesModel", "goesStage", "()V"⟩, 52), (⟨"RoutesByTriesModel", "goesBack", "()V"⟩, 52)]
theorem lw_r3 : ∀ q ∈ lw_privs_3, lw_okq q := List.forall_mem_cons.mpr ⟨lw_p32, List.forall_mem_cons.mpr ⟨lw_p33, List.forall_mem_cons.mpr ⟨lw_p34, List.forall_mem_cons.mpr ⟨lw_p35, List.forall_mem_cons.mpr ⟨lw_p36, List.forall_mem_cons.mpr ⟨lw_p37, List.forall_mem_cons.mpr ⟨lw_p38, List.forall_mem_cons.mpr ⟨lw_p39, List.forall_mem_cons.mpr ⟨lw_p40, List.forall_mem_cons.mpr ⟨lw_p41, List.forall_mem_cons.mpr ⟨lw_p42, List.forall_mem_cons.mpr ⟨lw_p43, List.forall_mem_cons.mpr ⟨lw_p44, List.forall_mem_cons.mpr ⟨lw_p45, List.forall_mem_cons.mpr ⟨lw_p46, List.forall_mem_cons.mpr ⟨lw_p47, fun _ h => absurd h List.not_mem_nil⟩⟩⟩⟩⟩⟩⟩⟩⟩⟩⟩⟩⟩⟩⟩⟩
theorem lw_p48 : lw_okq (⟨"RoutesByTriesModel", "isStrict", "(I)Z"⟩, 52) := ⟨⟨by decide +kernel, by decide +kernel⟩, List.mem_of_getElem? (i := 818) (by decide +kernel), List.mem_of_getElem? (i := 1179) (by decide +kernel), List.mem_of_getElem? (i := 1180) (by decide +kernel)⟩
theorem lw_p49 : lw_okq (⟨"RoutesByTriesModel", "goesMount", "()V"⟩, 52) := ⟨⟨by decide +kernel, by decide +kernel⟩, List.mem_of_getElem? (i := 818) (by decide +kernel), List.mem_of_getElem? (i := 1183) (by decide +kernel), List.mem_of_getElem? (i := 1184) (by decide +kernel)⟩
theorem lw_p50 : lw_okq (⟨"RoutesByTriesModel", "mountFrom", "(III)I"⟩, 52) := ⟨⟨by decide +kernel, by decide +kernel⟩, List.mem_of_getElem? (i := 818) (by decide +kernel), List.mem_of_getElem? (i := 1187) (by decide +kernel), List.mem_of_getElem? (i := 1188) (by decide +kernel)⟩
theorem lw_p51 : lw_okq (⟨"RoutesByTriesModel", "leastEnd", "(II)I"⟩, 52) := ⟨⟨by decide +kernel, by decide +kernel⟩, List.mem_of_getElem? (i := 818) (by decide +kernel), List.mem_of_getElem? (i := 1191) (by decide +kernel), List.mem_of_getElem? (i := 1192) (by decide +kernel)⟩
theorem lw_p52 : lw_okq (⟨"RoutesByTriesModel", "serves", "(II)Z"⟩, 52) := ⟨⟨by decide +kernel, by decide +kernel⟩, List.mem_of_getElem? (i := 818) (by decide +kernel), List.mem_of_getElem? (i := 1195) (by decide +kernel), List.mem_of_getElem? (i := 1196) (by decide +kernel)⟩
theorem lw_p53 : lw_okq (⟨"RoutesByTriesModel", "leastRest", "(II)I"⟩, 52) := ⟨⟨by decide +kernel, by decide +kernel⟩, List.mem_of_getElem? (i := 818) (by decide +kernel), List.mem_of_getElem? (i := 1201) (by decide +kernel), List.mem_of_getElem? (i := 1202) (by decide +kernel)⟩
theorem lw_p54 : lw_okq (⟨"RoutesByTriesModel", "goesBy", "(I)V"⟩, 52) := ⟨⟨by decide +kernel, by decide +kernel⟩, List.mem_of_getElem? (i := 818) (by decide +kernel), List.mem_of_getElem? (i := 1205) (by decide +kernel), List.mem_of_getElem? (i := 1206) (by decide +kernel)⟩
theorem lw_p55 : lw_okq (⟨"RoutesByTriesModel", "setBy", "(III)I"⟩, 52) := ⟨⟨by decide +kernel, by decide +kernel⟩, List.mem_of_getElem? (i := 818) (by decide +kernel), List.mem_of_getElem? (i := 1209) (by decide +kernel), List.mem_of_getElem? (i := 1210) (by decide +kernel)⟩
theorem lw_p56 : lw_okq (⟨"RoutesByTriesModel", "findBound", "()V"⟩, 52) := ⟨⟨by decide +kernel, by decide +kernel⟩, List.mem_of_getElem? (i := 818) (by decide +kernel), List.mem_of_getElem? (i := 1217) (by decide +kernel), List.mem_of_getElem? (i := 1218) (by decide +kernel)⟩
theorem lw_p57 : lw_okq (⟨"RoutesByTriesModel", "bindsBy", "(II)V"⟩, 52) := ⟨⟨by decide +kernel, by decide +kernel⟩, List.mem_of_getElem? (i := 818) (by decide +kernel), List.mem_of_getElem? (i := 1221) (by decide +kernel), List.mem_of_getElem? (i := 1222) (by decide +kernel)⟩
theorem lw_p58 : lw_okq (⟨"RoutesByTriesModel", "askedFor", "(I)I"⟩, 52) := ⟨⟨by decide +kernel, by decide +kernel⟩, List.mem_of_getElem? (i := 818) (by decide +kernel), List.mem_of_getElem? (i := 1237) (by decide +kernel), List.mem_of_getElem? (i := 1238) (by decide +kernel)⟩
theorem lw_p59 : lw_okq (⟨"RoutesByTriesModel", "isBrought", "(I)Z"⟩, 52) := ⟨⟨by decide +kernel, by decide +kernel⟩, List.mem_of_getElem? (i := 818) (by decide +kernel), List.mem_of_getElem? (i := 1245) (by decide +kernel), List.mem_of_getElem? (i := 1246) (by decide +kernel)⟩
theorem lw_p60 : lw_okq (⟨"RoutesByTriesModel", "matchedBy", "(I)I"⟩, 52) := ⟨⟨by decide +kernel, by decide +kernel⟩, List.mem_of_getElem? (i := 818) (by decide +kernel), List.mem_of_getElem? (i := 1253) (by decide +kernel), List.mem_of_getElem? (i := 1254) (by decide +kernel)⟩
theorem lw_p61 : lw_okq (⟨"RoutesByTriesModel", "takes", "(I)Z"⟩, 52) := ⟨⟨by decide +kernel, by decide +kernel⟩, List.mem_of_getElem? (i := 818) (by decide +kernel), List.mem_of_getElem? (i := 1261) (by decide +kernel), List.mem_of_getElem? (i := 1262) (by decide +kernel)⟩
theorem lw_p62 : lw_okq (⟨"RoutesByTriesModel", "takesLetter", "(II)Z"⟩, 52) := ⟨⟨by decide +kernel, by decide +kernel⟩, List.mem_of_getElem? (i := 818) (by decide +kernel), List.mem_of_getElem? (i := 1265) (by decide +kernel), List.mem_of_getElem? (i := 1266) (by decide +kernel)⟩
theorem lw_p63 : lw_okq (⟨"RoutesByTriesModel", "doClash", "(II)Z"⟩, 52) := ⟨⟨by decide +kernel, by decide +kernel⟩, List.mem_of_getElem? (i := 818) (by decide +kernel), List.mem_of_getElem? (i := 1273) (by decide +kernel), List.mem_of_getElem? (i := 1274) (by decide +kernel)⟩
def lw_privs_4 : List (MethodName × Nat) := [(⟨"RoutesByTriesModel", "isStrict", "(I)Z"⟩, 52), (⟨"RoutesByTriesModel", "goesMount", "()V"⟩, 52), (⟨"RoutesByTriesModel", "mountFrom", "(III)I"⟩, 52), (⟨"RoutesByTriesModel", "leastEnd", "(II)I"⟩, 52), (⟨"RoutesByTriesModel", "serves", "(II)Z"⟩, 52), (⟨"RoutesByTriesModel", "leastRest", "(II)I"⟩, 52), (⟨"RoutesByTriesModel", "goesBy", "(I)V"⟩, 52), (⟨"RoutesByTriesModel", "setBy", "(III)I"⟩, 52), (⟨"RoutesByTriesModel", "findBound", "()V"⟩, 52), (⟨"RoutesByTriesModel", "bindsBy", "(II)V"⟩, 52), (⟨"RoutesByTriesModel", "askedFor", "(I)I"⟩, 52), (⟨"RoutesByTriesModel", "isBrought", "(I)Z"⟩, 52), (⟨"RoutesByTriesModel", "matchedBy", "(I)I"⟩, 52), (⟨"RoutesByTriesModel", "takes", "(I)Z"⟩, 52), (⟨"RoutesByTriesModel", "takesLetter", "(II)Z"⟩, 52), (⟨"RoutesByTriesModel", "doClash", "(II)Z"⟩, 52)]
theorem lw_r4 : ∀ q ∈ lw_privs_4, lw_okq q := List.forall_mem_cons.mpr ⟨lw_p48, List.forall_mem_cons.mpr ⟨lw_p49, List.forall_mem_cons.mpr ⟨lw_p50, List.forall_mem_cons.mpr ⟨lw_p51, List.forall_mem_cons.mpr ⟨lw_p52, List.forall_mem_cons.mpr ⟨lw_p53, List.forall_mem_cons.mpr ⟨lw_p54, List.forall_mem_cons.mpr ⟨lw_p55, List.forall_mem_cons.mpr ⟨lw_p56, List.forall_mem_cons.mpr ⟨lw_p57, List.forall_mem_cons.mpr ⟨lw_p58, List.forall_mem_cons.mpr ⟨lw_p59, List.forall_mem_cons.mpr ⟨lw_p60, List.forall_mem_cons.mpr ⟨lw_p61, List.forall_mem_cons.mpr ⟨lw_p62, List.forall_mem_cons.mpr ⟨lw_p63, fun _ h => absurd h List.not_mem_nil⟩⟩⟩⟩⟩⟩⟩⟩⟩⟩⟩⟩⟩⟩⟩⟩
theorem lw_p64 : lw_okq (⟨"RoutesByTriesModel", "pathOf", "(I)I"⟩, 52) := ⟨⟨by decide +kernel, by decide +kernel⟩, List.mem_of_getElem? (i := 818) (by decide +kernel), List.mem_of_getElem? (i := 1281) (by decide +kernel), List.mem_of_getElem? (i := 1282) (by decide +kernel)⟩
theorem lw_p65 : lw_okq (⟨"RoutesByTriesModel", "findWays", "()V"⟩, 52) := ⟨⟨by decide +kernel, by decide +kernel⟩, List.mem_of_getElem? (i := 818) (by decide +kernel), List.mem_of_getElem? (i := 1285) (by decide +kernel), List.mem_of_getElem? (i := 1286) (by decide +kernel)⟩
theorem lw_p66 : lw_okq (⟨"RoutesByTriesModel", "buildsWay", "(I)V"⟩, 52) := ⟨⟨by decide +kernel, by decide +kernel⟩, List.mem_of_getElem? (i := 818) (by decide +kernel), List.mem_of_getElem? (i := 1289) (by decide +kernel), List.mem_of_getElem? (i := 1290) (by decide +kernel)⟩
theorem lw_p67 : lw_okq (⟨"RoutesByTriesModel", "builds", "(I)V"⟩, 52) := ⟨⟨by decide +kernel, by decide +kernel⟩, List.mem_of_getElem? (i := 818) (by decide +kernel), List.mem_of_getElem? (i := 1293) (by decide +kernel), List.mem_of_getElem? (i := 1294) (by decide +kernel)⟩
theorem lw_p68 : lw_okq (⟨"RoutesByTriesModel", "numberOf", "([II)I"⟩, 52) := ⟨⟨by decide +kernel, by decide +kernel⟩, List.mem_of_getElem? (i := 818) (by decide +kernel), List.mem_of_getElem? (i := 1297) (by decide +kernel), List.mem_of_getElem? (i := 1298) (by decide +kernel)⟩
theorem lw_p69 : lw_okq (⟨"RoutesByTriesModel", "lowestOf", "(I)J"⟩, 52) := ⟨⟨by decide +kernel, by decide +kernel⟩, List.mem_of_getElem? (i := 818) (by decide +kernel), List.mem_of_getElem? (i := 1317) (by decide +kernel), List.mem_of_getElem? (i := 1318) (by decide +kernel)⟩
theorem lw_p70 : lw_okq (⟨"RoutesByTriesModel", "firstWrong", "(I)I"⟩, 52) := ⟨⟨by decide +kernel, by decide +kernel⟩, List.mem_of_getElem? (i := 818) (by decide +kernel), List.mem_of_getElem? (i := 1337) (by decide +kernel), List.mem_of_getElem? (i := 1338) (by decide +kernel)⟩
theorem lw_p71 : lw_okq (⟨"RoutesByTriesModel", "draw", "(I)I"⟩, 52) := ⟨⟨by decide +kernel, by decide +kernel⟩, List.mem_of_getElem? (i := 818) (by decide +kernel), List.mem_of_getElem? (i := 1357) (by decide +kernel), List.mem_of_getElem? (i := 1358) (by decide +kernel)⟩
theorem lw_p72 : lw_okq (⟨"RoutesByTriesModel", "setMounts", "()I"⟩, 52) := ⟨⟨by decide +kernel, by decide +kernel⟩, List.mem_of_getElem? (i := 818) (by decide +kernel), List.mem_of_getElem? (i := 1368) (by decide +kernel), List.mem_of_getElem? (i := 1369) (by decide +kernel)⟩
theorem lw_p73 : lw_okq (⟨"RoutesByTriesModel", "allSegments", "()I"⟩, 52) := ⟨⟨by decide +kernel, by decide +kernel⟩, List.mem_of_getElem? (i := 818) (by decide +kernel), List.mem_of_getElem? (i := 1372) (by decide +kernel), List.mem_of_getElem? (i := 1373) (by decide +kernel)⟩
def lw_privs_5 : List (MethodName × Nat) := [(⟨"RoutesByTriesModel", "pathOf", "(I)I"⟩, 52), (⟨"RoutesByTriesModel", "findWays", "()V"⟩, 52), (⟨"RoutesByTriesModel", "buildsWay", "(I)V"⟩, 52), (⟨"RoutesByTriesModel", "builds", "(I)V"⟩, 52), (⟨"RoutesByTriesModel", "numberOf", "([II)I"⟩, 52), (⟨"RoutesByTriesModel", "lowestOf", "(I)J"⟩, 52), (⟨"RoutesByTriesModel", "firstWrong", "(I)I"⟩, 52), (⟨"RoutesByTriesModel", "draw", "(I)I"⟩, 52), (⟨"RoutesByTriesModel", "setMounts", "()I"⟩, 52), (⟨"RoutesByTriesModel", "allSegments", "()I"⟩, 52)]
theorem lw_r5 : ∀ q ∈ lw_privs_5, lw_okq q := List.forall_mem_cons.mpr ⟨lw_p64, List.forall_mem_cons.mpr ⟨lw_p65, List.forall_mem_cons.mpr ⟨lw_p66, List.forall_mem_cons.mpr ⟨lw_p67, List.forall_mem_cons.mpr ⟨lw_p68, List.forall_mem_cons.mpr ⟨lw_p69, List.forall_mem_cons.mpr ⟨lw_p70, List.forall_mem_cons.mpr ⟨lw_p71, List.forall_mem_cons.mpr ⟨lw_p72, List.forall_mem_cons.mpr ⟨lw_p73, fun _ h => absurd h List.not_mem_nil⟩⟩⟩⟩⟩⟩⟩⟩⟩⟩
def lw_privs : List (MethodName × Nat) := lw_privs_1 ++ (lw_privs_2 ++ (lw_privs_3 ++ (lw_privs_4 ++ (lw_privs_5))))
def lw_tbl : List Cond := k2_sels lw_privs ++ tables_1
theorem lw_privs_ok : ∀ q ∈ lw_privs, lw_okq q := by
  show ∀ q ∈ lw_privs_1 ++ (lw_privs_2 ++ (lw_privs_3 ++ (lw_privs_4 ++ (lw_privs_5)))), lw_okq q
  exact List.forall_mem_append.mpr ⟨lw_r1, List.forall_mem_append.mpr ⟨lw_r2, List.forall_mem_append.mpr ⟨lw_r3, List.forall_mem_append.mpr ⟨lw_r4, lw_r5⟩⟩⟩⟩
/-! ===== BEGIN words of one list among another's, by their places ===== -/
theorem goodIn_r {big : List Cond} (ws : List Cond) (ps : List Nat) (hp : ws = ps.filterMap (fun i => big[i]?)) (h : ws.all goodWord = true) : GoodIn big ws := by
  intro w hw
  have h1 := List.all_eq_true.mp h w hw
  rw [hp] at hw
  obtain ⟨i, -, hi⟩ := List.mem_filterMap.mp hw
  have hm : w ∈ big := by first | exact List.mem_of_getElem? hi | exact List.getElem?_mem hi
  exact ⟨hm, good_of_word h1⟩
theorem goodIn_app {big a b : List Cond} (ha : GoodIn big a) (hb : GoodIn big b) : GoodIn big (a ++ b) := fun w h => (List.mem_append.mp h).elim (ha w) (hb w)
theorem goodIn_ca {big a b : List Cond} {c : Cond} (ha : GoodIn big (c :: a)) (hb : GoodIn big b) : GoodIn big (c :: (a ++ b)) := fun w h => (List.mem_cons.mp h).elim (fun e => ha w (List.mem_cons.mpr (Or.inl e))) (fun h => (List.mem_append.mp h).elim (fun h => ha w (List.mem_cons.mpr (Or.inr h))) (hb w))
theorem goodIn_sub {big ws : List Cond} (hm : ∀ w ∈ ws, w ∈ big) (h : ws.all goodWord = true) : GoodIn big ws := fun w hw => ⟨hm w hw, good_of_word (List.all_eq_true.mp h w hw)⟩
/-! ===== END ===== -/

/-! ===== BEGIN printed: names, fields, word lists, decode rows ===== -/
def RX0 : String := "RoutesByTries$Book"
def TX0 : u_T := fun k => match k with
  | 0 => ("RoutesByTries$Book", "kinds", "[I", true)
  | 1 => ("RoutesByTries$Book", "figures", "[I", true)
  | 2 => ("RoutesByTries$Book", "routes", "[LRoutesByTries$Route;", true)
  | 3 => ("RoutesByTries$Book", "nobody", "LRoutesByTries$Route;", true)
  | _ => ("RoutesByTries$Book", "came", "I", false)
def tyX0 : Nat → FieldType := fun k => match k with
  | 0 => .array .int
  | 1 => .array .int
  | 2 => .array (.object "RoutesByTries$Route")
  | 3 => .object "RoutesByTries$Route"
  | _ => .int
abbrev wsX00 : List Cond := u_ws RX0 TX0 5
theorem nmX0 : ∀ a, a < 5 → ∀ b, b < 5 → a ≠ b → (TX0 a).2.1 ≠ (TX0 b).2.1 := by decide +kernel
theorem tyX0_ok : ∀ k, k < 5 → parseFieldDescriptor (TX0 k).2.2.1 = some (tyX0 k) := by decide +kernel
abbrev cX0_init : ByteArray := prog_2_method_1_code
def yX0_init : MethodName := ⟨RX0, "<init>", "()V"⟩
abbrev cX0_copyFrom : ByteArray := prog_2_method_2_code
def yX0_copyFrom : MethodName := ⟨RX0, "copyFrom", "(LRoutesByTries$Book;)V"⟩
abbrev cX0_at : ByteArray := prog_2_method_3_code
def yX0_at : MethodName := ⟨RX0, "at", "(I)LRoutesByTries$Route;"⟩
abbrev cX0_isThere : ByteArray := prog_2_method_4_code
def yX0_isThere : MethodName := ⟨RX0, "isThere", "(I)Z"⟩
abbrev cX0_isFull : ByteArray := prog_2_method_5_code
def yX0_isFull : MethodName := ⟨RX0, "isFull", "()Z"⟩
abbrev cX0_draft : ByteArray := prog_2_method_6_code
def yX0_draft : MethodName := ⟨RX0, "draft", "()LRoutesByTries$Route;"⟩
abbrev cX0_addDraft : ByteArray := prog_2_method_7_code
def yX0_addDraft : MethodName := ⟨RX0, "addDraft", "()V"⟩
abbrev cX0_thereBits : ByteArray := prog_2_method_8_code
def yX0_thereBits : MethodName := ⟨RX0, "thereBits", "()I"⟩
abbrev cX0_mountBits : ByteArray := prog_2_method_9_code
def yX0_mountBits : MethodName := ⟨RX0, "mountBits", "()I"⟩
abbrev cX0_segmentsThere : ByteArray := prog_2_method_10_code
def yX0_segmentsThere : MethodName := ⟨RX0, "segmentsThere", "()I"⟩
def RX1 : String := "RoutesByTries$Path"
def TX1 : u_T := fun k => match k with
  | 0 => ("RoutesByTries$Path", "letters", "[I", true)
  | _ => ("RoutesByTries$Path", "size", "I", false)
def tyX1 : Nat → FieldType := fun k => match k with
  | 0 => .array .int
  | _ => .int
abbrev wsX10 : List Cond := u_ws RX1 TX1 2
theorem nmX1 : ∀ a, a < 2 → ∀ b, b < 2 → a ≠ b → (TX1 a).2.1 ≠ (TX1 b).2.1 := by decide +kernel
theorem tyX1_ok : ∀ k, k < 2 → parseFieldDescriptor (TX1 k).2.2.1 = some (tyX1 k) := by decide +kernel
abbrev cX1_init : ByteArray := prog_3_method_1_code
def yX1_init : MethodName := ⟨RX1, "<init>", "()V"⟩
abbrev cX1_read : ByteArray := prog_3_method_2_code
def yX1_read : MethodName := ⟨RX1, "read", "(I)V"⟩
abbrev cX1_number : ByteArray := prog_3_method_3_code
def yX1_number : MethodName := ⟨RX1, "number", "()I"⟩
abbrev cX1_isFull : ByteArray := prog_3_method_4_code
def yX1_isFull : MethodName := ⟨RX1, "isFull", "()Z"⟩
abbrev cX1_add : ByteArray := prog_3_method_5_code
def yX1_add : MethodName := ⟨RX1, "add", "(I)V"⟩
abbrev cX1_at : ByteArray := prog_3_method_6_code
def yX1_at : MethodName := ⟨RX1, "at", "(I)I"⟩
def RX2 : String := "RoutesByTries$Pile"
def TX2 : u_T := fun k => match k with
  | 0 => ("RoutesByTries$Pile", "numbers", "[I", true)
  | _ => ("RoutesByTries$Pile", "size", "I", false)
def tyX2 : Nat → FieldType := fun k => match k with
  | 0 => .array .int
  | _ => .int
abbrev wsX20 : List Cond := u_ws RX2 TX2 2
theorem nmX2 : ∀ a, a < 2 → ∀ b, b < 2 → a ≠ b → (TX2 a).2.1 ≠ (TX2 b).2.1 := by decide +kernel
theorem tyX2_ok : ∀ k, k < 2 → parseFieldDescriptor (TX2 k).2.2.1 = some (tyX2 k) := by decide +kernel
abbrev cX2_init : ByteArray := prog_4_method_1_code
def yX2_init : MethodName := ⟨RX2, "<init>", "(I)V"⟩
abbrev cX2_isFull : ByteArray := prog_4_method_2_code
def yX2_isFull : MethodName := ⟨RX2, "isFull", "()Z"⟩
abbrev cX2_add : ByteArray := prog_4_method_3_code
def yX2_add : MethodName := ⟨RX2, "add", "(I)V"⟩
abbrev cX2_at : ByteArray := prog_4_method_4_code
def yX2_at : MethodName := ⟨RX2, "at", "(I)I"⟩
def RX3 : String := "RoutesByTries$Reader"
def TX3 : u_T := fun k => match k with
  | _ => ("", "", "", false)
def tyX3 : Nat → FieldType := fun k => match k with
  | _ => .int
abbrev wsX30 : List Cond := u_ws RX3 TX3 0
theorem nmX3 : ∀ a, a < 0 → ∀ b, b < 0 → a ≠ b → (TX3 a).2.1 ≠ (TX3 b).2.1 := by decide +kernel
theorem tyX3_ok : ∀ k, k < 0 → parseFieldDescriptor (TX3 k).2.2.1 = some (tyX3 k) := by decide +kernel
abbrev cX3_read : ByteArray := prog_5_method_2_code
def yX3_read : MethodName := ⟨RX3, "read", "(LRoutesByTries$Pile;LRoutesByTries$Book;)I"⟩
abbrev cX3_placeOfFormFault : ByteArray := prog_5_method_3_code
def yX3_placeOfFormFault : MethodName := ⟨RX3, "placeOfFormFault", "(LRoutesByTries$Pile;)I"⟩
abbrev cX3_stateBehind : ByteArray := prog_5_method_4_code
def yX3_stateBehind : MethodName := ⟨RX3, "stateBehind", "(II)I"⟩
abbrev cX3_stateBehindFirst : ByteArray := prog_5_method_5_code
def yX3_stateBehindFirst : MethodName := ⟨RX3, "stateBehindFirst", "(I)I"⟩
abbrev cX3_stateBehindClose : ByteArray := prog_5_method_6_code
def yX3_stateBehindClose : MethodName := ⟨RX3, "stateBehindClose", "(I)I"⟩
abbrev cX3_isDigit : ByteArray := prog_5_method_7_code
def yX3_isDigit : MethodName := ⟨RX3, "isDigit", "(I)Z"⟩
abbrev cX3_isNamed : ByteArray := prog_5_method_8_code
def yX3_isNamed : MethodName := ⟨RX3, "isNamed", "(I)Z"⟩
abbrev cX3_obey : ByteArray := prog_5_method_9_code
def yX3_obey : MethodName := ⟨RX3, "obey", "(LRoutesByTries$Pile;IILRoutesByTries$Book;)Z"⟩
abbrev cX3_addRoute : ByteArray := prog_5_method_10_code
def yX3_addRoute : MethodName := ⟨RX3, "addRoute", "(LRoutesByTries$Pile;IILRoutesByTries$Book;)Z"⟩
abbrev cX3_readSegments : ByteArray := prog_5_method_11_code
def yX3_readSegments : MethodName := ⟨RX3, "readSegments", "(LRoutesByTries$Pile;IILRoutesByTries$Route;)Z"⟩
abbrev cX3_segmentOf : ByteArray := prog_5_method_12_code
def yX3_segmentOf : MethodName := ⟨RX3, "segmentOf", "(II)I"⟩
abbrev cX3_turn : ByteArray := prog_5_method_13_code
def yX3_turn : MethodName := ⟨RX3, "turn", "(IIILRoutesByTries$Book;)Z"⟩
abbrev cX3_drop : ByteArray := prog_5_method_14_code
def yX3_drop : MethodName := ⟨RX3, "drop", "(ILRoutesByTries$Book;)Z"⟩
def RX4 : String := "RoutesByTries$Route"
def TX4 : u_T := fun k => match k with
  | 0 => ("RoutesByTries$Route", "segments", "[I", true)
  | 1 => ("RoutesByTries$Route", "size", "I", false)
  | 2 => ("RoutesByTries$Route", "plain", "I", false)
  | 3 => ("RoutesByTries$Route", "router", "I", false)
  | 4 => ("RoutesByTries$Route", "verb", "I", false)
  | 5 => ("RoutesByTries$Route", "mounted", "I", false)
  | _ => ("RoutesByTries$Route", "there", "Z", false)
def tyX4 : Nat → FieldType := fun k => match k with
  | 0 => .array .int
  | 1 => .int
  | 2 => .int
  | 3 => .int
  | 4 => .int
  | 5 => .int
  | _ => .boolean
abbrev wsX40 : List Cond := u_ws RX4 TX4 7
theorem nmX4 : ∀ a, a < 7 → ∀ b, b < 7 → a ≠ b → (TX4 a).2.1 ≠ (TX4 b).2.1 := by decide +kernel
theorem tyX4_ok : ∀ k, k < 7 → parseFieldDescriptor (TX4 k).2.2.1 = some (tyX4 k) := by decide +kernel
abbrev cX4_init : ByteArray := prog_6_method_1_code
def yX4_init : MethodName := ⟨RX4, "<init>", "()V"⟩
abbrev cX4_copyFrom : ByteArray := prog_6_method_2_code
def yX4_copyFrom : MethodName := ⟨RX4, "copyFrom", "(LRoutesByTries$Route;)V"⟩
abbrev cX4_isMount : ByteArray := prog_6_method_3_code
def yX4_isMount : MethodName := ⟨RX4, "isMount", "()Z"⟩
abbrev cX4_hasRest : ByteArray := prog_6_method_4_code
def yX4_hasRest : MethodName := ⟨RX4, "hasRest", "()Z"⟩
abbrev cX4_isFull : ByteArray := prog_6_method_5_code
def yX4_isFull : MethodName := ⟨RX4, "isFull", "()Z"⟩
abbrev cX4_empty : ByteArray := prog_6_method_6_code
def yX4_empty : MethodName := ⟨RX4, "empty", "()V"⟩
abbrev cX4_add : ByteArray := prog_6_method_7_code
def yX4_add : MethodName := ⟨RX4, "add", "(I)V"⟩
abbrev cX4_segmentAt : ByteArray := prog_6_method_8_code
def yX4_segmentAt : MethodName := ⟨RX4, "segmentAt", "(I)I"⟩
abbrev cX4_placeOf : ByteArray := prog_6_method_9_code
def yX4_placeOf : MethodName := ⟨RX4, "placeOf", "(I)I"⟩
abbrev cX4_parameterBits : ByteArray := prog_6_method_10_code
def yX4_parameterBits : MethodName := ⟨RX4, "parameterBits", "()I"⟩
abbrev cX4_isAlike : ByteArray := prog_6_method_11_code
def yX4_isAlike : MethodName := ⟨RX4, "isAlike", "(LRoutesByTries$Route;)Z"⟩
abbrev cX4_takes : ByteArray := prog_6_method_12_code
def yX4_takes : MethodName := ⟨RX4, "takes", "(LRoutesByTries$Path;)Z"⟩
def RX5 : String := "RoutesByTries$Trie"
def TX5 : u_T := fun k => match k with
  | 0 => ("RoutesByTries$Trie", "behind", "[I", true)
  | 1 => ("RoutesByTries$Trie", "owners", "[I", true)
  | 2 => ("RoutesByTries$Trie", "passing", "[I", true)
  | 3 => ("RoutesByTries$Trie", "ends", "[I", true)
  | 4 => ("RoutesByTries$Trie", "rests", "[I", true)
  | 5 => ("RoutesByTries$Trie", "mounts", "[I", true)
  | 6 => ("RoutesByTries$Trie", "mounted", "[I", true)
  | 7 => ("RoutesByTries$Trie", "serving", "[I", true)
  | 8 => ("RoutesByTries$Trie", "kinds", "[I", true)
  | 9 => ("RoutesByTries$Trie", "figures", "[I", true)
  | 10 => ("RoutesByTries$Trie", "ways", "[I", true)
  | _ => ("RoutesByTries$Trie", "size", "I", false)
def tyX5 : Nat → FieldType := fun k => match k with
  | 0 => .array .int
  | 1 => .array .int
  | 2 => .array .int
  | 3 => .array .int
  | 4 => .array .int
  | 5 => .array .int
  | 6 => .array .int
  | 7 => .array .int
  | 8 => .array .int
  | 9 => .array .int
  | 10 => .array .int
  | _ => .int
abbrev wsX50 : List Cond := u_ws RX5 TX5 12
theorem nmX5 : ∀ a, a < 12 → ∀ b, b < 12 → a ≠ b → (TX5 a).2.1 ≠ (TX5 b).2.1 := by decide +kernel
theorem tyX5_ok : ∀ k, k < 12 → parseFieldDescriptor (TX5 k).2.2.1 = some (tyX5 k) := by decide +kernel
abbrev cX5_init : ByteArray := prog_7_method_1_code
def yX5_init : MethodName := ⟨RX5, "<init>", "()V"⟩
abbrev cX5_edgeOf : ByteArray := prog_7_method_2_code
def yX5_edgeOf : MethodName := ⟨RX5, "edgeOf", "(I)I"⟩
abbrev cX5_empty : ByteArray := prog_7_method_3_code
def yX5_empty : MethodName := ⟨RX5, "empty", "()V"⟩
abbrev cX5_grow : ByteArray := prog_7_method_4_code
def yX5_grow : MethodName := ⟨RX5, "grow", "(LRoutesByTries$Book;)V"⟩
abbrev cX5_addNode : ByteArray := prog_7_method_5_code
def yX5_addNode : MethodName := ⟨RX5, "addNode", "(I)I"⟩
abbrev cX5_plant : ByteArray := prog_7_method_6_code
def yX5_plant : MethodName := ⟨RX5, "plant", "(ILRoutesByTries$Route;)V"⟩
abbrev cX5_mark : ByteArray := prog_7_method_7_code
def yX5_mark : MethodName := ⟨RX5, "mark", "([III)V"⟩
abbrev cX5_findWays : ByteArray := prog_7_method_8_code
def yX5_findWays : MethodName := ⟨RX5, "findWays", "(LRoutesByTries$Book;)V"⟩
abbrev cX5_nodesOf : ByteArray := prog_7_method_9_code
def yX5_nodesOf : MethodName := ⟨RX5, "nodesOf", "(I)I"⟩
abbrev cX5_nodeBehind : ByteArray := prog_7_method_10_code
def yX5_nodeBehind : MethodName := ⟨RX5, "nodeBehind", "(III)I"⟩
def RX6 : String := "RoutesByTries$Walk"
def TX6 : u_T := fun k => match k with
  | 0 => ("RoutesByTries$Walk", "trie", "LRoutesByTries$Trie;", true)
  | 1 => ("RoutesByTries$Walk", "path", "LRoutesByTries$Path;", true)
  | 2 => ("RoutesByTries$Walk", "trail", "[I", true)
  | 3 => ("RoutesByTries$Walk", "starts", "[I", true)
  | 4 => ("RoutesByTries$Walk", "verb", "I", false)
  | 5 => ("RoutesByTries$Walk", "present", "I", false)
  | 6 => ("RoutesByTries$Walk", "seen", "I", false)
  | 7 => ("RoutesByTries$Walk", "mounts", "I", false)
  | 8 => ("RoutesByTries$Walk", "taken", "I", false)
  | 9 => ("RoutesByTries$Walk", "allBrought", "I", false)
  | _ => ("RoutesByTries$Walk", "allSeen", "I", false)
def tyX6 : Nat → FieldType := fun k => match k with
  | 0 => .object "RoutesByTries$Trie"
  | 1 => .object "RoutesByTries$Path"
  | 2 => .array .int
  | 3 => .array .int
  | 4 => .int
  | 5 => .int
  | 6 => .int
  | 7 => .int
  | 8 => .int
  | 9 => .int
  | _ => .int
abbrev wsX60 : List Cond := u_ws RX6 TX6 11
theorem nmX6 : ∀ a, a < 11 → ∀ b, b < 11 → a ≠ b → (TX6 a).2.1 ≠ (TX6 b).2.1 := by decide +kernel
theorem tyX6_ok : ∀ k, k < 11 → parseFieldDescriptor (TX6 k).2.2.1 = some (tyX6 k) := by decide +kernel
abbrev cX6_init : ByteArray := prog_8_method_1_code
def yX6_init : MethodName := ⟨RX6, "<init>", "()V"⟩
abbrev cX6_bring : ByteArray := prog_8_method_2_code
def yX6_bring : MethodName := ⟨RX6, "bring", "(III)I"⟩
abbrev cX6_bringAll : ByteArray := prog_8_method_3_code
def yX6_bringAll : MethodName := ⟨RX6, "bringAll", "(II)V"⟩
abbrev cX6_look : ByteArray := prog_8_method_4_code
def yX6_look : MethodName := ⟨RX6, "look", "(IIII)I"⟩
abbrev cX6_orderOf : ByteArray := prog_8_method_5_code
def yX6_orderOf : MethodName := ⟨RX6, "orderOf", "(I)Ljava/lang/String;"⟩
abbrev cX6_nextBy : ByteArray := prog_8_method_6_code
def yX6_nextBy : MethodName := ⟨RX6, "nextBy", "(III)I"⟩
abbrev cX6_lookAtMounts : ByteArray := prog_8_method_7_code
def yX6_lookAtMounts : MethodName := ⟨RX6, "lookAtMounts", "(IIII)I"⟩
abbrev cX6_endBy : ByteArray := prog_8_method_8_code
def yX6_endBy : MethodName := ⟨RX6, "endBy", "(IIII)I"⟩
def RX7 : String := "RoutesByTries"
def TX7 : u_T := fun k => match k with
  | 0 => ("RoutesByTries", "book", "LRoutesByTries$Book;", true)
  | 1 => ("RoutesByTries", "trial", "LRoutesByTries$Book;", true)
  | 2 => ("RoutesByTries", "kept", "LRoutesByTries$Book;", true)
  | 3 => ("RoutesByTries", "walk", "LRoutesByTries$Walk;", true)
  | 4 => ("RoutesByTries", "told", "LRoutesByTries$Pile;", true)
  | 5 => ("RoutesByTries", "row", "LRoutesByTries$Pile;", true)
  | 6 => ("RoutesByTries", "built", "LRoutesByTries$Path;", true)
  | 7 => ("RoutesByTries", "given", "[I", true)
  | 8 => ("RoutesByTries", "refusals", "[I", true)
  | _ => ("RoutesByTries", "hasImage", "Z", false)
def tyX7 : Nat → FieldType := fun k => match k with
  | 0 => .object "RoutesByTries$Book"
  | 1 => .object "RoutesByTries$Book"
  | 2 => .object "RoutesByTries$Book"
  | 3 => .object "RoutesByTries$Walk"
  | 4 => .object "RoutesByTries$Pile"
  | 5 => .object "RoutesByTries$Pile"
  | 6 => .object "RoutesByTries$Path"
  | 7 => .array .int
  | 8 => .array .int
  | _ => .boolean
abbrev wsX70 : List Cond := u_ws RX7 TX7 10
theorem nmX7 : ∀ a, a < 10 → ∀ b, b < 10 → a ≠ b → (TX7 a).2.1 ≠ (TX7 b).2.1 := by decide +kernel
theorem tyX7_ok : ∀ k, k < 10 → parseFieldDescriptor (TX7 k).2.2.1 = some (tyX7 k) := by decide +kernel
abbrev cX7_init : ByteArray := prog_1_method_1_code
def yX7_init : MethodName := ⟨RX7, "<init>", "()V"⟩
abbrev cX7_letter : ByteArray := prog_1_method_2_code
def yX7_letter : MethodName := ⟨RX7, "letter", "(I)I"⟩
abbrev cX7_table : ByteArray := prog_1_method_3_code
def yX7_table : MethodName := ⟨RX7, "table", "()I"⟩
abbrev cX7_kind : ByteArray := prog_1_method_4_code
def yX7_kind : MethodName := ⟨RX7, "kind", "(III)I"⟩
abbrev cX7_verb : ByteArray := prog_1_method_5_code
def yX7_verb : MethodName := ⟨RX7, "verb", "(II)I"⟩
abbrev cX7_drops : ByteArray := prog_1_method_6_code
def yX7_drops : MethodName := ⟨RX7, "drops", "(I)I"⟩
abbrev cX7_copies : ByteArray := prog_1_method_7_code
def yX7_copies : MethodName := ⟨RX7, "copies", "(II)I"⟩
abbrev cX7_route : ByteArray := prog_1_method_8_code
def yX7_route : MethodName := ⟨RX7, "route", "(II)I"⟩
abbrev cX7_segment : ByteArray := prog_1_method_9_code
def yX7_segment : MethodName := ⟨RX7, "segment", "(II)I"⟩
abbrev cX7_nodes : ByteArray := prog_1_method_10_code
def yX7_nodes : MethodName := ⟨RX7, "nodes", "(I)I"⟩
abbrev cX7_letterOf : ByteArray := prog_1_method_11_code
def yX7_letterOf : MethodName := ⟨RX7, "letterOf", "(II)I"⟩
abbrev cX7_match : ByteArray := prog_1_method_12_code
def yX7_match : MethodName := ⟨RX7, "match", "(II)I"⟩
abbrev cX7_bound : ByteArray := prog_1_method_13_code
def yX7_bound : MethodName := ⟨RX7, "bound", "(III)I"⟩
abbrev cX7_looked : ByteArray := prog_1_method_14_code
def yX7_looked : MethodName := ⟨RX7, "looked", "(II)I"⟩
abbrev cX7_verbs : ByteArray := prog_1_method_15_code
def yX7_verbs : MethodName := ⟨RX7, "verbs", "(I)I"⟩
abbrev cX7_brought : ByteArray := prog_1_method_16_code
def yX7_brought : MethodName := ⟨RX7, "brought", "(II)I"⟩
abbrev cX7_never : ByteArray := prog_1_method_17_code
def yX7_never : MethodName := ⟨RX7, "never", "()I"⟩
abbrev cX7_matched : ByteArray := prog_1_method_18_code
def yX7_matched : MethodName := ⟨RX7, "matched", "(I)I"⟩
abbrev cX7_witness : ByteArray := prog_1_method_19_code
def yX7_witness : MethodName := ⟨RX7, "witness", "(II)I"⟩
abbrev cX7_clash : ByteArray := prog_1_method_20_code
def yX7_clash : MethodName := ⟨RX7, "clash", "(I)I"⟩
abbrev cX7_build : ByteArray := prog_1_method_21_code
def yX7_build : MethodName := ⟨RX7, "build", "(IIIII)I"⟩
abbrev cX7_back : ByteArray := prog_1_method_22_code
def yX7_back : MethodName := ⟨RX7, "back", "(I)I"⟩
abbrev cX7_without : ByteArray := prog_1_method_23_code
def yX7_without : MethodName := ⟨RX7, "without", "(III)I"⟩
abbrev cX7_best : ByteArray := prog_1_method_24_code
def yX7_best : MethodName := ⟨RX7, "best", "(I)I"⟩
abbrev cX7_lost : ByteArray := prog_1_method_25_code
def yX7_lost : MethodName := ⟨RX7, "lost", "(IIII)J"⟩
abbrev cX7_mean : ByteArray := prog_1_method_26_code
def yX7_mean : MethodName := ⟨RX7, "mean", "(II)J"⟩
abbrev cX7_whatIs : ByteArray := prog_1_method_27_code
def yX7_whatIs : MethodName := ⟨RX7, "whatIs", "(II)I"⟩
abbrev cX7_row : ByteArray := prog_1_method_28_code
def yX7_row : MethodName := ⟨RX7, "row", "(I)I"⟩
abbrev cX7_judge : ByteArray := prog_1_method_29_code
def yX7_judge : MethodName := ⟨RX7, "judge", "(I)I"⟩
abbrev cX7_clear : ByteArray := prog_1_method_30_code
def yX7_clear : MethodName := ⟨RX7, "clear", "()I"⟩
abbrev cX7_lots : ByteArray := prog_1_method_31_code
def yX7_lots : MethodName := ⟨RX7, "lots", "(III)I"⟩
abbrev cX7_image : ByteArray := prog_1_method_32_code
def yX7_image : MethodName := ⟨RX7, "image", "()I"⟩
abbrev cX7_on : ByteArray := prog_1_method_33_code
def yX7_on : MethodName := ⟨RX7, "on", "()I"⟩
abbrev cX7_count : ByteArray := prog_1_method_34_code
def yX7_count : MethodName := ⟨RX7, "count", "(I)I"⟩
abbrev cX7_refuse : ByteArray := prog_1_method_35_code
def yX7_refuse : MethodName := ⟨RX7, "refuse", "(I)I"⟩
abbrev cX7_refuseLong : ByteArray := prog_1_method_36_code
def yX7_refuseLong : MethodName := ⟨RX7, "refuseLong", "(I)J"⟩
abbrev cX7_askedVerb : ByteArray := prog_1_method_37_code
def yX7_askedVerb : MethodName := ⟨RX7, "askedVerb", "(I)I"⟩
abbrev cX7_letterBound : ByteArray := prog_1_method_38_code
def yX7_letterBound : MethodName := ⟨RX7, "letterBound", "(II)I"⟩
abbrev cX7_clashing : ByteArray := prog_1_method_39_code
def yX7_clashing : MethodName := ⟨RX7, "clashing", "(II)Z"⟩
abbrev cX7_give : ByteArray := prog_1_method_40_code
def yX7_give : MethodName := ⟨RX7, "give", "(IIII)V"⟩
abbrev cX7_pathBuilt : ByteArray := prog_1_method_41_code
def yX7_pathBuilt : MethodName := ⟨RX7, "pathBuilt", "(I)I"⟩
abbrev cX7_layWay : ByteArray := prog_1_method_42_code
def yX7_layWay : MethodName := ⟨RX7, "layWay", "(II)Z"⟩
abbrev cX7_lay : ByteArray := prog_1_method_43_code
def yX7_lay : MethodName := ⟨RX7, "lay", "(LRoutesByTries$Route;)Z"⟩
abbrev cX7_firstNotSo : ByteArray := prog_1_method_44_code
def yX7_firstNotSo : MethodName := ⟨RX7, "firstNotSo", "(I)I"⟩
abbrev cX7_isRouter : ByteArray := prog_1_method_45_code
def yX7_isRouter : MethodName := ⟨RX7, "isRouter", "(I)Z"⟩
abbrev cX7_isPath : ByteArray := prog_1_method_46_code
def yX7_isPath : MethodName := ⟨RX7, "isPath", "(I)Z"⟩
abbrev cX7_isVerb : ByteArray := prog_1_method_47_code
def yX7_isVerb : MethodName := ⟨RX7, "isVerb", "(I)Z"⟩
abbrev cX7_isLetter : ByteArray := prog_1_method_48_code
def yX7_isLetter : MethodName := ⟨RX7, "isLetter", "(I)Z"⟩
abbrev cX7_isOneOfTwo : ByteArray := prog_1_method_49_code
def yX7_isOneOfTwo : MethodName := ⟨RX7, "isOneOfTwo", "(I)Z"⟩
abbrev cX7_has : ByteArray := prog_1_method_50_code
def yX7_has : MethodName := ⟨RX7, "has", "(II)Z"⟩
abbrev cX7_leastOf : ByteArray := prog_1_method_51_code
def yX7_leastOf : MethodName := ⟨RX7, "leastOf", "(I)I"⟩
abbrev cX7_numberAt : ByteArray := prog_1_method_52_code
def yX7_numberAt : MethodName := ⟨RX7, "numberAt", "([II)I"⟩
abbrev cX7_put : ByteArray := prog_1_method_53_code
def yX7_put : MethodName := ⟨RX7, "put", "([III)V"⟩
abbrev cX7_served : ByteArray := prog_1_method_54_code
def yX7_served : MethodName := ⟨RX7, "served", "(I)I"⟩
abbrev cX7_fits : ByteArray := prog_1_method_55_code
def yX7_fits : MethodName := ⟨RX7, "fits", "(II)Z"⟩
abbrev cX7_power : ByteArray := prog_1_method_56_code
def yX7_power : MethodName := ⟨RX7, "power", "(JI)J"⟩
abbrev cX7_partOfFraction : ByteArray := prog_1_method_57_code
def yX7_partOfFraction : MethodName := ⟨RX7, "partOfFraction", "(JJI)J"⟩
abbrev cX7_greatestDivisor : ByteArray := prog_1_method_58_code
def yX7_greatestDivisor : MethodName := ⟨RX7, "greatestDivisor", "(JJ)J"⟩
abbrev cX7_nextSeed : ByteArray := prog_1_method_59_code
def yX7_nextSeed : MethodName := ⟨RX7, "nextSeed", "(I)I"⟩
abbrev cX7_drawn : ByteArray := prog_1_method_60_code
def yX7_drawn : MethodName := ⟨RX7, "drawn", "(I)I"⟩
def RX8 : String := "RoutesByTriesModel"
def TX8 : u_T := fun k => match k with
  | 0 => ("RoutesByTriesModel", "refused", "[I", true)
  | 1 => ("RoutesByTriesModel", "kind", "[I", true)
  | 2 => ("RoutesByTriesModel", "figure", "[I", true)
  | 3 => ("RoutesByTriesModel", "there", "[I", true)
  | 4 => ("RoutesByTriesModel", "routerOf", "[I", true)
  | 5 => ("RoutesByTriesModel", "verbOf", "[I", true)
  | 6 => ("RoutesByTriesModel", "mounts", "[I", true)
  | 7 => ("RoutesByTriesModel", "many", "[I", true)
  | 8 => ("RoutesByTriesModel", "segment", "[I", true)
  | 9 => ("RoutesByTriesModel", "came", "I", false)
  | 10 => ("RoutesByTriesModel", "letters", "[I", true)
  | 11 => ("RoutesByTriesModel", "length", "I", false)
  | 12 => ("RoutesByTriesModel", "atRouter", "[I", true)
  | 13 => ("RoutesByTriesModel", "atDepth", "[I", true)
  | 14 => ("RoutesByTriesModel", "atSet", "[I", true)
  | 15 => ("RoutesByTriesModel", "atPlace", "[I", true)
  | 16 => ("RoutesByTriesModel", "atRoot", "[I", true)
  | 17 => ("RoutesByTriesModel", "atStage", "[I", true)
  | 18 => ("RoutesByTriesModel", "atMount", "[I", true)
  | 19 => ("RoutesByTriesModel", "atVia", "[I", true)
  | 20 => ("RoutesByTriesModel", "atByLetter", "[I", true)
  | 21 => ("RoutesByTriesModel", "top", "I", false)
  | 22 => ("RoutesByTriesModel", "looks", "I", false)
  | 23 => ("RoutesByTriesModel", "found", "I", false)
  | 24 => ("RoutesByTriesModel", "verbAsked", "I", false)
  | 25 => ("RoutesByTriesModel", "boundTo", "[I", true)
  | 26 => ("RoutesByTriesModel", "tape", "[I", true)
  | 27 => ("RoutesByTriesModel", "sort", "[I", true)
  | 28 => ("RoutesByTriesModel", "sortAt", "[I", true)
  | 29 => ("RoutesByTriesModel", "told", "[I", true)
  | 30 => ("RoutesByTriesModel", "segmentsAt", "[I", true)
  | 31 => ("RoutesByTriesModel", "segmentsMany", "[I", true)
  | 32 => ("RoutesByTriesModel", "toldSegment", "[I", true)
  | 33 => ("RoutesByTriesModel", "taped", "I", false)
  | 34 => ("RoutesByTriesModel", "reading", "I", false)
  | 35 => ("RoutesByTriesModel", "statements", "I", false)
  | 36 => ("RoutesByTriesModel", "telling", "I", false)
  | 37 => ("RoutesByTriesModel", "segmentsTold", "I", false)
  | 38 => ("RoutesByTriesModel", "kept", "[I", true)
  | 39 => ("RoutesByTriesModel", "hasImage", "Z", false)
  | 40 => ("RoutesByTriesModel", "isKeeping", "Z", false)
  | 41 => ("RoutesByTriesModel", "cursor", "I", false)
  | 42 => ("RoutesByTriesModel", "allLooks", "I", false)
  | 43 => ("RoutesByTriesModel", "given", "[I", true)
  | 44 => ("RoutesByTriesModel", "built", "[I", true)
  | 45 => ("RoutesByTriesModel", "wayMount", "[I", true)
  | 46 => ("RoutesByTriesModel", "builtMany", "I", false)
  | 47 => ("RoutesByTriesModel", "isBuilt", "Z", false)
  | 48 => ("RoutesByTriesModel", "lost", "[I", true)
  | 49 => ("RoutesByTriesModel", "row", "[I", true)
  | 50 => ("RoutesByTriesModel", "rowMany", "I", false)
  | _ => ("RoutesByTriesModel", "lots", "I", false)
def tyX8 : Nat → FieldType := fun k => match k with
  | 0 => .array .int
  | 1 => .array .int
  | 2 => .array .int
  | 3 => .array .int
  | 4 => .array .int
  | 5 => .array .int
  | 6 => .array .int
  | 7 => .array .int
  | 8 => .array .int
  | 9 => .int
  | 10 => .array .int
  | 11 => .int
  | 12 => .array .int
  | 13 => .array .int
  | 14 => .array .int
  | 15 => .array .int
  | 16 => .array .int
  | 17 => .array .int
  | 18 => .array .int
  | 19 => .array .int
  | 20 => .array .int
  | 21 => .int
  | 22 => .int
  | 23 => .int
  | 24 => .int
  | 25 => .array .int
  | 26 => .array .int
  | 27 => .array .int
  | 28 => .array .int
  | 29 => .array .int
  | 30 => .array .int
  | 31 => .array .int
  | 32 => .array .int
  | 33 => .int
  | 34 => .int
  | 35 => .int
  | 36 => .int
  | 37 => .int
  | 38 => .array .int
  | 39 => .boolean
  | 40 => .boolean
  | 41 => .int
  | 42 => .int
  | 43 => .array .int
  | 44 => .array .int
  | 45 => .array .int
  | 46 => .int
  | 47 => .boolean
  | 48 => .array .int
  | 49 => .array .int
  | 50 => .int
  | _ => .int
abbrev wsX80 : List Cond := u_ws RX8 TX8 52
theorem nmX8 : ∀ a, a < 52 → ∀ b, b < 52 → a ≠ b → (TX8 a).2.1 ≠ (TX8 b).2.1 := by decide +kernel
theorem tyX8_ok : ∀ k, k < 52 → parseFieldDescriptor (TX8 k).2.2.1 = some (tyX8 k) := by decide +kernel
abbrev cX8_init : ByteArray := prog_10_method_1_code
def yX8_init : MethodName := ⟨RX8, "<init>", "()V"⟩
abbrev cX8_no : ByteArray := prog_10_method_2_code
def yX8_no : MethodName := ⟨RX8, "no", "(I)I"⟩
abbrev cX8_lowestOf : ByteArray := prog_10_method_3_code
def yX8_lowestOf : MethodName := ⟨RX8, "lowestOf", "(I)J"⟩
abbrev cX8_isIn : ByteArray := prog_10_method_4_code
def yX8_isIn : MethodName := ⟨RX8, "isIn", "(III)Z"⟩
abbrev cX8_beyond : ByteArray := prog_10_method_5_code
def yX8_beyond : MethodName := ⟨RX8, "beyond", "(III)I"⟩
abbrev cX8_has : ByteArray := prog_10_method_6_code
def yX8_has : MethodName := ⟨RX8, "has", "(II)Z"⟩
abbrev cX8_bits : ByteArray := prog_10_method_7_code
def yX8_bits : MethodName := ⟨RX8, "bits", "(I)I"⟩
abbrev cX8_isRouter : ByteArray := prog_10_method_8_code
def yX8_isRouter : MethodName := ⟨RX8, "isRouter", "(I)Z"⟩
abbrev cX8_isRoute : ByteArray := prog_10_method_9_code
def yX8_isRoute : MethodName := ⟨RX8, "isRoute", "(I)Z"⟩
abbrev cX8_isPath : ByteArray := prog_10_method_10_code
def yX8_isPath : MethodName := ⟨RX8, "isPath", "(I)Z"⟩
abbrev cX8_isVerb : ByteArray := prog_10_method_11_code
def yX8_isVerb : MethodName := ⟨RX8, "isVerb", "(I)Z"⟩
abbrev cX8_isMount : ByteArray := prog_10_method_12_code
def yX8_isMount : MethodName := ⟨RX8, "isMount", "(I)Z"⟩
abbrev cX8_typeOf : ByteArray := prog_10_method_13_code
def yX8_typeOf : MethodName := ⟨RX8, "typeOf", "(II)I"⟩
abbrev cX8_hasRest : ByteArray := prog_10_method_14_code
def yX8_hasRest : MethodName := ⟨RX8, "hasRest", "(I)Z"⟩
abbrev cX8_setOf : ByteArray := prog_10_method_15_code
def yX8_setOf : MethodName := ⟨RX8, "setOf", "(I)I"⟩
abbrev cX8_setBy : ByteArray := prog_10_method_16_code
def yX8_setBy : MethodName := ⟨RX8, "setBy", "(III)I"⟩
abbrev cX8_serves : ByteArray := prog_10_method_17_code
def yX8_serves : MethodName := ⟨RX8, "serves", "(II)Z"⟩
abbrev cX8_opens : ByteArray := prog_10_method_18_code
def yX8_opens : MethodName := ⟨RX8, "opens", "(I)V"⟩
abbrev cX8_numberOf : ByteArray := prog_10_method_19_code
def yX8_numberOf : MethodName := ⟨RX8, "numberOf", "([II)I"⟩
abbrev cX8_orderOf : ByteArray := prog_10_method_20_code
def yX8_orderOf : MethodName := ⟨RX8, "orderOf", "(I)I"⟩
abbrev cX8_isStrict : ByteArray := prog_10_method_21_code
def yX8_isStrict : MethodName := ⟨RX8, "isStrict", "(I)Z"⟩
abbrev cX8_looksAt : ByteArray := prog_10_method_22_code
def yX8_looksAt : MethodName := ⟨RX8, "looksAt", "(IIIIIII)V"⟩
abbrev cX8_leastEnd : ByteArray := prog_10_method_23_code
def yX8_leastEnd : MethodName := ⟨RX8, "leastEnd", "(II)I"⟩
abbrev cX8_leastRest : ByteArray := prog_10_method_24_code
def yX8_leastRest : MethodName := ⟨RX8, "leastRest", "(II)I"⟩
abbrev cX8_mountFrom : ByteArray := prog_10_method_25_code
def yX8_mountFrom : MethodName := ⟨RX8, "mountFrom", "(III)I"⟩
abbrev cX8_goesBy : ByteArray := prog_10_method_26_code
def yX8_goesBy : MethodName := ⟨RX8, "goesBy", "(I)V"⟩
abbrev cX8_goesMount : ByteArray := prog_10_method_27_code
def yX8_goesMount : MethodName := ⟨RX8, "goesMount", "()V"⟩
abbrev cX8_goesBack : ByteArray := prog_10_method_28_code
def yX8_goesBack : MethodName := ⟨RX8, "goesBack", "()V"⟩
abbrev cX8_goesStage : ByteArray := prog_10_method_29_code
def yX8_goesStage : MethodName := ⟨RX8, "goesStage", "()V"⟩
abbrev cX8_matchOf : ByteArray := prog_10_method_30_code
def yX8_matchOf : MethodName := ⟨RX8, "matchOf", "(II)I"⟩
abbrev cX8_bindsBy : ByteArray := prog_10_method_31_code
def yX8_bindsBy : MethodName := ⟨RX8, "bindsBy", "(II)V"⟩
abbrev cX8_findBound : ByteArray := prog_10_method_32_code
def yX8_findBound : MethodName := ⟨RX8, "findBound", "()V"⟩
abbrev cX8_letter : ByteArray := prog_10_method_33_code
def yX8_letter : MethodName := ⟨RX8, "letter", "(I)I"⟩
abbrev cX8_sign : ByteArray := prog_10_method_34_code
def yX8_sign : MethodName := ⟨RX8, "sign", "()I"⟩
abbrev cX8_readsDigit : ByteArray := prog_10_method_35_code
def yX8_readsDigit : MethodName := ⟨RX8, "readsDigit", "()Z"⟩
abbrev cX8_readsSegment : ByteArray := prog_10_method_36_code
def yX8_readsSegment : MethodName := ⟨RX8, "readsSegment", "()Z"⟩
abbrev cX8_readsSegments : ByteArray := prog_10_method_37_code
def yX8_readsSegments : MethodName := ⟨RX8, "readsSegments", "()Z"⟩
abbrev cX8_statement : ByteArray := prog_10_method_38_code
def yX8_statement : MethodName := ⟨RX8, "statement", "()Z"⟩
abbrev cX8_areSegments : ByteArray := prog_10_method_39_code
def yX8_areSegments : MethodName := ⟨RX8, "areSegments", "(IIZ)Z"⟩
abbrev cX8_isMore : ByteArray := prog_10_method_40_code
def yX8_isMore : MethodName := ⟨RX8, "isMore", "(IIII)V"⟩
abbrev cX8_comesRoute : ByteArray := prog_10_method_41_code
def yX8_comesRoute : MethodName := ⟨RX8, "comesRoute", "(III)Z"⟩
abbrev cX8_comesKind : ByteArray := prog_10_method_42_code
def yX8_comesKind : MethodName := ⟨RX8, "comesKind", "(III)Z"⟩
abbrev cX8_comesDrop : ByteArray := prog_10_method_43_code
def yX8_comesDrop : MethodName := ⟨RX8, "comesDrop", "(I)Z"⟩
abbrev cX8_comesTold : ByteArray := prog_10_method_44_code
def yX8_comesTold : MethodName := ⟨RX8, "comesTold", "(I)Z"⟩
abbrev cX8_table : ByteArray := prog_10_method_45_code
def yX8_table : MethodName := ⟨RX8, "table", "()I"⟩
abbrev cX8_passes : ByteArray := prog_10_method_46_code
def yX8_passes : MethodName := ⟨RX8, "passes", "([I)V"⟩
abbrev cX8_passesAll : ByteArray := prog_10_method_47_code
def yX8_passesAll : MethodName := ⟨RX8, "passesAll", "(IZ)V"⟩
abbrev cX8_setThere : ByteArray := prog_10_method_48_code
def yX8_setThere : MethodName := ⟨RX8, "setThere", "()I"⟩
abbrev cX8_image : ByteArray := prog_10_method_49_code
def yX8_image : MethodName := ⟨RX8, "image", "()I"⟩
abbrev cX8_on : ByteArray := prog_10_method_50_code
def yX8_on : MethodName := ⟨RX8, "on", "()I"⟩
abbrev cX8_kind : ByteArray := prog_10_method_51_code
def yX8_kind : MethodName := ⟨RX8, "kind", "(III)I"⟩
abbrev cX8_verb : ByteArray := prog_10_method_52_code
def yX8_verb : MethodName := ⟨RX8, "verb", "(II)I"⟩
abbrev cX8_drops : ByteArray := prog_10_method_53_code
def yX8_drops : MethodName := ⟨RX8, "drops", "(I)I"⟩
abbrev cX8_copies : ByteArray := prog_10_method_54_code
def yX8_copies : MethodName := ⟨RX8, "copies", "(II)I"⟩
abbrev cX8_parametersOf : ByteArray := prog_10_method_55_code
def yX8_parametersOf : MethodName := ⟨RX8, "parametersOf", "(I)I"⟩
abbrev cX8_route : ByteArray := prog_10_method_56_code
def yX8_route : MethodName := ⟨RX8, "route", "(II)I"⟩
abbrev cX8_segment : ByteArray := prog_10_method_57_code
def yX8_segment : MethodName := ⟨RX8, "segment", "(II)I"⟩
abbrev cX8_beginAlike : ByteArray := prog_10_method_58_code
def yX8_beginAlike : MethodName := ⟨RX8, "beginAlike", "(III)Z"⟩
abbrev cX8_isNewNode : ByteArray := prog_10_method_59_code
def yX8_isNewNode : MethodName := ⟨RX8, "isNewNode", "(II)Z"⟩
abbrev cX8_nodesOf : ByteArray := prog_10_method_60_code
def yX8_nodesOf : MethodName := ⟨RX8, "nodesOf", "(I)I"⟩
abbrev cX8_nodes : ByteArray := prog_10_method_61_code
def yX8_nodes : MethodName := ⟨RX8, "nodes", "(I)I"⟩
abbrev cX8_letterOf : ByteArray := prog_10_method_62_code
def yX8_letterOf : MethodName := ⟨RX8, "letterOf", "(II)I"⟩
abbrev cX8_notAsked : ByteArray := prog_10_method_63_code
def yX8_notAsked : MethodName := ⟨RX8, "notAsked", "(II)I"⟩
abbrev cX8_match : ByteArray := prog_10_method_64_code
def yX8_match : MethodName := ⟨RX8, "match", "(II)I"⟩
abbrev cX8_bound : ByteArray := prog_10_method_65_code
def yX8_bound : MethodName := ⟨RX8, "bound", "(III)I"⟩
abbrev cX8_looked : ByteArray := prog_10_method_66_code
def yX8_looked : MethodName := ⟨RX8, "looked", "(II)I"⟩
abbrev cX8_verbs : ByteArray := prog_10_method_67_code
def yX8_verbs : MethodName := ⟨RX8, "verbs", "(I)I"⟩
abbrev cX8_askedFor : ByteArray := prog_10_method_68_code
def yX8_askedFor : MethodName := ⟨RX8, "askedFor", "(I)I"⟩
abbrev cX8_brought : ByteArray := prog_10_method_69_code
def yX8_brought : MethodName := ⟨RX8, "brought", "(II)I"⟩
abbrev cX8_isBrought : ByteArray := prog_10_method_70_code
def yX8_isBrought : MethodName := ⟨RX8, "isBrought", "(I)Z"⟩
abbrev cX8_never : ByteArray := prog_10_method_71_code
def yX8_never : MethodName := ⟨RX8, "never", "()I"⟩
abbrev cX8_matchedBy : ByteArray := prog_10_method_72_code
def yX8_matchedBy : MethodName := ⟨RX8, "matchedBy", "(I)I"⟩
abbrev cX8_matched : ByteArray := prog_10_method_73_code
def yX8_matched : MethodName := ⟨RX8, "matched", "(I)I"⟩
abbrev cX8_takesLetter : ByteArray := prog_10_method_74_code
def yX8_takesLetter : MethodName := ⟨RX8, "takesLetter", "(II)Z"⟩
abbrev cX8_takes : ByteArray := prog_10_method_75_code
def yX8_takes : MethodName := ⟨RX8, "takes", "(I)Z"⟩
abbrev cX8_witness : ByteArray := prog_10_method_76_code
def yX8_witness : MethodName := ⟨RX8, "witness", "(II)I"⟩
abbrev cX8_doClash : ByteArray := prog_10_method_77_code
def yX8_doClash : MethodName := ⟨RX8, "doClash", "(II)Z"⟩
abbrev cX8_clash : ByteArray := prog_10_method_78_code
def yX8_clash : MethodName := ⟨RX8, "clash", "(I)I"⟩
abbrev cX8_findWays : ByteArray := prog_10_method_79_code
def yX8_findWays : MethodName := ⟨RX8, "findWays", "()V"⟩
abbrev cX8_builds : ByteArray := prog_10_method_80_code
def yX8_builds : MethodName := ⟨RX8, "builds", "(I)V"⟩
abbrev cX8_buildsWay : ByteArray := prog_10_method_81_code
def yX8_buildsWay : MethodName := ⟨RX8, "buildsWay", "(I)V"⟩
abbrev cX8_pathOf : ByteArray := prog_10_method_82_code
def yX8_pathOf : MethodName := ⟨RX8, "pathOf", "(I)I"⟩
abbrev cX8_build : ByteArray := prog_10_method_83_code
def yX8_build : MethodName := ⟨RX8, "build", "(IIIII)I"⟩
abbrev cX8_back : ByteArray := prog_10_method_84_code
def yX8_back : MethodName := ⟨RX8, "back", "(I)I"⟩
abbrev cX8_without : ByteArray := prog_10_method_85_code
def yX8_without : MethodName := ⟨RX8, "without", "(III)I"⟩
abbrev cX8_best : ByteArray := prog_10_method_86_code
def yX8_best : MethodName := ⟨RX8, "best", "(I)I"⟩
abbrev cX8_divisor : ByteArray := prog_10_method_87_code
def yX8_divisor : MethodName := ⟨RX8, "divisor", "(JJ)J"⟩
abbrev cX8_partOf : ByteArray := prog_10_method_88_code
def yX8_partOf : MethodName := ⟨RX8, "partOf", "(JJI)J"⟩
abbrev cX8_lost : ByteArray := prog_10_method_89_code
def yX8_lost : MethodName := ⟨RX8, "lost", "(IIII)J"⟩
abbrev cX8_mean : ByteArray := prog_10_method_90_code
def yX8_mean : MethodName := ⟨RX8, "mean", "(II)J"⟩
abbrev cX8_firstWrong : ByteArray := prog_10_method_91_code
def yX8_firstWrong : MethodName := ⟨RX8, "firstWrong", "(I)I"⟩
abbrev cX8_whatIs : ByteArray := prog_10_method_92_code
def yX8_whatIs : MethodName := ⟨RX8, "whatIs", "(II)I"⟩
abbrev cX8_row : ByteArray := prog_10_method_93_code
def yX8_row : MethodName := ⟨RX8, "row", "(I)I"⟩
abbrev cX8_judge : ByteArray := prog_10_method_94_code
def yX8_judge : MethodName := ⟨RX8, "judge", "(I)I"⟩
abbrev cX8_clear : ByteArray := prog_10_method_95_code
def yX8_clear : MethodName := ⟨RX8, "clear", "()I"⟩
abbrev cX8_draw : ByteArray := prog_10_method_96_code
def yX8_draw : MethodName := ⟨RX8, "draw", "(I)I"⟩
abbrev cX8_lots : ByteArray := prog_10_method_97_code
def yX8_lots : MethodName := ⟨RX8, "lots", "(III)I"⟩
abbrev cX8_setMounts : ByteArray := prog_10_method_98_code
def yX8_setMounts : MethodName := ⟨RX8, "setMounts", "()I"⟩
abbrev cX8_allSegments : ByteArray := prog_10_method_99_code
def yX8_allSegments : MethodName := ⟨RX8, "allSegments", "()I"⟩
abbrev cX8_count : ByteArray := prog_10_method_100_code
def yX8_count : MethodName := ⟨RX8, "count", "(I)I"⟩
def RJ6 : String := "java/lang/Integer"
def TJ6 : u_T := fun k => match k with
  | _ => ("", "", "", false)
def tyJ6 : Nat → FieldType := fun k => match k with
  | _ => .int
abbrev wsJ60 : List Cond := u_ws RJ6 TJ6 0
theorem nmJ6 : ∀ a, a < 0 → ∀ b, b < 0 → a ≠ b → (TJ6 a).2.1 ≠ (TJ6 b).2.1 := by decide +kernel
theorem tyJ6_ok : ∀ k, k < 0 → parseFieldDescriptor (TJ6 k).2.2.1 = some (tyJ6 k) := by decide +kernel
abbrev cJ6_bitCount_0f7a4 : ByteArray := prog_11_method_49_code
def yJ6_bitCount_0f7a4 : MethodName := ⟨RJ6, "bitCount", "(I)I"⟩
def RJ9 : String := "java/lang/Math"
def TJ9 : u_T := fun k => match k with
  | _ => ("", "", "", false)
def tyJ9 : Nat → FieldType := fun k => match k with
  | _ => .int
abbrev wsJ90 : List Cond := u_ws RJ9 TJ9 0
theorem nmJ9 : ∀ a, a < 0 → ∀ b, b < 0 → a ≠ b → (TJ9 a).2.1 ≠ (TJ9 b).2.1 := by decide +kernel
theorem tyJ9_ok : ∀ k, k < 0 → parseFieldDescriptor (TJ9 k).2.2.1 = some (tyJ9 k) := by decide +kernel
abbrev cJ9_max_7cf53 : ByteArray := prog_12_method_65_code
def yJ9_max_7cf53 : MethodName := ⟨RJ9, "max", "(II)I"⟩
def RJ0 : String := "java/lang/String"
def TJ0 : u_T := fun k => match k with
  | _ => ("", "", "", false)
def tyJ0 : Nat → FieldType := fun k => match k with
  | _ => .int
abbrev wsJ00 : List Cond := u_ws RJ0 TJ0 0
theorem nmJ0 : ∀ a, a < 0 → ∀ b, b < 0 → a ≠ b → (TJ0 a).2.1 ≠ (TJ0 b).2.1 := by decide +kernel
theorem tyJ0_ok : ∀ k, k < 0 → parseFieldDescriptor (TJ0 k).2.2.1 = some (tyJ0 k) := by decide +kernel
abbrev cJ0_length_8abf5 : ByteArray := prog_13_method_54_code
def yJ0_length_8abf5 : MethodName := ⟨RJ0, "length", "()I"⟩
abbrev cJ0_charAt_5068e : ByteArray := prog_13_method_56_code
def yJ0_charAt_5068e : MethodName := ⟨RJ0, "charAt", "(I)C"⟩
abbrev cJ0_coder_7d493 : ByteArray := prog_13_method_152_code
def yJ0_coder_7d493 : MethodName := ⟨RJ0, "coder", "()B"⟩
abbrev cJ0_isLatin1_aae02 : ByteArray := prog_13_method_154_code
def yJ0_isLatin1_aae02 : MethodName := ⟨RJ0, "isLatin1", "()Z"⟩
abbrev cJ0_checkIndex_df160 : ByteArray := prog_13_method_155_code
def yJ0_checkIndex_df160 : MethodName := ⟨RJ0, "checkIndex", "(II)V"⟩
def RJ1 : String := "java/lang/StringLatin1"
def TJ1 : u_T := fun k => match k with
  | _ => ("", "", "", false)
def tyJ1 : Nat → FieldType := fun k => match k with
  | _ => .int
abbrev wsJ10 : List Cond := u_ws RJ1 TJ1 0
theorem nmJ1 : ∀ a, a < 0 → ∀ b, b < 0 → a ≠ b → (TJ1 a).2.1 ≠ (TJ1 b).2.1 := by decide +kernel
theorem tyJ1_ok : ∀ k, k < 0 → parseFieldDescriptor (TJ1 k).2.2.1 = some (tyJ1 k) := by decide +kernel
abbrev cJ1_charAt_3b067 : ByteArray := prog_14_method_2_code
def yJ1_charAt_3b067 : MethodName := ⟨RJ1, "charAt", "([BI)C"⟩
def RJ2 : String := "java/lang/StringUTF16"
def TJ2 : u_T := fun k => match k with
  | _ => ("", "", "", false)
def tyJ2 : Nat → FieldType := fun k => match k with
  | _ => .int
abbrev wsJ20 : List Cond := u_ws RJ2 TJ2 0
theorem nmJ2 : ∀ a, a < 0 → ∀ b, b < 0 → a ≠ b → (TJ2 a).2.1 ≠ (TJ2 b).2.1 := by decide +kernel
theorem tyJ2_ok : ∀ k, k < 0 → parseFieldDescriptor (TJ2 k).2.2.1 = some (tyJ2 k) := by decide +kernel
abbrev cJ2_getChar_3b067 : ByteArray := prog_15_method_5_code
def yJ2_getChar_3b067 : MethodName := ⟨RJ2, "getChar", "([BI)C"⟩
abbrev cJ2_length_9d52b : ByteArray := prog_15_method_6_code
def yJ2_length_9d52b : MethodName := ⟨RJ2, "length", "([B)I"⟩
abbrev cJ2_charAt_3b067 : ByteArray := prog_15_method_83_code
def yJ2_charAt_3b067 : MethodName := ⟨RJ2, "charAt", "([BI)C"⟩
abbrev cJ2_checkIndex_2214a : ByteArray := prog_15_method_91_code
def yJ2_checkIndex_2214a : MethodName := ⟨RJ2, "checkIndex", "(I[B)V"⟩
def RJ3 : String := "jdk/internal/util/Preconditions"
def TJ3 : u_T := fun k => match k with
  | _ => ("", "", "", false)
def tyJ3 : Nat → FieldType := fun k => match k with
  | _ => .int
abbrev wsJ30 : List Cond := u_ws RJ3 TJ3 0
theorem nmJ3 : ∀ a, a < 0 → ∀ b, b < 0 → a ≠ b → (TJ3 a).2.1 ≠ (TJ3 b).2.1 := by decide +kernel
theorem tyJ3_ok : ∀ k, k < 0 → parseFieldDescriptor (TJ3 k).2.2.1 = some (tyJ3 k) := by decide +kernel
abbrev cJ3_checkIndex_8e157 : ByteArray := prog_16_method_11_code
def yJ3_checkIndex_8e157 : MethodName := ⟨RJ3, "checkIndex", "(IILjava/util/function/BiFunction;)I"⟩
def RL : String := "RoutesByTriesLaw"
abbrev cL_law : ByteArray := code
def yL_law : MethodName := ⟨RL, "law", "([I)Z"⟩
end
section
/-! THE WORLD AS ONE MEMORY: cells by their number (in the order in which they are made), ints by cell and place, references by cell and place. -/
abbrev vwCl : List vw_C := [(RX0, TX0, 5), (RX1, TX1, 2), (RX2, TX2, 2), (RX4, TX4, 7), (RX5, TX5, 12), (RX6, TX6, 11), (RX7, TX7, 10), (RX8, TX8, 52)]
abbrev Mem := Nat → Nat → Int32
abbrev Ptr := Nat → Nat → Option Nat
/-- how many cells there are, where references lead, what ints are -/
abbrev Wd := Nat × Ptr × Mem
/-- a method: name, bytes, locals, what it returns -/
abbrev MI := MethodName × ByteArray × Nat × Option FieldType
def up2 {α : Type} (f : Nat → Nat → α) (a j : Nat) (v : α) : Nat → Nat → α := fun b i => if b = a ∧ i = j then v else f b i
def tr (ad : Nat → Nat) : Value → Value
  | .ref a => .ref (ad a)
  | v => v
/-- the kind of each cell (a class by its place in vwCl, 8 an array of ints, 9 an array of Routes), and its length if an array -/
def layL : List (Nat × Nat) := [(6, 0), (0, 0), (8, 3), (8, 3), (9, 10), (3, 0), (8, 4), (3, 0), (8, 4), (3, 0), (8, 4), (3, 0), (8, 4), (3, 0), (8, 4), (3, 0), (8, 4), (3, 0), (8, 4), (3, 0), (8, 4), (3, 0), (8, 4), (3, 0), (8, 4), (3, 0), (8, 4), (0, 0), (8, 3), (8, 3), (9, 10), (3, 0), (8, 4), (3, 0), (8, 4), (3, 0), (8, 4), (3, 0), (8, 4), (3, 0), (8, 4), (3, 0), (8, 4), (3, 0), (8, 4), (3, 0), (8, 4), (3, 0), (8, 4), (3, 0), (8, 4), (3, 0), (8, 4), (0, 0), (8, 3), (8, 3), (9, 10), (3, 0), (8, 4), (3, 0), (8, 4), (3, 0), (8, 4), (3, 0), (8, 4), (3, 0), (8, 4), (3, 0), (8, 4), (3, 0), (8, 4), (3, 0), (8, 4), (3, 0), (8, 4), (3, 0), (8, 4), (3, 0), (8, 4), (5, 0), (4, 0), (8, 301), (8, 43), (8, 43), (8, 43), (8, 43), (8, 43), (8, 10), (8, 4), (8, 3), (8, 3), (8, 3), (1, 0), (8, 4), (8, 3), (8, 3), (2, 0), (8, 96), (2, 0), (8, 30), (1, 0), (8, 4), (8, 4), (8, 7), (7, 0), (8, 7), (8, 3), (8, 3), (8, 10), (8, 10), (8, 10), (8, 10), (8, 10), (8, 40), (8, 4), (8, 16), (8, 16), (8, 16), (8, 16), (8, 16), (8, 16), (8, 16), (8, 16), (8, 16), (8, 6), (8, 96), (8, 33), (8, 33), (8, 99), (8, 33), (8, 33), (8, 96), (8, 200), (8, 4), (8, 16), (8, 3), (8, 6), (8, 30)]
def lay (a : Nat) : Nat × Nat := layL.getD a (10, 0)
def nSl (ci : Nat) : Nat := [5, 2, 2, 7, 12, 11, 10, 52].getD ci 0
def pL : List (List Bool) := [[true, true, true, true, false], [true, false], [true, false], [true, false, false, false, false, false, false], [true, true, true, true, true, true, true, true, true, true, true, false], [true, true, true, true, false, false, false, false, false, false, false], [true, true, true, true, true, true, true, true, true, false], [true, true, true, true, true, true, true, true, true, false, true, false, true, true, true, true, true, true, true, true, true, false, false, false, false, true, true, true, true, true, true, true, true, false, false, false, false, false, true, false, false, false, false, true, true, true, false, false, true, true, false, false]]
def isP (ci k : Nat) : Bool := (pL.getD ci []).getD k false
def szc (a : Nat) : Nat := if (lay a).1 = 8 ∨ (lay a).1 = 9 then (lay a).2 else nSl (lay a).1
def SZ : Nat → Nat
  | 0 => 0
  | n + 1 => SZ n + szc n
def slt (ad : Nat → Nat) (P : Ptr) (D : Mem) (ci a k : Nat) : Value := if isP ci k = true then va_rf ((P a k).map ad) else .int (D a k)
def cel (ad : Nat → Nat) (cI cR : ClassId) (P : Ptr) (D : Mem) (a : Nat) : va_E :=
  if (lay a).1 = 8 then .inl (cI, (lay a).2, .inl (D a))
  else if (lay a).1 = 9 then .inl (cR, (lay a).2, .inr (.inr (.inr (.inr (fun j => (P a j).map ad)))))
  else .inr ((lay a).1, (List.range (nSl (lay a).1)).map (slt ad P D (lay a).1 a))
def WS (ad : Nat → Nat) (cI cR : ClassId) (σ : Wd) : va_W := (List.range σ.1).map (fun a => (ad a, cel ad cI cR σ.2.1 σ.2.2 a))
/-- the script, told in the memory -/
def agr (xs : Nat → Int32) (L : Nat) (σ : Wd) : Prop := σ.2.2 2003 = xs ∧ σ.2.2 2004 0 = nI L ∧ L < 2147483648 ∧ ∀ b i c, σ.2.1 b i = some c → c < σ.1
/-- arrays that nobody writes -/
def sarr (xs : Nat → Int32) (L : Nat) (a : Nat) : Option (Nat × (Nat → Int32)) :=
  if a = 2000 then some (5, fun j => [0, 1, 5, 21, 85].getD j 0)
  else if a = 2001 then some (32, fun j => [0, 1, 2, 3, 4, 5, 6, 6, 0, 1, 3, 2, 4, 5, 6, 6, 5, 0, 1, 2, 3, 4, 5, 6, 4, 0, 1, 3, 2, 4, 5, 6].getD j 0)
  else if a = 2002 then some (4, fun j => [3, 2, 4, 15].getD j 0)
  else if a = 2003 then some (L, xs)
  else none
def lenS : List Nat := [6, 7, 7, 6]
def bytS : List (List Int32) := [[69, 76, 65, 67, 82, 77], [77, 69, 76, 67, 65, 82, 77], [82, 69, 76, 65, 67, 82, 77], [69, 76, 67, 65, 82, 77]]
def txS : List String := ["ELACRM", "MELCARM", "\x52ELACRM", "ELCARM"]
def isNest : Cond → Bool
  | .fieldLinkNest .. => true
  | .methodLinkNest .. => true
  | _ => false
abbrev zF : String := "FIRST_OF_SIZE"
abbrev zB : String := "Ljava/util/function/BiFunction;"
/-- what holds of the tables and of what nobody writes -/
def SK (ad : Nat → Nat) (xs : Nat → Int32) (L : Nat) (A : Nat → Prop) (U : State) (H : Heap) : Prop :=
  (∀ a n f, sarr xs L a = some (n, f) → va_T .int (ad a) n (fun j => .int (f j)) A U H) ∧
  (va_Z RX1 zF "[I" (.ref (ad 2000)) A U H ∧ va_Z RX8 "ORDERS" "[I" (.ref (ad 2001)) A U H ∧ va_Z RX8 "SERVED" "[I" (.ref (ad 2002)) A U H ∧ va_Z "java/lang/String" "COMPACT_STRINGS" "Z" (.int 1) A U H) ∧
  (va_Z "jdk/internal/util/Preconditions" "SIOOBE_FORMATTER" zB .null A U H ∨ va_Z "jdk/internal/util/Preconditions" "SIOOBE_FORMATTER" zB (.ref (ad 2030)) A U H) ∧
  vk_S 4 lenS bytS (fun i => ad (2010 + i)) (fun i => ad (2020 + i)) A U H ∧
  (∀ i, i < 4 → vk_R RX6 (99 + 2 * i) (txS.getD i "") (ad (2010 + i)) U) ∧
  (∀ w ∈ lw_tbl, isNest w = true → va_Nw w U) ∧ va_AO RX4 U
theorem isNest_warm {w : Cond} (h : isNest w = true) {s U : State} (hW : s.WarmedH U.vm) (hn : va_Nw w s) : va_Nw w U := by
  cases w <;> first | exact hn.warmF hW | exact hn.warmM hW | cases h
theorem isNest_tab {w : Cond} (h : isNest w = true) : w.onTables = true := by
  cases w <;> first | rfl | cases h
theorem SK.at {ad : Nat → Nat} {xs : Nat → Int32} {L : Nat} {A B : Nat → Prop} {s U : State} {H : Heap} {locs : List Loc} (h : SK ad xs L A s s.heap) (hW : s.WarmedH U.vm) (hU : U.heap = H) (hS : va_S A s.heap H locs) (hB : ∀ q, B q → A q) : SK ad xs L B U U.heap := by
  obtain ⟨h1, ⟨h2, h3, h4, h5⟩, h6, h7, h8, h9, h10⟩ := h
  have hv := hW.alike
  rw [hU]
  have kz : ∀ {C n d : String} {v : Value}, va_Z C n d v A s s.heap → va_Z C n d v B U H := fun q => ((q.kept hS.2.1).moved hv).narrow hB
  refine ⟨fun a n f e => (((h1 a n f e).kept hS.2.1).moved hv).narrow hB, ⟨kz h2, kz h3, kz h4, kz h5⟩, ?_, ((h7.kept hS.2.1).moved hv).narrow hB, fun i hi => (h8 i hi).warm hW, fun w hw hn => isNest_warm hn hW (h9 w hw hn), h10.moved hv⟩
  rcases h6 with h | h
  · exact Or.inl (kz h)
  · exact Or.inr (kz h)
theorem SK.blind {ad : Nat → Nat} {xs : Nat → Int32} {L : Nat} {A : Nat → Prop} {U : State} {g : JFrame} {mk : MethodId} {a : Array Value} (h : SK ad xs L A U U.heap) : SK ad xs L A (U.calling g mk a) (U.calling g mk a).heap := by
  obtain ⟨h1, ⟨h2, h3, h4, h5⟩, h6, h7, h8, h9, h10⟩ := h
  have hv : U.vm.Alike (U.calling g mk a).vm := Vm.Alike.refl U.vm
  have kz : ∀ {C n d : String} {v : Value}, va_Z C n d v A U U.heap → va_Z C n d v A (U.calling g mk a) (U.calling g mk a).heap := fun q => va_Z.moved hv q
  refine ⟨fun b n f e => va_T.moved hv (h1 b n f e), ⟨kz h2, kz h3, kz h4, kz h5⟩, ?_, vk_S.moved hv h7, fun i hi => vk_R.same (u := U) rfl (h8 i hi), fun w hw hn => va_Nw.same (isNest_tab hn) (u := U) rfl (h9 w hw hn), h10.moved hv⟩
  rcases h6 with h | h
  · exact Or.inl (kz h)
  · exact Or.inr (kz h)
theorem sarr_ge {xs : Nat → Int32} {L a n : Nat} {f : Nat → Int32} (h : sarr xs L a = some (n, f)) : 138 ≤ a := by
  unfold sarr at h
  split at h
  · omega
  · split at h
    · omega
    · split at h
      · omega
      · split at h
        · omega
        · cases h
theorem SK.ad {ad ad' : Nat → Nat} {xs : Nat → Int32} {L : Nat} {A : Nat → Prop} {U : State} {H : Heap} (h : SK ad xs L A U H) (he : ∀ a, 138 ≤ a → ad' a = ad a) : SK ad' xs L A U H := by
  obtain ⟨h1, ⟨h2, h3, h4, h5⟩, h6, h7, h8, h9, h10⟩ := h
  have e1 : (fun i => ad' (2010 + i)) = (fun i => ad (2010 + i)) := funext fun i => he _ (by omega)
  have e2 : (fun i => ad' (2020 + i)) = (fun i => ad (2020 + i)) := funext fun i => he _ (by omega)
  refine ⟨fun a n f e => by rw [he a (sarr_ge e)]; exact h1 a n f e, ⟨by rw [he 2000 (by omega)]; exact h2, by rw [he 2001 (by omega)]; exact h3, by rw [he 2002 (by omega)]; exact h4, h5⟩, by rw [he 2030 (by omega)]; exact h6, by rw [e1, e2]; exact h7, fun i hi => by rw [he (2010 + i) (by omega)]; exact h8 i hi, h9, h10⟩
/-! the words that every method knows -/
def big : List Cond := lw_tbl.filter goodWord
theorem big_in {w : Cond} (h : w ∈ lw_tbl) (hg : goodWord w = true) : w ∈ big := List.mem_filter.mpr ⟨h, hg⟩
def ws_ (j : MI) : List Cond := .code j.1 j.2.1 j.2.2.1 j.2.2.2 :: big
/-! lists of cells -/
theorem WS_len (ad : Nat → Nat) (cI cR : ClassId) (σ : Wd) : (WS ad cI cR σ).length = σ.1 := by simp [WS]
theorem WS_at {ad : Nat → Nat} {cI cR : ClassId} {σ : Wd} {a : Nat} (h : a < σ.1) : (WS ad cI cR σ)[a]? = some (ad a, cel ad cI cR σ.2.1 σ.2.2 a) := by
  simp [WS, List.getElem?_map, List.getElem?_range h]
theorem WS_set {ad : Nat → Nat} {cI cR : ClassId} {σ σ' : Wd} {a : Nat} {e : va_E} (hn : σ'.1 = σ.1) (he : e = cel ad cI cR σ'.2.1 σ'.2.2 a) (ho : ∀ b, b ≠ a → cel ad cI cR σ'.2.1 σ'.2.2 b = cel ad cI cR σ.2.1 σ.2.2 b) : (WS ad cI cR σ).set a (ad a, e) = WS ad cI cR σ' := by
  subst he
  apply List.ext_getElem?
  intro i
  by_cases hi : i = a
  · subst hi
    by_cases h : i < σ.1
    · rw [List.getElem?_set_self (by rw [WS_len]; exact h), WS_at (by rw [hn]; exact h)]
    · rw [List.getElem?_eq_none (by rw [List.length_set, WS_len]; omega), List.getElem?_eq_none (by rw [WS_len]; omega)]
  · rw [List.getElem?_set_ne (Ne.symm hi)]
    by_cases h : i < σ.1
    · rw [WS_at h, WS_at (by rw [hn]; exact h), ho i hi]
    · rw [List.getElem?_eq_none (by rw [WS_len]; omega), List.getElem?_eq_none (by rw [WS_len]; omega)]
theorem WS_push {ad ad' : Nat → Nat} {cI cR : ClassId} {σ σ' : Wd} {q : Nat} {e : va_E} (hn : σ'.1 = σ.1 + 1) (hq : ad' σ.1 = q) (he : e = cel ad' cI cR σ'.2.1 σ'.2.2 σ.1) (ho : ∀ b, b < σ.1 → ad' b = ad b ∧ cel ad' cI cR σ'.2.1 σ'.2.2 b = cel ad cI cR σ.2.1 σ.2.2 b) : WS ad cI cR σ ++ [(q, e)] = WS ad' cI cR σ' := by
  subst he; subst hq
  unfold WS
  rw [hn, List.range_succ, List.map_append, List.map_singleton]
  congr 1
  apply List.map_congr_left
  intro b hb
  rw [(ho b (List.mem_range.mp hb)).1, (ho b (List.mem_range.mp hb)).2]
/-! locals: by place -/
def asc (ad : Nat → Nat) : Nat → List (Option Value) → List (Nat × Value)
  | _, [] => []
  | k, none :: l => asc ad (k + 1) l
  | k, some v :: l => (k, tr ad v) :: asc ad (k + 1) l
theorem asc_mem {ad : Nat → Nat} {ls : List (Option Value)} : ∀ {k i : Nat} {v : Value}, ls[i]? = some (some v) → (k + i, tr ad v) ∈ asc ad k ls := by
  induction ls with
  | nil => intro k i v h; simp at h
  | cons x l ih =>
    intro k i v h
    cases i with
    | zero =>
      simp at h
      subst h
      exact List.mem_cons_self
    | succ i =>
      have h' : l[i]? = some (some v) := by simpa using h
      have := ih (k := k + 1) h'
      rw [show k + 1 + i = k + (i + 1) by omega] at this
      cases x with
      | none => exact this
      | some w => exact List.mem_cons_of_mem _ this
theorem asc_inv {ad : Nat → Nat} {ls : List (Option Value)} : ∀ {k : Nat} {q : Nat × Value}, q ∈ asc ad k ls → ∃ (i : Nat) (v : Value), q = (k + i, tr ad v) ∧ ls[i]? = some (some v) := by
  induction ls with
  | nil => intro k q h; cases h
  | cons x l ih =>
    intro k q h
    cases x with
    | none =>
      obtain ⟨i, v, h1, h2⟩ := ih (k := k + 1) h
      exact ⟨i + 1, v, by rw [h1, show k + 1 + i = k + (i + 1) by omega], by simpa using h2⟩
    | some w =>
      rcases List.mem_cons.mp h with h | h
      · exact ⟨0, w, h, by simp⟩
      · obtain ⟨i, v, h1, h2⟩ := ih (k := k + 1) h
        exact ⟨i + 1, v, by rw [h1, show k + 1 + i = k + (i + 1) by omega], by simpa using h2⟩
theorem tr_cat (ad : Nat → Nat) (v : Value) : (tr ad v).category = v.category := by cases v <;> rfl
theorem lh_at {ad : Nat → Nat} {la : Array Slot} {nL : Nat} {ls : List (Option Value)} (h : lv_has la nL (asc ad 0 ls)) {i : Nat} {v : Value} (hi : ls[i]? = some (some v)) : la[i]? = some (.val (tr ad v)) := by
  have := h.2.2 _ (asc_mem (ad := ad) (k := 0) hi)
  simpa using this
theorem lh_mem {la : Array Slot} {nL : Nat} {l l' : List (Nat × Value)} (h : lv_has la nL l) (hs : ∀ q ∈ l', q ∈ l) : lv_has la nL l' := ⟨h.1, h.2.1, fun q hq => h.2.2 q (hs q hq)⟩
/-- nothing of two places stands just ahead of i -/
def ok1 (ls : List (Option Value)) : Nat → Bool
  | 0 => true
  | i + 1 => match ls[i]? with
    | some (some v) => v.category == 1
    | _ => true
theorem lh_set {ad : Nat → Nat} {la : Array Slot} {nL i : Nat} {v : Value} {ls : List (Option Value)} (hv : ok1 ls i = true) (h : lv_has la nL ((i, tr ad v) :: (asc ad 0 ls).filter (fun q => !(q.1 == i) && !(q.1 + 1 == i && q.2.category == 2)))) : lv_has la nL (asc ad 0 (ls.set i (some v))) := by
  refine lh_mem h fun q hq => ?_
  obtain ⟨j, w, rfl, h2⟩ := asc_inv hq
  rw [List.getElem?_set] at h2
  by_cases hj : i = j
  · subst hj
    rw [if_pos rfl] at h2
    split at h2
    · have : w = v := by injection h2 with h2; injection h2 with h2; exact h2.symm
      subst this
      rw [show 0 + i = i by omega]
      exact List.mem_cons_self
    · cases h2
  · rw [if_neg hj] at h2
    refine List.mem_cons_of_mem _ (List.mem_filter.mpr ⟨asc_mem h2, ?_⟩)
    have e1 : ((0 + j) == i) = false := by simp; omega
    rw [e1]
    by_cases e2 : 0 + j + 1 = i
    · subst e2
      have e3 : w.category = 1 := by
        unfold ok1 at hv
        rw [show 0 + j = j by omega] at hv
        simp only [h2] at hv
        simpa using hv
      simp [tr_cat, e3]
    · simp
      exact Or.inl (by omega)
theorem lh_set2 {ad : Nat → Nat} {la : Array Slot} {nL i : Nat} {v : Value} {ls : List (Option Value)} (hv : ok1 ls i = true) (h : lv_has la nL ((i, tr ad v) :: (asc ad 0 ls).filter (fun q => !(q.1 == i) && (!(q.1 == i + 1) && !(q.1 + 1 == i && q.2.category == 2))))) : lv_has la nL (asc ad 0 ((ls.set i (some v)).set (i + 1) none)) := by
  refine lh_mem h fun q hq => ?_
  obtain ⟨j, w, rfl, h2⟩ := asc_inv hq
  rw [List.getElem?_set] at h2
  by_cases hj1 : i + 1 = j
  · rw [if_pos hj1] at h2
    split at h2 <;> cases h2
  · rw [if_neg hj1, List.getElem?_set] at h2
    by_cases hj : i = j
    · subst hj
      rw [if_pos rfl] at h2
      split at h2
      · have : w = v := by injection h2 with h2; injection h2 with h2; exact h2.symm
        subst this
        rw [show 0 + i = i by omega]
        exact List.mem_cons_self
      · cases h2
    · rw [if_neg hj] at h2
      refine List.mem_cons_of_mem _ (List.mem_filter.mpr ⟨asc_mem h2, ?_⟩)
      have e1 : ((0 + j) == i) = false := by simp; omega
      have e4 : ((0 + j) == i + 1) = false := by simp; omega
      rw [e1, e4]
      by_cases e2 : 0 + j + 1 = i
      · subst e2
        have e3 : w.category = 1 := by
          unfold ok1 at hv
          rw [show 0 + j = j by omega] at hv
          simp only [h2] at hv
          simpa using hv
        simp [tr_cat, e3]
      · simp
        exact Or.inl (by omega)
/-- the locals at a method's start -/
def ent : List Value → List (Option Value)
  | [] => []
  | v :: vs => if v.category = 2 then some v :: none :: ent vs else some v :: ent vs
theorem ent_args {ad : Nat → Nat} (vs : List Value) : ∀ k, asc ad k (ent vs) = lv_args k (vs.map (tr ad)) := by
  induction vs with
  | nil => intro k; rfl
  | cons v vs ih =>
    intro k
    by_cases h : v.category = 2
    · simp only [ent, h, if_true, List.map_cons, lv_args, tr_cat, asc, ih]
    · simp only [ent, h, if_false, List.map_cons, lv_args, tr_cat, asc, ih]
theorem asc_none {ad : Nat → Nat} (l : List (Option Value)) (n : Nat) : ∀ k, asc ad k (l ++ List.replicate n none) = asc ad k l := by
  induction l with
  | nil =>
    intro k
    induction n generalizing k with
    | zero => rfl
    | succ n ih => simpa [List.replicate_succ, asc] using ih (k + 1)
  | cons x l ih =>
    intro k
    cases x with
    | none => exact ih (k + 1)
    | some v =>
      exact congrArg (fun z => (k, tr ad v) :: z) (ih (k + 1))
end
section
/-! THE JUDGEMENT: X d k j pc ls st σ Q: method j, at pc, with locals ls and operands st over the memory σ, comes to its return with Q; calls at most d deep; at the end there are k cells. -/
def Cx (p : Program) (s : State) (m : MethodId) (args : Array Value) (meth : Method) (c : Code) (j : MI) : Prop :=
  p.tables.exec = Jvm.exec ∧ c.code = j.2.1 ∧ meth.sig.returnType = j.2.2.2 ∧ c.maxLocals = j.2.2.1 ∧ s.vm.findClass j.1.cls = some m.cls ∧ (∀ w ∈ big, w.before args s = true) ∧ meth.locks = false ∧ (j.1.name = "<init>" → meth.name = "<init>")
abbrev CC := va_G × ClassId × ClassId × (Nat → Int32) × Nat
abbrev tys_ (q : CC) : List (ClassId × FieldType) := [(q.2.1, .int), (q.2.2.1, .object RX4)]
abbrev ws0 (q : CC) (ad : Nat → Nat) (σ : Wd) : va_W := WS ad q.2.1 q.2.2.1 σ
def Sx (q : CC) (ad : Nat → Nat) (A : Nat → Prop) (s : State) (σ : Wd) (H : Heap) (locs : List Loc) : Prop :=
  va_K q.1 vwCl (tys_ q) s ∧ SK ad q.2.2.2.1 q.2.2.2.2 A s s.heap ∧ (∀ a : Nat, s.heap.size ≤ a → A a) ∧ va_P q.1 vwCl (ws0 q ad σ) H ∧ va_D A (ws0 q ad σ) ∧ va_S A s.heap H locs ∧ agr q.2.2.2.1 q.2.2.2.2 σ
def RetAt (j : MI) (pc : Nat) : List Value → Prop
  | [] => j.2.2.2 = none ∧ decode j.2.1 pc = .ok (.return_, 1)
  | [.int v] => (∃ ty, j.2.2.2 = some ty ∧ narrow ty (.int v) = .int v) ∧ decode j.2.1 pc = .ok (.ireturn, 1)
  | [.long _] => j.2.2.2 = some .long ∧ decode j.2.1 pc = .ok (.lreturn, 1)
  | [.ref _] => (∃ n, j.2.2.2 = some (.object n)) ∧ decode j.2.1 pc = .ok (.areturn, 1)
  | _ => False
def Bd (n0 : Nat) (ad0 : Nat → Nat) (k : Nat) (R : Room) (cells slots : Nat) (σ : Wd) (ad : Nat → Nat) : Prop :=
  n0 ≤ σ.1 ∧ σ.1 ≤ k ∧ k ≤ 138 ∧ cells + (k - σ.1) ≤ R.cells ∧ slots + (SZ k - SZ σ.1) ≤ R.slots ∧ ∀ a, ¬ (n0 ≤ a ∧ a < k) → ad a = ad0 a
def Fi_ (p : Program) (l : Launch) (e : Env) (R : Room) (s : State) (m : MethodId) (args : Array Value) (below : List Frame) (meth : Method) (c : Code) (Qm : State → Prop) (q : CC) (A : Nat → Prop) (n0 : Nat) (ad0 : Nat → Nat) (k : Nat) (j : MI) (Q : List Value → Wd → Prop) : Prop :=
  ∀ (vs : List Value) (σ : Wd) (H : Heap) (locs : List Loc) (la : Array Slot) (ad : Nat → Nat) (cells slots pc : Nat), Q vs σ → σ.1 = k → RetAt j pc vs → Sx q ad A s σ H locs → Bd n0 ad0 k R cells slots σ ad → W p l e R s m args below meth c H locs cells slots Qm (F0 m pc la (vs.map (tr ad)))
def X (d k : Nat) (j : MI) (pc : Nat) (ls : List (Option Value)) (st : List Value) (σ : Wd) (Q : List Value → Wd → Prop) : Prop :=
  ∀ (p : Program) (l : Launch) (e : Env) (R : Room) (s : State) (m : MethodId) (args : Array Value) (below : List Frame) (meth : Method) (c : Code) (cells slots : Nat) (H : Heap) (locs : List Loc) (la : Array Slot) (q : CC) (ad : Nat → Nat) (A : Nat → Prop) (n0 : Nat) (ad0 : Nat → Nat) (Qm : State → Prop),
    Cx p s m args meth c j → (d ≤ R.frames ∧ 40 * d ≤ R.locals) → Sx q ad A s σ H locs → lv_has la j.2.2.1 (asc ad 0 ls) → Bd n0 ad0 k R cells slots σ ad → Fi_ p l e R s m args below meth c Qm q A n0 ad0 k j Q →
    W p l e R s m args below meth c H locs cells slots Qm (F0 m pc la (st.map (tr ad)))
def QE (q : CC) (A : Nat → Prop) (ad : Nat → Nat) (n0 k : Nat) (Q : List Value → Wd → Prop) : Array Value → State → Outcome → State → Prop := fun _ st oc t =>
  (∃ (vs : List Value) (σ : Wd) (ad' : Nat → Nat), oc = .returned (vs.map (tr ad')).head? ∧ vs.length ≤ 1 ∧ Q vs σ ∧ σ.1 = k ∧ (∀ a, ¬ (n0 ≤ a ∧ a < k) → ad' a = ad a) ∧ va_P q.1 vwCl (ws0 q ad' σ) t.heap ∧ va_D A (ws0 q ad' σ) ∧ agr q.2.2.2.1 q.2.2.2.2 σ) ∧ va_F A st t
def PE (q : CC) (ad : Nat → Nat) (σ : Wd) (sz : Nat) : State → Prop := fun U =>
  U.heap.size = sz ∧ va_P q.1 vwCl (ws0 q ad σ) U.heap ∧ va_K q.1 vwCl (tys_ q) U ∧ va_D (fun _ => True) (ws0 q ad σ) ∧ SK ad q.2.2.2.1 q.2.2.2.2 (va_A (ws0 q ad σ) sz) U U.heap ∧ agr q.2.2.2.1 q.2.2.2.2 σ
/-- the contract of a method: from σ with these arguments it returns with Q -/
def E (d k : Nat) (j : MI) (vs : List Value) (σ : Wd) (Q : List Value → Wd → Prop) : Prop :=
  ∀ (l : Launch) (q : CC) (ad : Nat → Nat) (sz : Nat), Met l j.1 (ws_ j) ({ frames := d, cells := k - σ.1, slots := SZ k - SZ σ.1, locals := 40 * d }) (va_Pc (vs.map (tr ad)) (PE q ad σ sz)) (QE q (va_A (ws0 q ad σ) sz) ad σ.1 k Q) (k - σ.1) (SZ k - SZ σ.1) (va_A (ws0 q ad σ) sz)
theorem SZ_mono {a b : Nat} (h : a ≤ b) : SZ a ≤ SZ b := by
  induction b with
  | zero => rw [Nat.le_zero.mp h]; exact Nat.le_refl _
  | succ b ih =>
    by_cases hb : a ≤ b
    · exact Nat.le_trans (ih hb) (Nat.le_add_right _ _)
    · rw [show a = b + 1 by omega]; exact Nat.le_refl _
set_option maxHeartbeats 1000000 in
theorem E.of {d k : Nat} {j : MI} {vs : List Value} {σ : Wd} {Q : List Value → Wd → Prop} {ls : List (Option Value)} (hpl : plainName j.1.cls = true) (hfit : (lg_sl vs).length ≤ j.2.2.1) (hσ : σ.1 ≤ k) (hk : k ≤ 138) {n : Nat} (hls : ls = ent vs ++ List.replicate n none) (hX : X d k j 0 ls [] σ Q) : E d k j vs σ Q := by
  intro l q ad sz
  refine Met.ofW (cc := j.2.1) (maxL := j.2.2.1) (ret := j.2.2.2) hpl rfl ?_
  intro p e s m args below meth c s₁ B hml hv
  obtain ⟨rfl, hsz, hP, hK, hD, hSK, hag⟩ := hv
  subst hsz
  have hts := atoms_spec (ws := ws_ j) B.pre
  rw [lg_entry_eq]
  have hcat : (lg_sl (vs.map (tr ad))).length = (lg_sl vs).length := by
    clear hX hfit hls hts B hP hSK
    induction vs with
    | nil => rfl
    | cons v vs ih =>
      simp only [lg_sl, List.map_cons, List.flatMap_cons, List.length_append, tr_cat] at ih ⊢
      rw [ih]
      split <;> rfl
  have hl := lv_entry (vs.map (tr ad)) (n := j.2.2.1) (by rw [hcat]; exact hfit)
  rw [← ent_args, ← asc_none (ad := ad) (ent vs) n 0, ← hls] at hl
  refine hX p l e _ s m _ below meth c 0 0 s.heap [] _ q ad (va_A (ws0 q ad σ) s.heap.size) σ.1 ad _ ⟨B.exec, B.bytes, B.returns, hml, findClass_of_methodNamed B.named, fun w h => hts w (List.mem_cons_of_mem _ h), B.notSynchronized, fun h => (name_of_methodNamed B.named B.method).1.trans h⟩ ⟨Nat.le_refl _, Nat.le_refl _⟩ ⟨hK, hSK, fun a h => Or.inr h, hP, hD.self, va_S.rf, hag⟩ hl ⟨Nat.le_refl _, hσ, hk, by show 0 + (k - σ.1) ≤ k - σ.1; omega, by show 0 + (SZ k - SZ σ.1) ≤ SZ k - SZ σ.1; omega, fun a _ => rfl⟩ ?_
  intro vs' σ' H' locs' la' ad' cells' slots' pc' hQ hn hR ⟨_, _, _, hP', hD', hS', hag'⟩ ⟨_, _, _, hc1, hc2, had⟩
  refine W.widen (k := k - σ.1) (n := SZ k - SZ σ.1) (by have : cells' + (k - σ'.1) ≤ k - σ.1 := hc1; omega) (by have : slots' + (SZ k - SZ σ'.1) ≤ SZ k - SZ σ.1 := hc2; omega) ?_
  have hfin : ∀ t : State, t.heap = H' → vs'.length ≤ 1 → QE q (va_A (ws0 q ad σ) s.heap.size) ad σ.1 k Q (vs.map (tr ad)).toArray s (.returned (vs'.map (tr ad')).head?) t := by
    intro t ht hlen
    exact ⟨⟨vs', σ', ad', rfl, hlen, hQ, hn, had, by rw [ht]; exact hP', hD', hag'⟩, hS'.F ht⟩
  match vs', hR, hfin with
  | [], hR, hfin => exact W.vret B.exec B.bytes (B.returns.trans hR.1) (fun t ht _ => hfin t ht (by simp)) hS'.2.2 hR.2 B.notSynchronized
  | [.int v], ⟨⟨ty, h1, h2⟩, h3⟩, hfin => exact W.zret B.exec B.bytes (B.returns.trans h1) h2 (fun t ht _ => hfin t ht (by simp)) hS'.2.2 h3 B.notSynchronized
  | [.long v], ⟨h1, h3⟩, hfin => exact W.lret B.exec B.bytes (B.returns.trans h1) (fun t ht _ => hfin t ht (by simp)) hS'.2.2 h3 B.notSynchronized
  | [.ref a], ⟨⟨nm, h1⟩, h3⟩, hfin => exact W.aret B.exec B.bytes (B.returns.trans h1) (Or.inl ⟨nm, rfl⟩) (Or.inr ⟨_, rfl⟩) (fun t ht _ => hfin t ht (by simp)) hS'.2.2 h3 B.notSynchronized
/-! ## returns -/
section ROWS
variable {d k pc nx : Nat} {j : MI} {ls : List (Option Value)} {st : List Value} {σ : Wd} {Q : List Value → Wd → Prop}
theorem X_ret {vs : List Value} (hR : RetAt j pc vs) (hk : σ.1 = k) (hQ : Q vs σ) : X d k j pc ls vs σ Q := by
  intro p l e R s m args below meth c cells slots H locs la q ad A n0 ad0 Qm hC hR' hS hl hB hF
  exact hF vs σ H locs la ad cells slots pc hQ hk hR hS hB
theorem X.mono {Q' : List Value → Wd → Prop} (hX : X d k j pc ls st σ Q) (h : ∀ vs σ', Q vs σ' → Q' vs σ') : X d k j pc ls st σ Q' := by
  intro p l e R s m args below meth c cells slots H locs la q ad A n0 ad0 Qm hC hR hS hl hB hF
  exact hX p l e R s m args below meth c cells slots H locs la q ad A n0 ad0 Qm hC hR hS hl hB (fun vs σ' H' locs' la' ad' c' s' pc' hQ => hF vs σ' H' locs' la' ad' c' s' pc' (h _ _ hQ))
theorem X.deep {d' : Nat} (hX : X d k j pc ls st σ Q) (h : d ≤ d') : X d' k j pc ls st σ Q := by
  intro p l e R s m args below meth c cells slots H locs la q ad A n0 ad0 Qm hC hR hS hl hB hF
  exact hX p l e R s m args below meth c cells slots H locs la q ad A n0 ad0 Qm hC ⟨by omega, by omega⟩ hS hl hB hF
/-- a local is forgotten -/
theorem X_forget {ls' : List (Option Value)} (hs : ∀ (i : Nat) (v : Value), ls'[i]? = some (some v) → ls[i]? = some (some v)) (hX : X d k j pc ls' st σ Q) : X d k j pc ls st σ Q := by
  intro p l e R s m args below meth c cells slots H locs la q ad A n0 ad0 Qm hC hR hS hl hB hF
  refine hX p l e R s m args below meth c cells slots H locs la q ad A n0 ad0 Qm hC hR hS (lh_mem hl fun z hz => ?_) hB hF
  obtain ⟨i, v, rfl, h2⟩ := asc_inv hz
  exact asc_mem (hs i v h2)

theorem X_iconst {n : Int} {v : Int32} (hd : decode j.2.1 pc = .ok (.iconst n, 1)) (hn : pc + 1 = nx) (hv : Int32.ofInt n = v) (kk : X d k j nx ls (.int v :: st) σ Q) : X d k j pc ls (st) σ Q := by
  subst hn
  intro p l e R s m args below meth c cells slots H locs la q ad A n0 ad0 Qm hC hR hS hl hB hF
  exact lv_iconst hC.1 hC.2.1 hd hv (kk p l e R s m args below meth c cells slots H locs la q ad A n0 ad0 Qm hC hR hS hl hB hF)
theorem X_bipush {n : Int} {v : Int32} (hd : decode j.2.1 pc = .ok (.bipush n, 2)) (hn : pc + 2 = nx) (hv : (Int8.ofInt n).toInt32 = v) (kk : X d k j nx ls (.int v :: st) σ Q) : X d k j pc ls (st) σ Q := by
  subst hn
  intro p l e R s m args below meth c cells slots H locs la q ad A n0 ad0 Qm hC hR hS hl hB hF
  exact lv_bipush hC.1 hC.2.1 hd hv (kk p l e R s m args below meth c cells slots H locs la q ad A n0 ad0 Qm hC hR hS hl hB hF)
theorem X_sipush {n : Int} {v : Int32} (hd : decode j.2.1 pc = .ok (.sipush n, 3)) (hn : pc + 3 = nx) (hv : (Int16.ofInt n).toInt32 = v) (kk : X d k j nx ls (.int v :: st) σ Q) : X d k j pc ls (st) σ Q := by
  subst hn
  intro p l e R s m args below meth c cells slots H locs la q ad A n0 ad0 Qm hC hR hS hl hB hF
  exact lv_sipush hC.1 hC.2.1 hd hv (kk p l e R s m args below meth c cells slots H locs la q ad A n0 ad0 Qm hC hR hS hl hB hF)
theorem X_lconst {n : Fin 2} {v : Int64} (hd : decode j.2.1 pc = .ok (.lconst n, 1)) (hn : pc + 1 = nx) (hv : Int64.ofNat (n : Nat) = v) (kk : X d k j nx ls (.long v :: st) σ Q) : X d k j pc ls (st) σ Q := by
  subst hn
  intro p l e R s m args below meth c cells slots H locs la q ad A n0 ad0 Qm hC hR hS hl hB hF
  exact lv_lconst hC.1 hC.2.1 hd hv (kk p l e R s m args below meth c cells slots H locs la q ad A n0 ad0 Qm hC hR hS hl hB hF)
theorem X_ldc {i : Nat} {v : Int32} (hd : decode j.2.1 pc = .ok (.ldc i, 2)) (hn : pc + 2 = nx) (hw : Cond.constant j.1.cls i v ∈ big) (kk : X d k j nx ls (.int v :: st) σ Q) : X d k j pc ls (st) σ Q := by
  subst hn
  intro p l e R s m args below meth c cells slots H locs la q ad A n0 ad0 Qm hC hR hS hl hB hF
  exact lv_ldc hC.1 hC.2.1 hC.2.2.2.2.1 (hC.2.2.2.2.2.1 _ hw) hd (kk p l e R s m args below meth c cells slots H locs la q ad A n0 ad0 Qm hC hR hS hl hB hF)
theorem X_ldcw {i : Nat} {v : Int32} (hd : decode j.2.1 pc = .ok (.ldc_w i, 3)) (hn : pc + 3 = nx) (hw : Cond.constant j.1.cls i v ∈ big) (kk : X d k j nx ls (.int v :: st) σ Q) : X d k j pc ls (st) σ Q := by
  subst hn
  intro p l e R s m args below meth c cells slots H locs la q ad A n0 ad0 Qm hC hR hS hl hB hF
  exact lv_ldcw hC.1 hC.2.1 hC.2.2.2.2.1 (hC.2.2.2.2.2.1 _ hw) hd (kk p l e R s m args below meth c cells slots H locs la q ad A n0 ad0 Qm hC hR hS hl hB hF)
theorem X_ldc2 {i : Nat} {v : Int64} (hd : decode j.2.1 pc = .ok (.ldc2_w i, 3)) (hn : pc + 3 = nx) (hw : Cond.constantLong j.1.cls i v ∈ big) (kk : X d k j nx ls (.long v :: st) σ Q) : X d k j pc ls (st) σ Q := by
  subst hn
  intro p l e R s m args below meth c cells slots H locs la q ad A n0 ad0 Qm hC hR hS hl hB hF
  exact lv_ldc2 hC.1 hC.2.1 hC.2.2.2.2.1 (hC.2.2.2.2.2.1 _ hw) hd (kk p l e R s m args below meth c cells slots H locs la q ad A n0 ad0 Qm hC hR hS hl hB hF)
theorem X_iload {i : Nat} {x : Int32} (hd : decode j.2.1 pc = .ok (.iload i, 2)) (hn : pc + 2 = nx) (hi : ls[i]? = some (some (.int x))) (kk : X d k j nx ls (.int x :: st) σ Q) : X d k j pc ls (st) σ Q := by
  subst hn
  intro p l e R s m args below meth c cells slots H locs la q ad A n0 ad0 Qm hC hR hS hl hB hF
  exact lv_iload hC.1 hC.2.1 hd (lh_at hl hi) (kk p l e R s m args below meth c cells slots H locs la q ad A n0 ad0 Qm hC hR hS hl hB hF)
theorem X_iload_n {z : Fin 4} {i : Nat} {x : Int32} (hd : decode j.2.1 pc = .ok (.iload_n z, 1)) (hn : pc + 1 = nx) (hz : (z : Nat) = i) (hi : ls[i]? = some (some (.int x))) (kk : X d k j nx ls (.int x :: st) σ Q) : X d k j pc ls (st) σ Q := by
  subst hn
  intro p l e R s m args below meth c cells slots H locs la q ad A n0 ad0 Qm hC hR hS hl hB hF
  exact lv_iload_n hC.1 hC.2.1 hd hz (lh_at hl hi) (kk p l e R s m args below meth c cells slots H locs la q ad A n0 ad0 Qm hC hR hS hl hB hF)
theorem X_istore {i : Nat} {x : Int32} {ls' : List (Option Value)} (hd : decode j.2.1 pc = .ok (.istore i, 2)) (hn : pc + 2 = nx) (hi : i < j.2.2.1) (ho : ok1 ls i = true) (hs : ls.set i (some (.int x)) = ls') (kk : X d k j nx ls' st σ Q) : X d k j pc ls (.int x :: st) σ Q := by
  subst hn; subst hs
  intro p l e R s m args below meth c cells slots H locs la q ad A n0 ad0 Qm hC hR hS hl hB hF
  exact lv_istore hC.1 hC.2.1 hd hl hi rfl (fun la' hl' => kk p l e R s m args below meth c cells slots H locs la' q ad A n0 ad0 Qm hC hR hS (lh_set (v := .int x) ho hl') hB hF)
theorem X_istore_n {z : Fin 4} {i : Nat} {x : Int32} {ls' : List (Option Value)} (hd : decode j.2.1 pc = .ok (.istore_n z, 1)) (hn : pc + 1 = nx) (hz : (z : Nat) = i) (hi : i < j.2.2.1) (ho : ok1 ls i = true) (hs : ls.set i (some (.int x)) = ls') (kk : X d k j nx ls' st σ Q) : X d k j pc ls (.int x :: st) σ Q := by
  subst hn; subst hs
  intro p l e R s m args below meth c cells slots H locs la q ad A n0 ad0 Qm hC hR hS hl hB hF
  exact lv_istore_n hC.1 hC.2.1 hd hz hl hi rfl (fun la' hl' => kk p l e R s m args below meth c cells slots H locs la' q ad A n0 ad0 Qm hC hR hS (lh_set (v := .int x) ho hl') hB hF)
theorem X_lload {i : Nat} {x : Int64} (hd : decode j.2.1 pc = .ok (.lload i, 2)) (hn : pc + 2 = nx) (hi : ls[i]? = some (some (.long x))) (kk : X d k j nx ls (.long x :: st) σ Q) : X d k j pc ls (st) σ Q := by
  subst hn
  intro p l e R s m args below meth c cells slots H locs la q ad A n0 ad0 Qm hC hR hS hl hB hF
  exact lv_lload hC.1 hC.2.1 hd (lh_at hl hi) (kk p l e R s m args below meth c cells slots H locs la q ad A n0 ad0 Qm hC hR hS hl hB hF)
theorem X_lload_n {z : Fin 4} {i : Nat} {x : Int64} (hd : decode j.2.1 pc = .ok (.lload_n z, 1)) (hn : pc + 1 = nx) (hz : (z : Nat) = i) (hi : ls[i]? = some (some (.long x))) (kk : X d k j nx ls (.long x :: st) σ Q) : X d k j pc ls (st) σ Q := by
  subst hn
  intro p l e R s m args below meth c cells slots H locs la q ad A n0 ad0 Qm hC hR hS hl hB hF
  exact lv_lload_n hC.1 hC.2.1 hd hz (lh_at hl hi) (kk p l e R s m args below meth c cells slots H locs la q ad A n0 ad0 Qm hC hR hS hl hB hF)
theorem X_lstore {i : Nat} {x : Int64} {ls' : List (Option Value)} (hd : decode j.2.1 pc = .ok (.lstore i, 2)) (hn : pc + 2 = nx) (hi : i + 1 < j.2.2.1) (ho : ok1 ls i = true) (hs : (ls.set i (some (.long x))).set (i + 1) none = ls') (kk : X d k j nx ls' st σ Q) : X d k j pc ls (.long x :: st) σ Q := by
  subst hn; subst hs
  intro p l e R s m args below meth c cells slots H locs la q ad A n0 ad0 Qm hC hR hS hl hB hF
  exact lv_lstore hC.1 hC.2.1 hd hl hi rfl (fun la' hl' => kk p l e R s m args below meth c cells slots H locs la' q ad A n0 ad0 Qm hC hR hS (lh_set2 (v := .long x) ho hl') hB hF)
theorem X_lstore_n {z : Fin 4} {i : Nat} {x : Int64} {ls' : List (Option Value)} (hd : decode j.2.1 pc = .ok (.lstore_n z, 1)) (hn : pc + 1 = nx) (hz : (z : Nat) = i) (hi : i + 1 < j.2.2.1) (ho : ok1 ls i = true) (hs : (ls.set i (some (.long x))).set (i + 1) none = ls') (kk : X d k j nx ls' st σ Q) : X d k j pc ls (.long x :: st) σ Q := by
  subst hn; subst hs
  intro p l e R s m args below meth c cells slots H locs la q ad A n0 ad0 Qm hC hR hS hl hB hF
  exact lv_lstore_n hC.1 hC.2.1 hd hz hl hi rfl (fun la' hl' => kk p l e R s m args below meth c cells slots H locs la' q ad A n0 ad0 Qm hC hR hS (lh_set2 (v := .long x) ho hl') hB hF)
theorem X_aload {i : Nat} {x : Nat} (hd : decode j.2.1 pc = .ok (.aload i, 2)) (hn : pc + 2 = nx) (hi : ls[i]? = some (some (.ref x))) (kk : X d k j nx ls (.ref x :: st) σ Q) : X d k j pc ls (st) σ Q := by
  subst hn
  intro p l e R s m args below meth c cells slots H locs la q ad A n0 ad0 Qm hC hR hS hl hB hF
  exact lv_aload hC.1 hC.2.1 hd (lh_at hl hi) (kk p l e R s m args below meth c cells slots H locs la q ad A n0 ad0 Qm hC hR hS hl hB hF)
theorem X_aload_n {z : Fin 4} {i : Nat} {x : Nat} (hd : decode j.2.1 pc = .ok (.aload_n z, 1)) (hn : pc + 1 = nx) (hz : (z : Nat) = i) (hi : ls[i]? = some (some (.ref x))) (kk : X d k j nx ls (.ref x :: st) σ Q) : X d k j pc ls (st) σ Q := by
  subst hn
  intro p l e R s m args below meth c cells slots H locs la q ad A n0 ad0 Qm hC hR hS hl hB hF
  exact lv_aload_n hC.1 hC.2.1 hd hz (lh_at hl hi) (kk p l e R s m args below meth c cells slots H locs la q ad A n0 ad0 Qm hC hR hS hl hB hF)
theorem X_astore {i : Nat} {x : Nat} {ls' : List (Option Value)} (hd : decode j.2.1 pc = .ok (.astore i, 2)) (hn : pc + 2 = nx) (hi : i < j.2.2.1) (ho : ok1 ls i = true) (hs : ls.set i (some (.ref x)) = ls') (kk : X d k j nx ls' st σ Q) : X d k j pc ls (.ref x :: st) σ Q := by
  subst hn; subst hs
  intro p l e R s m args below meth c cells slots H locs la q ad A n0 ad0 Qm hC hR hS hl hB hF
  exact lv_astore hC.1 hC.2.1 hd hl hi rfl (fun la' hl' => kk p l e R s m args below meth c cells slots H locs la' q ad A n0 ad0 Qm hC hR hS (lh_set (v := .ref x) ho hl') hB hF)
theorem X_astore_n {z : Fin 4} {i : Nat} {x : Nat} {ls' : List (Option Value)} (hd : decode j.2.1 pc = .ok (.astore_n z, 1)) (hn : pc + 1 = nx) (hz : (z : Nat) = i) (hi : i < j.2.2.1) (ho : ok1 ls i = true) (hs : ls.set i (some (.ref x)) = ls') (kk : X d k j nx ls' st σ Q) : X d k j pc ls (.ref x :: st) σ Q := by
  subst hn; subst hs
  intro p l e R s m args below meth c cells slots H locs la q ad A n0 ad0 Qm hC hR hS hl hB hF
  exact lv_astore_n hC.1 hC.2.1 hd hz hl hi rfl (fun la' hl' => kk p l e R s m args below meth c cells slots H locs la' q ad A n0 ad0 Qm hC hR hS (lh_set (v := .ref x) ho hl') hB hF)
theorem X_iinc {i : Nat} {n : Int} {x v : Int32} {ls' : List (Option Value)} (hd : decode j.2.1 pc = .ok (.iinc i n, 3)) (hn : pc + 3 = nx) (hi : i < j.2.2.1) (hg : ls[i]? = some (some (.int x))) (hv : x + Int32.ofInt n = v) (ho : ok1 ls i = true) (hs : ls.set i (some (.int v)) = ls') (kk : X d k j nx ls' st σ Q) : X d k j pc ls st σ Q := by
  subst hn; subst hs
  intro p l e R s m args below meth c cells slots H locs la q ad A n0 ad0 Qm hC hR hS hl hB hF
  obtain ⟨k0, hk0⟩ := List.getElem?_of_mem (asc_mem (ad := ad) (k := 0) hg)
  exact lv_iinc hC.1 hC.2.1 hd hl (k := k0) (hk0.trans (by rw [Nat.zero_add]; rfl)) hv hi rfl (fun la' hl' => kk p l e R s m args below meth c cells slots H locs la' q ad A n0 ad0 Qm hC hR hS (lh_set (v := .int v) ho hl') hB hF)
theorem X_iadd {x y : Int32} (hd : decode j.2.1 pc = .ok (.iadd, 1)) (hn : pc + 1 = nx) (kk : X d k j nx ls (.int (x + y) :: st) σ Q) : X d k j pc ls (.int y :: .int x :: st) σ Q := by
  subst hn
  intro p l e R s m args below meth c cells slots H locs la q ad A n0 ad0 Qm hC hR hS hl hB hF
  exact lv_iadd hC.1 hC.2.1 hd (kk p l e R s m args below meth c cells slots H locs la q ad A n0 ad0 Qm hC hR hS hl hB hF)
theorem X_isub {x y : Int32} (hd : decode j.2.1 pc = .ok (.isub, 1)) (hn : pc + 1 = nx) (kk : X d k j nx ls (.int (x - y) :: st) σ Q) : X d k j pc ls (.int y :: .int x :: st) σ Q := by
  subst hn
  intro p l e R s m args below meth c cells slots H locs la q ad A n0 ad0 Qm hC hR hS hl hB hF
  exact lv_isub hC.1 hC.2.1 hd (kk p l e R s m args below meth c cells slots H locs la q ad A n0 ad0 Qm hC hR hS hl hB hF)
theorem X_imul {x y : Int32} (hd : decode j.2.1 pc = .ok (.imul, 1)) (hn : pc + 1 = nx) (kk : X d k j nx ls (.int (x * y) :: st) σ Q) : X d k j pc ls (.int y :: .int x :: st) σ Q := by
  subst hn
  intro p l e R s m args below meth c cells slots H locs la q ad A n0 ad0 Qm hC hR hS hl hB hF
  exact lv_imul hC.1 hC.2.1 hd (kk p l e R s m args below meth c cells slots H locs la q ad A n0 ad0 Qm hC hR hS hl hB hF)
theorem X_iand {x y : Int32} (hd : decode j.2.1 pc = .ok (.iand, 1)) (hn : pc + 1 = nx) (kk : X d k j nx ls (.int (x &&& y) :: st) σ Q) : X d k j pc ls (.int y :: .int x :: st) σ Q := by
  subst hn
  intro p l e R s m args below meth c cells slots H locs la q ad A n0 ad0 Qm hC hR hS hl hB hF
  exact lv_iand hC.1 hC.2.1 hd (kk p l e R s m args below meth c cells slots H locs la q ad A n0 ad0 Qm hC hR hS hl hB hF)
theorem X_ior {x y : Int32} (hd : decode j.2.1 pc = .ok (.ior, 1)) (hn : pc + 1 = nx) (kk : X d k j nx ls (.int (x ||| y) :: st) σ Q) : X d k j pc ls (.int y :: .int x :: st) σ Q := by
  subst hn
  intro p l e R s m args below meth c cells slots H locs la q ad A n0 ad0 Qm hC hR hS hl hB hF
  exact lv_ior hC.1 hC.2.1 hd (kk p l e R s m args below meth c cells slots H locs la q ad A n0 ad0 Qm hC hR hS hl hB hF)
theorem X_ixor {x y : Int32} (hd : decode j.2.1 pc = .ok (.ixor, 1)) (hn : pc + 1 = nx) (kk : X d k j nx ls (.int (x ^^^ y) :: st) σ Q) : X d k j pc ls (.int y :: .int x :: st) σ Q := by
  subst hn
  intro p l e R s m args below meth c cells slots H locs la q ad A n0 ad0 Qm hC hR hS hl hB hF
  exact lv_ixor hC.1 hC.2.1 hd (kk p l e R s m args below meth c cells slots H locs la q ad A n0 ad0 Qm hC hR hS hl hB hF)
theorem X_ishl {x y : Int32} (hd : decode j.2.1 pc = .ok (.ishl, 1)) (hn : pc + 1 = nx) (kk : X d k j nx ls (.int (x <<< (y &&& 31)) :: st) σ Q) : X d k j pc ls (.int y :: .int x :: st) σ Q := by
  subst hn
  intro p l e R s m args below meth c cells slots H locs la q ad A n0 ad0 Qm hC hR hS hl hB hF
  exact lv_ishl hC.1 hC.2.1 hd (kk p l e R s m args below meth c cells slots H locs la q ad A n0 ad0 Qm hC hR hS hl hB hF)
theorem X_ishr {x y : Int32} (hd : decode j.2.1 pc = .ok (.ishr, 1)) (hn : pc + 1 = nx) (kk : X d k j nx ls (.int (x >>> (y &&& 31)) :: st) σ Q) : X d k j pc ls (.int y :: .int x :: st) σ Q := by
  subst hn
  intro p l e R s m args below meth c cells slots H locs la q ad A n0 ad0 Qm hC hR hS hl hB hF
  exact lv_ishr hC.1 hC.2.1 hd (kk p l e R s m args below meth c cells slots H locs la q ad A n0 ad0 Qm hC hR hS hl hB hF)
theorem X_ineg {x : Int32} (hd : decode j.2.1 pc = .ok (.ineg, 1)) (hn : pc + 1 = nx) (kk : X d k j nx ls (.int (-x) :: st) σ Q) : X d k j pc ls (.int x :: st) σ Q := by
  subst hn
  intro p l e R s m args below meth c cells slots H locs la q ad A n0 ad0 Qm hC hR hS hl hB hF
  exact lv_ineg hC.1 hC.2.1 hd (kk p l e R s m args below meth c cells slots H locs la q ad A n0 ad0 Qm hC hR hS hl hB hF)
theorem X_iushr {x y v : Int32} (hd : decode j.2.1 pc = .ok (.iushr, 1)) (hn : pc + 1 = nx) (hv : (x.toUInt32 >>> (y.toUInt32 &&& Int32.toUInt32 31)).toInt32 = v) (kk : X d k j nx ls (.int v :: st) σ Q) : X d k j pc ls (.int y :: .int x :: st) σ Q := by
  subst hn
  intro p l e R s m args below meth c cells slots H locs la q ad A n0 ad0 Qm hC hR hS hl hB hF
  exact lv_iushr hC.1 hC.2.1 hd hv (kk p l e R s m args below meth c cells slots H locs la q ad A n0 ad0 Qm hC hR hS hl hB hF)
theorem X_ladd {x y : Int64} (hd : decode j.2.1 pc = .ok (.ladd, 1)) (hn : pc + 1 = nx) (kk : X d k j nx ls (.long (x + y) :: st) σ Q) : X d k j pc ls (.long y :: .long x :: st) σ Q := by
  subst hn
  intro p l e R s m args below meth c cells slots H locs la q ad A n0 ad0 Qm hC hR hS hl hB hF
  exact lv_ladd hC.1 hC.2.1 hd (kk p l e R s m args below meth c cells slots H locs la q ad A n0 ad0 Qm hC hR hS hl hB hF)
theorem X_lsub {x y : Int64} (hd : decode j.2.1 pc = .ok (.lsub, 1)) (hn : pc + 1 = nx) (kk : X d k j nx ls (.long (x - y) :: st) σ Q) : X d k j pc ls (.long y :: .long x :: st) σ Q := by
  subst hn
  intro p l e R s m args below meth c cells slots H locs la q ad A n0 ad0 Qm hC hR hS hl hB hF
  exact lv_lsub hC.1 hC.2.1 hd (kk p l e R s m args below meth c cells slots H locs la q ad A n0 ad0 Qm hC hR hS hl hB hF)
theorem X_lmul {x y : Int64} (hd : decode j.2.1 pc = .ok (.lmul, 1)) (hn : pc + 1 = nx) (kk : X d k j nx ls (.long (x * y) :: st) σ Q) : X d k j pc ls (.long y :: .long x :: st) σ Q := by
  subst hn
  intro p l e R s m args below meth c cells slots H locs la q ad A n0 ad0 Qm hC hR hS hl hB hF
  exact lv_lmul hC.1 hC.2.1 hd (kk p l e R s m args below meth c cells slots H locs la q ad A n0 ad0 Qm hC hR hS hl hB hF)
theorem X_idiv {x y : Int32} (hd : decode j.2.1 pc = .ok (.idiv, 1)) (hn : pc + 1 = nx) (hne : ¬ y = 0) (kk : X d k j nx ls (.int (x / y) :: st) σ Q) : X d k j pc ls (.int y :: .int x :: st) σ Q := by
  subst hn
  intro p l e R s m args below meth c cells slots H locs la q ad A n0 ad0 Qm hC hR hS hl hB hF
  exact lv_idiv hC.1 hC.2.1 hd hne (kk p l e R s m args below meth c cells slots H locs la q ad A n0 ad0 Qm hC hR hS hl hB hF)
theorem X_irem {x y : Int32} (hd : decode j.2.1 pc = .ok (.irem, 1)) (hn : pc + 1 = nx) (hne : ¬ y = 0) (kk : X d k j nx ls (.int (x - x / y * y) :: st) σ Q) : X d k j pc ls (.int y :: .int x :: st) σ Q := by
  subst hn
  intro p l e R s m args below meth c cells slots H locs la q ad A n0 ad0 Qm hC hR hS hl hB hF
  exact lv_irem hC.1 hC.2.1 hd hne (kk p l e R s m args below meth c cells slots H locs la q ad A n0 ad0 Qm hC hR hS hl hB hF)
theorem X_ldiv {x y : Int64} (hd : decode j.2.1 pc = .ok (.ldiv, 1)) (hn : pc + 1 = nx) (hne : ¬ y = 0) (kk : X d k j nx ls (.long (x / y) :: st) σ Q) : X d k j pc ls (.long y :: .long x :: st) σ Q := by
  subst hn
  intro p l e R s m args below meth c cells slots H locs la q ad A n0 ad0 Qm hC hR hS hl hB hF
  exact lv_ldiv hC.1 hC.2.1 hd hne (kk p l e R s m args below meth c cells slots H locs la q ad A n0 ad0 Qm hC hR hS hl hB hF)
theorem X_lrem {x y : Int64} (hd : decode j.2.1 pc = .ok (.lrem, 1)) (hn : pc + 1 = nx) (hne : ¬ y = 0) (kk : X d k j nx ls (.long (x - x / y * y) :: st) σ Q) : X d k j pc ls (.long y :: .long x :: st) σ Q := by
  subst hn
  intro p l e R s m args below meth c cells slots H locs la q ad A n0 ad0 Qm hC hR hS hl hB hF
  exact lv_lrem hC.1 hC.2.1 hd hne (kk p l e R s m args below meth c cells slots H locs la q ad A n0 ad0 Qm hC hR hS hl hB hF)
theorem X_i2l {x : Int32} (hd : decode j.2.1 pc = .ok (.i2l, 1)) (hn : pc + 1 = nx) (kk : X d k j nx ls (.long x.toInt64 :: st) σ Q) : X d k j pc ls (.int x :: st) σ Q := by
  subst hn
  intro p l e R s m args below meth c cells slots H locs la q ad A n0 ad0 Qm hC hR hS hl hB hF
  exact lv_i2l hC.1 hC.2.1 hd rfl (kk p l e R s m args below meth c cells slots H locs la q ad A n0 ad0 Qm hC hR hS hl hB hF)
theorem X_i2c {x v : Int32} (hd : decode j.2.1 pc = .ok (.i2c, 1)) (hn : pc + 1 = nx) (hv : (x.toUInt32 % 65536).toInt32 = v) (kk : X d k j nx ls (.int v :: st) σ Q) : X d k j pc ls (.int x :: st) σ Q := by
  subst hn
  intro p l e R s m args below meth c cells slots H locs la q ad A n0 ad0 Qm hC hR hS hl hB hF
  exact lv_i2c hC.1 hC.2.1 hd hv (kk p l e R s m args below meth c cells slots H locs la q ad A n0 ad0 Qm hC hR hS hl hB hF)
theorem X_pop {v : Value} (hd : decode j.2.1 pc = .ok (.pop, 1)) (hn : pc + 1 = nx) (hv : v.category = 1) (kk : X d k j nx ls (st) σ Q) : X d k j pc ls (v :: st) σ Q := by
  subst hn
  intro p l e R s m args below meth c cells slots H locs la q ad A n0 ad0 Qm hC hR hS hl hB hF
  exact lv_pop hC.1 hC.2.1 hd ((tr_cat ad v).trans hv) (kk p l e R s m args below meth c cells slots H locs la q ad A n0 ad0 Qm hC hR hS hl hB hF)
theorem X_dup {v : Value} (hd : decode j.2.1 pc = .ok (.dup, 1)) (hn : pc + 1 = nx) (hv : v.category = 1) (kk : X d k j nx ls (v :: v :: st) σ Q) : X d k j pc ls (v :: st) σ Q := by
  subst hn
  intro p l e R s m args below meth c cells slots H locs la q ad A n0 ad0 Qm hC hR hS hl hB hF
  exact lv_dup hC.1 hC.2.1 hd ((tr_cat ad v).trans hv) (kk p l e R s m args below meth c cells slots H locs la q ad A n0 ad0 Qm hC hR hS hl hB hF)
theorem X_dup2 {u v : Value} (hd : decode j.2.1 pc = .ok (.dup2, 1)) (hn : pc + 1 = nx) (hu : u.category = 1) (hv : v.category = 1) (kk : X d k j nx ls (u :: v :: u :: v :: st) σ Q) : X d k j pc ls (u :: v :: st) σ Q := by
  subst hn
  intro p l e R s m args below meth c cells slots H locs la q ad A n0 ad0 Qm hC hR hS hl hB hF
  exact lv_dup2_11 hC.1 hC.2.1 hd ((tr_cat ad u).trans hu) ((tr_cat ad v).trans hv) (kk p l e R s m args below meth c cells slots H locs la q ad A n0 ad0 Qm hC hR hS hl hB hF)
theorem X_lcmp {x y : Int64} (hd : decode j.2.1 pc = .ok (.lcmp, 1)) (hn : pc + 1 = nx) (kk : X d k j nx ls (.int (lg_cmp x y) :: st) σ Q) : X d k j pc ls (.long y :: .long x :: st) σ Q := by
  subst hn
  intro p l e R s m args below meth c cells slots H locs la q ad A n0 ad0 Qm hC hR hS hl hB hF
  exact W.lcmp hC.1 hC.2.1 hd (kk p l e R s m args below meth c cells slots H locs la q ad A n0 ad0 Qm hC hR hS hl hB hF)
theorem X_if_eq {x : Int32} {off : Int} {tgt : Nat} (hd : decode j.2.1 pc = .ok (.ifCond .eq off, 3)) (hn : pc + 3 = nx) (ht : (pc : Int) + off = (tgt : Int)) (kt : x = 0 → X d k j tgt ls st σ Q) (kf : ¬ x = 0 → X d k j nx ls st σ Q) : X d k j pc ls (.int x :: st) σ Q := by
  subst hn
  intro p l e R s m args below meth c cells slots H locs la q ad A n0 ad0 Qm hC hR hS hl hB hF
  exact lv_if_eq hC.1 hC.2.1 hd ht (fun h => kt h p l e R s m args below meth c cells slots H locs la q ad A n0 ad0 Qm hC hR hS hl hB hF) (fun h => kf h p l e R s m args below meth c cells slots H locs la q ad A n0 ad0 Qm hC hR hS hl hB hF)
theorem X_if_ne {x : Int32} {off : Int} {tgt : Nat} (hd : decode j.2.1 pc = .ok (.ifCond .ne off, 3)) (hn : pc + 3 = nx) (ht : (pc : Int) + off = (tgt : Int)) (kt : ¬ x = 0 → X d k j tgt ls st σ Q) (kf : x = 0 → X d k j nx ls st σ Q) : X d k j pc ls (.int x :: st) σ Q := by
  subst hn
  intro p l e R s m args below meth c cells slots H locs la q ad A n0 ad0 Qm hC hR hS hl hB hF
  exact lv_if_ne hC.1 hC.2.1 hd ht (fun h => kt h p l e R s m args below meth c cells slots H locs la q ad A n0 ad0 Qm hC hR hS hl hB hF) (fun h => kf h p l e R s m args below meth c cells slots H locs la q ad A n0 ad0 Qm hC hR hS hl hB hF)
theorem X_if_lt {x : Int32} {off : Int} {tgt : Nat} (hd : decode j.2.1 pc = .ok (.ifCond .lt off, 3)) (hn : pc + 3 = nx) (ht : (pc : Int) + off = (tgt : Int)) (kt : x < 0 → X d k j tgt ls st σ Q) (kf : ¬ x < 0 → X d k j nx ls st σ Q) : X d k j pc ls (.int x :: st) σ Q := by
  subst hn
  intro p l e R s m args below meth c cells slots H locs la q ad A n0 ad0 Qm hC hR hS hl hB hF
  exact lv_if_lt hC.1 hC.2.1 hd ht (fun h => kt h p l e R s m args below meth c cells slots H locs la q ad A n0 ad0 Qm hC hR hS hl hB hF) (fun h => kf h p l e R s m args below meth c cells slots H locs la q ad A n0 ad0 Qm hC hR hS hl hB hF)
theorem X_if_ge {x : Int32} {off : Int} {tgt : Nat} (hd : decode j.2.1 pc = .ok (.ifCond .ge off, 3)) (hn : pc + 3 = nx) (ht : (pc : Int) + off = (tgt : Int)) (kt : 0 ≤ x → X d k j tgt ls st σ Q) (kf : ¬ 0 ≤ x → X d k j nx ls st σ Q) : X d k j pc ls (.int x :: st) σ Q := by
  subst hn
  intro p l e R s m args below meth c cells slots H locs la q ad A n0 ad0 Qm hC hR hS hl hB hF
  exact lv_if_ge hC.1 hC.2.1 hd ht (fun h => kt h p l e R s m args below meth c cells slots H locs la q ad A n0 ad0 Qm hC hR hS hl hB hF) (fun h => kf h p l e R s m args below meth c cells slots H locs la q ad A n0 ad0 Qm hC hR hS hl hB hF)
theorem X_if_gt {x : Int32} {off : Int} {tgt : Nat} (hd : decode j.2.1 pc = .ok (.ifCond .gt off, 3)) (hn : pc + 3 = nx) (ht : (pc : Int) + off = (tgt : Int)) (kt : 0 < x → X d k j tgt ls st σ Q) (kf : ¬ 0 < x → X d k j nx ls st σ Q) : X d k j pc ls (.int x :: st) σ Q := by
  subst hn
  intro p l e R s m args below meth c cells slots H locs la q ad A n0 ad0 Qm hC hR hS hl hB hF
  exact lv_if_gt hC.1 hC.2.1 hd ht (fun h => kt h p l e R s m args below meth c cells slots H locs la q ad A n0 ad0 Qm hC hR hS hl hB hF) (fun h => kf h p l e R s m args below meth c cells slots H locs la q ad A n0 ad0 Qm hC hR hS hl hB hF)
theorem X_if_le {x : Int32} {off : Int} {tgt : Nat} (hd : decode j.2.1 pc = .ok (.ifCond .le off, 3)) (hn : pc + 3 = nx) (ht : (pc : Int) + off = (tgt : Int)) (kt : x ≤ 0 → X d k j tgt ls st σ Q) (kf : ¬ x ≤ 0 → X d k j nx ls st σ Q) : X d k j pc ls (.int x :: st) σ Q := by
  subst hn
  intro p l e R s m args below meth c cells slots H locs la q ad A n0 ad0 Qm hC hR hS hl hB hF
  exact lv_if_le hC.1 hC.2.1 hd ht (fun h => kt h p l e R s m args below meth c cells slots H locs la q ad A n0 ad0 Qm hC hR hS hl hB hF) (fun h => kf h p l e R s m args below meth c cells slots H locs la q ad A n0 ad0 Qm hC hR hS hl hB hF)
theorem X_icmp_eq {x y : Int32} {off : Int} {tgt : Nat} (hd : decode j.2.1 pc = .ok (.if_icmp .eq off, 3)) (hn : pc + 3 = nx) (ht : (pc : Int) + off = (tgt : Int)) (kt : x = y → X d k j tgt ls st σ Q) (kf : ¬ x = y → X d k j nx ls st σ Q) : X d k j pc ls (.int y :: .int x :: st) σ Q := by
  subst hn
  intro p l e R s m args below meth c cells slots H locs la q ad A n0 ad0 Qm hC hR hS hl hB hF
  exact lv_icmp_eq hC.1 hC.2.1 hd ht (fun h => kt h p l e R s m args below meth c cells slots H locs la q ad A n0 ad0 Qm hC hR hS hl hB hF) (fun h => kf h p l e R s m args below meth c cells slots H locs la q ad A n0 ad0 Qm hC hR hS hl hB hF)
theorem X_icmp_ne {x y : Int32} {off : Int} {tgt : Nat} (hd : decode j.2.1 pc = .ok (.if_icmp .ne off, 3)) (hn : pc + 3 = nx) (ht : (pc : Int) + off = (tgt : Int)) (kt : ¬ x = y → X d k j tgt ls st σ Q) (kf : x = y → X d k j nx ls st σ Q) : X d k j pc ls (.int y :: .int x :: st) σ Q := by
  subst hn
  intro p l e R s m args below meth c cells slots H locs la q ad A n0 ad0 Qm hC hR hS hl hB hF
  exact lv_icmp_ne hC.1 hC.2.1 hd ht (fun h => kt h p l e R s m args below meth c cells slots H locs la q ad A n0 ad0 Qm hC hR hS hl hB hF) (fun h => kf h p l e R s m args below meth c cells slots H locs la q ad A n0 ad0 Qm hC hR hS hl hB hF)
theorem X_icmp_lt {x y : Int32} {off : Int} {tgt : Nat} (hd : decode j.2.1 pc = .ok (.if_icmp .lt off, 3)) (hn : pc + 3 = nx) (ht : (pc : Int) + off = (tgt : Int)) (kt : x < y → X d k j tgt ls st σ Q) (kf : ¬ x < y → X d k j nx ls st σ Q) : X d k j pc ls (.int y :: .int x :: st) σ Q := by
  subst hn
  intro p l e R s m args below meth c cells slots H locs la q ad A n0 ad0 Qm hC hR hS hl hB hF
  exact lv_icmp_lt hC.1 hC.2.1 hd ht (fun h => kt h p l e R s m args below meth c cells slots H locs la q ad A n0 ad0 Qm hC hR hS hl hB hF) (fun h => kf h p l e R s m args below meth c cells slots H locs la q ad A n0 ad0 Qm hC hR hS hl hB hF)
theorem X_icmp_ge {x y : Int32} {off : Int} {tgt : Nat} (hd : decode j.2.1 pc = .ok (.if_icmp .ge off, 3)) (hn : pc + 3 = nx) (ht : (pc : Int) + off = (tgt : Int)) (kt : y ≤ x → X d k j tgt ls st σ Q) (kf : ¬ y ≤ x → X d k j nx ls st σ Q) : X d k j pc ls (.int y :: .int x :: st) σ Q := by
  subst hn
  intro p l e R s m args below meth c cells slots H locs la q ad A n0 ad0 Qm hC hR hS hl hB hF
  exact lv_icmp_ge hC.1 hC.2.1 hd ht (fun h => kt h p l e R s m args below meth c cells slots H locs la q ad A n0 ad0 Qm hC hR hS hl hB hF) (fun h => kf h p l e R s m args below meth c cells slots H locs la q ad A n0 ad0 Qm hC hR hS hl hB hF)
theorem X_icmp_gt {x y : Int32} {off : Int} {tgt : Nat} (hd : decode j.2.1 pc = .ok (.if_icmp .gt off, 3)) (hn : pc + 3 = nx) (ht : (pc : Int) + off = (tgt : Int)) (kt : y < x → X d k j tgt ls st σ Q) (kf : ¬ y < x → X d k j nx ls st σ Q) : X d k j pc ls (.int y :: .int x :: st) σ Q := by
  subst hn
  intro p l e R s m args below meth c cells slots H locs la q ad A n0 ad0 Qm hC hR hS hl hB hF
  exact lv_icmp_gt hC.1 hC.2.1 hd ht (fun h => kt h p l e R s m args below meth c cells slots H locs la q ad A n0 ad0 Qm hC hR hS hl hB hF) (fun h => kf h p l e R s m args below meth c cells slots H locs la q ad A n0 ad0 Qm hC hR hS hl hB hF)
theorem X_icmp_le {x y : Int32} {off : Int} {tgt : Nat} (hd : decode j.2.1 pc = .ok (.if_icmp .le off, 3)) (hn : pc + 3 = nx) (ht : (pc : Int) + off = (tgt : Int)) (kt : x ≤ y → X d k j tgt ls st σ Q) (kf : ¬ x ≤ y → X d k j nx ls st σ Q) : X d k j pc ls (.int y :: .int x :: st) σ Q := by
  subst hn
  intro p l e R s m args below meth c cells slots H locs la q ad A n0 ad0 Qm hC hR hS hl hB hF
  exact lv_icmp_le hC.1 hC.2.1 hd ht (fun h => kt h p l e R s m args below meth c cells slots H locs la q ad A n0 ad0 Qm hC hR hS hl hB hF) (fun h => kf h p l e R s m args below meth c cells slots H locs la q ad A n0 ad0 Qm hC hR hS hl hB hF)
theorem X_ifnonnull {x : Nat} {off : Int} {tgt : Nat} (hd : decode j.2.1 pc = .ok (.ifnonnull off, 3)) (ht : (pc : Int) + off = (tgt : Int)) (kk : X d k j tgt ls st σ Q) : X d k j pc ls (.ref x :: st) σ Q := by
  intro p l e R s m args below meth c cells slots H locs la q ad A n0 ad0 Qm hC hR hS hl hB hF
  exact lv_ifnonnull hC.1 hC.2.1 hd ht (kk p l e R s m args below meth c cells slots H locs la q ad A n0 ad0 Qm hC hR hS hl hB hF)
theorem X_goto {off : Int} {tgt : Nat} (hd : decode j.2.1 pc = .ok (.goto off, 3)) (ht : (pc : Int) + off = (tgt : Int)) (kk : X d k j tgt ls st σ Q) : X d k j pc ls st σ Q := by
  intro p l e R s m args below meth c cells slots H locs la q ad A n0 ad0 Qm hC hR hS hl hB hF
  exact lv_goto hC.1 hC.2.1 hd ht (kk p l e R s m args below meth c cells slots H locs la q ad A n0 ad0 Qm hC hR hS hl hB hF)
theorem X_tableIn {dflt lo hi : Int} {offs : Array Int} {len : Nat} {x : Int32} {off : Int} {tgt : Nat} (hd : decode j.2.1 pc = .ok (.tableswitch dflt lo hi offs, len)) (h1 : ¬ x.toInt < lo) (h2 : ¬ hi < x.toInt) (ho : offs[(x.toInt - lo).toNat]? = some off) (ht : (pc : Int) + off = (tgt : Int)) (kk : X d k j tgt ls st σ Q) : X d k j pc ls (.int x :: st) σ Q := by
  intro p l e R s m args below meth c cells slots H locs la q ad A n0 ad0 Qm hC hR hS hl hB hF
  exact lv_tableIn hC.1 hC.2.1 hd h1 h2 ho ht (kk p l e R s m args below meth c cells slots H locs la q ad A n0 ad0 Qm hC hR hS hl hB hF)
theorem X_tableOut {dflt lo hi : Int} {offs : Array Int} {len : Nat} {x : Int32} {tgt : Nat} (hd : decode j.2.1 pc = .ok (.tableswitch dflt lo hi offs, len)) (h : x.toInt < lo ∨ hi < x.toInt) (ht : (pc : Int) + dflt = (tgt : Int)) (kk : X d k j tgt ls st σ Q) : X d k j pc ls (.int x :: st) σ Q := by
  intro p l e R s m args below meth c cells slots H locs la q ad A n0 ad0 Qm hC hR hS hl hB hF
  exact lv_tableOut hC.1 hC.2.1 hd h ht (kk p l e R s m args below meth c cells slots H locs la q ad A n0 ad0 Qm hC hR hS hl hB hF)
theorem X_lookup {dflt : Int} {ps : Array (Int × Int)} {len : Nat} {x : Int32} {off : Int} {tgt : Nat} (hd : decode j.2.1 pc = .ok (.lookupswitch dflt ps, len)) (hp : (ps.toList.zip (ps.toList.drop 1)).all (fun (a, next) => a.1 < next.1) = true) (ho : Op.lookupswitch.offset ps.toList dflt x.toInt = off) (ht : (pc : Int) + off = (tgt : Int)) (kk : X d k j tgt ls st σ Q) : X d k j pc ls (.int x :: st) σ Q := by
  intro p l e R s m args below meth c cells slots H locs la q ad A n0 ad0 Qm hC hR hS hl hB hF
  exact lv_lookup hC.1 hC.2.1 hd hp ho ht (kk p l e R s m args below meth c cells slots H locs la q ad A n0 ad0 Qm hC hR hS hl hB hF)
end ROWS
end
section
/-! ROWS OF THE MEMORY -/
def isZ (ci k : Nat) : Bool := (ci == 3 && k == 6) || (ci == 6 && k == 9) || (ci == 7 && (k == 39 || k == 40 || k == 47))
/-- what a class' tables say -/
def CF (ci : Nat) (C : String) (T : u_T) (N : Nat) (ty : Nat → FieldType) : Prop :=
  vwCl[ci]? = some (C, T, N) ∧ nSl ci = N ∧ ci < 8 ∧ (∀ i, i < N → (T i).1 = C) ∧ (∀ w ∈ u_ws C T N, w ∈ big) ∧ (∀ i, i < N → parseFieldDescriptor (T i).2.2.1 = some (ty i)) ∧ (∀ a, a < N → ∀ b, b < N → a ≠ b → (T a).2.1 ≠ (T b).2.1) ∧ (∀ i, i < N → (T i).2.2.2 = isP ci i ∧ (if isP ci i = true then ((∃ t, ty i = .array t) ∨ ∃ n, ty i = .object n) else ty i = if isZ ci i = true then .boolean else .int))
/-- a field's link -/
def FL (own : String) (idx ci k : Nat) : Prop := ∃ (C : String) (T : u_T) (N : Nat) (ty : Nat → FieldType), CF ci C T N ty ∧ k < N ∧
  (Cond.fieldLink own idx C (T k).2.1 (T k).2.2.1 ∈ big ∨ ∃ host, Cond.fieldLinkNest own idx C (T k).2.1 (T k).2.2.1 host ∈ lw_tbl)
theorem tb_in {w : Cond} (i : Nat) (h : tables_1[i]? = some w) : w ∈ lw_tbl := List.mem_append_right _ (List.mem_of_getElem? h)
theorem bg_in {w : Cond} (i : Nat) (h : tables_1[i]? = some w) (hg : goodWord w = true) : w ∈ big := big_in (tb_in i h) hg
theorem pv_in {w : Cond} (i : Nat) (h : (k2_sels lw_privs)[i]? = some w) (hg : goodWord w = true) : w ∈ big := big_in (List.mem_append_left _ (List.mem_of_getElem? h)) hg
theorem cel_obj {ad : Nat → Nat} {cI cR : ClassId} {P : Ptr} {D : Mem} {a ci : Nat} (h : (lay a).1 = ci) (hc : ci < 8) : cel ad cI cR P D a = .inr (ci, (List.range (nSl ci)).map (slt ad P D ci a)) := by
  unfold cel
  rw [h, if_neg (by omega), if_neg (by omega)]
theorem cel_int {ad : Nat → Nat} {cI cR : ClassId} {P : Ptr} {D : Mem} {a : Nat} (h : (lay a).1 = 8) : cel ad cI cR P D a = .inl (cI, (lay a).2, .inl (D a)) := by
  unfold cel
  rw [if_pos h]
theorem cel_ref {ad : Nat → Nat} {cI cR : ClassId} {P : Ptr} {D : Mem} {a : Nat} (h : (lay a).1 = 9) : cel ad cI cR P D a = .inl (cR, (lay a).2, .inr (.inr (.inr (.inr (fun j => (P a j).map ad))))) := by
  unfold cel
  rw [h, if_neg (by omega), if_pos rfl]
theorem slt_get {ad : Nat → Nat} {P : Ptr} {D : Mem} {ci a k : Nat} (h : k < nSl ci) : ((List.range (nSl ci)).map (slt ad P D ci a))[k]? = some (slt ad P D ci a k) := by
  simp [List.getElem?_map, List.getElem?_range h]
theorem slt_set {ad : Nat → Nat} {P P' : Ptr} {D D' : Mem} {ci a k : Nat} {v : Value} (hv : v = slt ad P' D' ci a k) (ho : ∀ i, i ≠ k → slt ad P' D' ci a i = slt ad P D ci a i) : ((List.range (nSl ci)).map (slt ad P D ci a)).set k v = (List.range (nSl ci)).map (slt ad P' D' ci a) := by
  apply List.ext_getElem?
  intro i
  by_cases hi : i = k
  · subst hi
    by_cases h : i < nSl ci
    · rw [List.getElem?_set_self (by simpa using h), slt_get h, hv]
    · rw [List.getElem?_eq_none (by simp; omega), List.getElem?_eq_none (by simp; omega)]
  · rw [List.getElem?_set_ne (Ne.symm hi)]
    by_cases h : i < nSl ci
    · rw [slt_get h, slt_get h, ho i hi]
    · rw [List.getElem?_eq_none (by simp; omega), List.getElem?_eq_none (by simp; omega)]
theorem cel_other {ad : Nat → Nat} {cI cR : ClassId} {P P' : Ptr} {D D' : Mem} {b : Nat} (hP : P' b = P b) (hD : D' b = D b) : cel ad cI cR P' D' b = cel ad cI cR P D b := by
  unfold cel
  rw [hP, hD]
  have : slt ad P' D' (lay b).1 b = slt ad P D (lay b).1 b := by
    funext i
    unfold slt
    rw [hP, hD]
  rw [this]
theorem up2_ne {α : Type} {f : Nat → Nat → α} {a b j : Nat} {v : α} (h : b ≠ a) : up2 f a j v b = f b := by
  funext i
  unfold up2
  rw [if_neg (fun q => h q.1)]
theorem up2_row {f : Nat → Nat → Int32} {a j : Nat} {v : Int32} : up2 f a j v a = upd (f a) j v := by
  funext i
  simp [up2, upd]
theorem agr_up {xs : Nat → Int32} {L : Nat} {σ : Wd} {a j : Nat} {v : Int32} (ha : a < 138) (h : agr xs L σ) : agr xs L (σ.1, σ.2.1, up2 σ.2.2 a j v) := by
  refine ⟨?_, ?_, h.2.2⟩
  · show up2 σ.2.2 a j v 2003 = xs
    rw [up2_ne (by omega)]; exact h.1
  · show up2 σ.2.2 a j v 2004 0 = nI L
    rw [up2_ne (by omega)]; exact h.2.1
section MROWS
variable {d k pc nx : Nat} {j : MI} {ls : List (Option Value)} {st : List Value} {σ : Wd} {Q : List Value → Wd → Prop}

theorem X_getI {idx ci kf a : Nat} (hd : decode j.2.1 pc = .ok (.getfield idx, 3)) (hn : pc + 3 = nx) (hf : FL j.1.cls idx ci kf) (hp : isP ci kf = false) (ha : a < σ.1) (hc : (lay a).1 = ci) (kk : X d k j nx ls (.int (σ.2.2 a kf) :: st) σ Q) : X d k j pc ls (.ref a :: st) σ Q := by
  subst hn
  intro p l e R s m args below meth c cells slots H locs la q ad A n0 ad0 Qm hC hR hS hl hB hF
  obtain ⟨hx, hb, hr, hml, hown, hts, hlk, hini⟩ := id hC
  obtain ⟨hK, hSK, hA, hP, hD, hSS, hag⟩ := id hS
  obtain ⟨C, T, N, ty, ⟨c1, c2, c3, c4, c5, c6, c7, c8⟩, hk, hw⟩ := hf
  have he := WS_at (ad := ad) (cI := q.2.1) (cR := q.2.2.1) ha
  rw [cel_obj hc c3] at he
  have hv := slt_get (ad := ad) (P := σ.2.1) (D := σ.2.2) (a := a) (k := kf) (ci := ci) (by rw [c2]; exact hk)
  have e0 : slt ad σ.2.1 σ.2.2 ci a kf = tr ad (.int (σ.2.2 a kf)) := by
    unfold slt
    rw [if_neg (by rw [hp]; decide)]; rfl
  rw [e0] at hv
  rcases hw with hw | ⟨host, hw⟩
  · exact va_get (D := q.1) (ci := ci) (C := C) (T := T) (N := N) (ref := C) hx hb hts c5 hown hK hP a he c1 kf hk (hts _ hw) (fun _ h9 => by rw [c4 kf hk] at h9; exact h9) hv hd (kk p l e R s m args below meth c cells slots H locs la q ad A n0 ad0 Qm hC hR hS hl hB hF)
  · exact va_getN (D := q.1) (ci := ci) (C := C) (T := T) (N := N) (ref := C) (host := host) hx hb hts c5 hown hK hP a he c1 kf hk ((hSK.2.2.2.2.2.1 _ hw rfl).use rfl) (fun _ h9 => by rw [c4 kf hk] at h9; exact h9) hv hd (kk p l e R s m args below meth c cells slots H locs la q ad A n0 ad0 Qm hC hR hS hl hB hF)
theorem X_getP {idx ci kf a b : Nat} (hd : decode j.2.1 pc = .ok (.getfield idx, 3)) (hn : pc + 3 = nx) (hf : FL j.1.cls idx ci kf) (hp : isP ci kf = true) (hv0 : σ.2.1 a kf = some b) (ha : a < σ.1) (hc : (lay a).1 = ci) (kk : X d k j nx ls (.ref b :: st) σ Q) : X d k j pc ls (.ref a :: st) σ Q := by
  subst hn
  intro p l e R s m args below meth c cells slots H locs la q ad A n0 ad0 Qm hC hR hS hl hB hF
  obtain ⟨hx, hb, hr, hml, hown, hts, hlk, hini⟩ := id hC
  obtain ⟨hK, hSK, hA, hP, hD, hSS, hag⟩ := id hS
  obtain ⟨C, T, N, ty, ⟨c1, c2, c3, c4, c5, c6, c7, c8⟩, hk, hw⟩ := hf
  have he := WS_at (ad := ad) (cI := q.2.1) (cR := q.2.2.1) ha
  rw [cel_obj hc c3] at he
  have hv := slt_get (ad := ad) (P := σ.2.1) (D := σ.2.2) (a := a) (k := kf) (ci := ci) (by rw [c2]; exact hk)
  have e0 : slt ad σ.2.1 σ.2.2 ci a kf = tr ad (.ref b) := by
    unfold slt
    rw [if_pos hp, hv0]; rfl
  rw [e0] at hv
  rcases hw with hw | ⟨host, hw⟩
  · exact va_get (D := q.1) (ci := ci) (C := C) (T := T) (N := N) (ref := C) hx hb hts c5 hown hK hP a he c1 kf hk (hts _ hw) (fun _ h9 => by rw [c4 kf hk] at h9; exact h9) hv hd (kk p l e R s m args below meth c cells slots H locs la q ad A n0 ad0 Qm hC hR hS hl hB hF)
  · exact va_getN (D := q.1) (ci := ci) (C := C) (T := T) (N := N) (ref := C) (host := host) hx hb hts c5 hown hK hP a he c1 kf hk ((hSK.2.2.2.2.2.1 _ hw rfl).use rfl) (fun _ h9 => by rw [c4 kf hk] at h9; exact h9) hv hd (kk p l e R s m args below meth c cells slots H locs la q ad A n0 ad0 Qm hC hR hS hl hB hF)
theorem X_putI {idx ci kf a : Nat} {x : Int32} (hd : decode j.2.1 pc = .ok (.putfield idx, 3)) (hn : pc + 3 = nx) (hf : FL j.1.cls idx ci kf) (hp : isP ci kf = false) (hz : isZ ci kf = false) (ha : a < σ.1) (hc : (lay a).1 = ci) (kk : X d k j nx ls st (σ.1, σ.2.1, up2 σ.2.2 a kf x) Q) : X d k j pc ls (.int x :: .ref a :: st) σ Q := by
  subst hn
  intro p l e R s m args below meth c cells slots H locs la q ad A n0 ad0 Qm hC hR hS hl hB hF
  obtain ⟨hx, hb, hr, hml, hown, hts, hlk, hini⟩ := id hC
  obtain ⟨hK, hSK, hA, hP, hD, hSS, hag⟩ := id hS
  obtain ⟨C, T, N, ty, ⟨c1, c2, c3, c4, c5, c6, c7, c8⟩, hk, hw⟩ := hf
  have he := WS_at (ad := ad) (cI := q.2.1) (cR := q.2.2.1) ha
  rw [cel_obj hc c3] at he
  have h8 := c8 kf hk
  rw [if_neg (by rw [hp]; decide)] at h8
  have hset := slt_set (ad := ad) (P := σ.2.1) (P' := σ.2.1) (D := σ.2.2) (D' := up2 σ.2.2 a kf x) (ci := ci) (a := a) (k := kf) (v := .int x) (by unfold slt; rw [if_neg (by rw [hp]; decide)]; simp [up2]) (fun i hi => by unfold slt; simp [up2, hi])
  have hws := WS_set (ad := ad) (cI := q.2.1) (cR := q.2.2.1) (σ := σ) (σ' := (σ.1, σ.2.1, up2 σ.2.2 a kf x)) (a := a) (e := .inr (ci, ((List.range (nSl ci)).map (slt ad σ.2.1 σ.2.2 ci a)).set kf (.int x))) rfl (by rw [hset, cel_obj hc c3]) (fun b hb' => cel_other rfl (up2_ne hb'))
  have hag' : agr q.2.2.2.1 q.2.2.2.2 (σ.1, σ.2.1, up2 σ.2.2 a kf x) := agr_up (Nat.lt_of_lt_of_le ha (Nat.le_trans hB.2.1 hB.2.2.1)) hag
  have hlen : kf < ((List.range (nSl ci)).map (slt ad σ.2.1 σ.2.2 ci a)).length := by simp; rw [c2]; exact hk
  have hpd := (c6 kf hk).trans (congrArg some h8.2)
  have hnr : narrow (if isZ ci kf = true then FieldType.boolean else FieldType.int) (.int x) = .int x ∧ fits (if isZ ci kf = true then FieldType.boolean else FieldType.int) (.int x) = true := by
    rw [if_neg (by rw [hz]; decide)]; exact ⟨rfl, rfl⟩
  rcases hw with hw | ⟨host, hw⟩
  · refine va_put (v := .int x) (D := q.1) (ci := ci) (C := C) (T := T) (N := N) (ref := C) hx hb hts c5 ty c6 c7 hown hK hP hD hSS a he c1 kf hk (hts _ hw) (fun _ h9 => by rw [c4 kf hk] at h9; exact h9) (h8.1.trans hp) hpd hnr.1 hnr.2 hlen hd (fun H1 locs1 hP1 hD1 hS1 => ?_)
    rw [hws] at hP1 hD1
    exact kk p l e R s m args below meth c cells slots H1 locs1 la q ad A n0 ad0 Qm hC hR ⟨hK, hSK, hA, hP1, hD1, hS1, hag'⟩ hl hB hF
  · refine va_putN (v := .int x) (D := q.1) (ci := ci) (C := C) (T := T) (N := N) (ref := C) (host := host) hx hb hts c5 ty c6 c7 hown hK hP hD hSS a he c1 kf hk ((hSK.2.2.2.2.2.1 _ hw rfl).use rfl) (fun _ h9 => by rw [c4 kf hk] at h9; exact h9) (h8.1.trans hp) hpd hnr.1 hnr.2 hlen hd (fun H1 locs1 hP1 hD1 hS1 => ?_)
    rw [hws] at hP1 hD1
    exact kk p l e R s m args below meth c cells slots H1 locs1 la q ad A n0 ad0 Qm hC hR ⟨hK, hSK, hA, hP1, hD1, hS1, hag'⟩ hl hB hF
theorem X_putZ {idx ci kf a : Nat} {x : Int32} (hd : decode j.2.1 pc = .ok (.putfield idx, 3)) (hn : pc + 3 = nx) (hf : FL j.1.cls idx ci kf) (hp : isP ci kf = false) (hz : isZ ci kf = true) (hx0 : x = 0 ∨ x = 1) (ha : a < σ.1) (hc : (lay a).1 = ci) (kk : X d k j nx ls st (σ.1, σ.2.1, up2 σ.2.2 a kf x) Q) : X d k j pc ls (.int x :: .ref a :: st) σ Q := by
  subst hn
  intro p l e R s m args below meth c cells slots H locs la q ad A n0 ad0 Qm hC hR hS hl hB hF
  obtain ⟨hx, hb, hr, hml, hown, hts, hlk, hini⟩ := id hC
  obtain ⟨hK, hSK, hA, hP, hD, hSS, hag⟩ := id hS
  obtain ⟨C, T, N, ty, ⟨c1, c2, c3, c4, c5, c6, c7, c8⟩, hk, hw⟩ := hf
  have he := WS_at (ad := ad) (cI := q.2.1) (cR := q.2.2.1) ha
  rw [cel_obj hc c3] at he
  have h8 := c8 kf hk
  rw [if_neg (by rw [hp]; decide)] at h8
  have hset := slt_set (ad := ad) (P := σ.2.1) (P' := σ.2.1) (D := σ.2.2) (D' := up2 σ.2.2 a kf x) (ci := ci) (a := a) (k := kf) (v := .int x) (by unfold slt; rw [if_neg (by rw [hp]; decide)]; simp [up2]) (fun i hi => by unfold slt; simp [up2, hi])
  have hws := WS_set (ad := ad) (cI := q.2.1) (cR := q.2.2.1) (σ := σ) (σ' := (σ.1, σ.2.1, up2 σ.2.2 a kf x)) (a := a) (e := .inr (ci, ((List.range (nSl ci)).map (slt ad σ.2.1 σ.2.2 ci a)).set kf (.int x))) rfl (by rw [hset, cel_obj hc c3]) (fun b hb' => cel_other rfl (up2_ne hb'))
  have hag' : agr q.2.2.2.1 q.2.2.2.2 (σ.1, σ.2.1, up2 σ.2.2 a kf x) := agr_up (Nat.lt_of_lt_of_le ha (Nat.le_trans hB.2.1 hB.2.2.1)) hag
  have hlen : kf < ((List.range (nSl ci)).map (slt ad σ.2.1 σ.2.2 ci a)).length := by simp; rw [c2]; exact hk
  have hpd := (c6 kf hk).trans (congrArg some h8.2)
  have hnr : narrow (if isZ ci kf = true then FieldType.boolean else FieldType.int) (.int x) = .int x ∧ fits (if isZ ci kf = true then FieldType.boolean else FieldType.int) (.int x) = true := by
    rw [if_pos hz]; rcases hx0 with rfl | rfl <;> exact ⟨rfl, rfl⟩
  rcases hw with hw | ⟨host, hw⟩
  · refine va_put (v := .int x) (D := q.1) (ci := ci) (C := C) (T := T) (N := N) (ref := C) hx hb hts c5 ty c6 c7 hown hK hP hD hSS a he c1 kf hk (hts _ hw) (fun _ h9 => by rw [c4 kf hk] at h9; exact h9) (h8.1.trans hp) hpd hnr.1 hnr.2 hlen hd (fun H1 locs1 hP1 hD1 hS1 => ?_)
    rw [hws] at hP1 hD1
    exact kk p l e R s m args below meth c cells slots H1 locs1 la q ad A n0 ad0 Qm hC hR ⟨hK, hSK, hA, hP1, hD1, hS1, hag'⟩ hl hB hF
  · refine va_putN (v := .int x) (D := q.1) (ci := ci) (C := C) (T := T) (N := N) (ref := C) (host := host) hx hb hts c5 ty c6 c7 hown hK hP hD hSS a he c1 kf hk ((hSK.2.2.2.2.2.1 _ hw rfl).use rfl) (fun _ h9 => by rw [c4 kf hk] at h9; exact h9) (h8.1.trans hp) hpd hnr.1 hnr.2 hlen hd (fun H1 locs1 hP1 hD1 hS1 => ?_)
    rw [hws] at hP1 hD1
    exact kk p l e R s m args below meth c cells slots H1 locs1 la q ad A n0 ad0 Qm hC hR ⟨hK, hSK, hA, hP1, hD1, hS1, hag'⟩ hl hB hF
theorem X_iald {a : Nat} {i : Int32} (hd : decode j.2.1 pc = .ok (.iaload, 1)) (hn : pc + 1 = nx) (ha : a < σ.1) (hc : (lay a).1 = 8) (hin : vp_in i (lay a).2) (kk : X d k j nx ls (.int (σ.2.2 a i.toNatClampNeg) :: st) σ Q) : X d k j pc ls (.int i :: .ref a :: st) σ Q := by
  subst hn
  intro p l e R s m args below meth c cells slots H locs la q ad A n0 ad0 Qm hC hR hS hl hB hF
  obtain ⟨hx, hb, hr, hml, hown, hts, hlk, hini⟩ := id hC
  obtain ⟨hK, hSK, hA, hP, hD, hSS, hag⟩ := id hS
  have he := WS_at (ad := ad) (cI := q.2.1) (cR := q.2.2.1) ha
  rw [cel_int hc] at he
  exact va_iald hx hb hK hP a 0 he rfl hin hd (kk p l e R s m args below meth c cells slots H locs la q ad A n0 ad0 Qm hC hR hS hl hB hF)
theorem X_aald {a b : Nat} {i : Int32} (hd : decode j.2.1 pc = .ok (.aaload, 1)) (hn : pc + 1 = nx) (ha : a < σ.1) (hc : (lay a).1 = 9) (hin : vp_in i (lay a).2) (hv : σ.2.1 a i.toNatClampNeg = some b) (kk : X d k j nx ls (.ref b :: st) σ Q) : X d k j pc ls (.int i :: .ref a :: st) σ Q := by
  subst hn
  intro p l e R s m args below meth c cells slots H locs la q ad A n0 ad0 Qm hC hR hS hl hB hF
  obtain ⟨hx, hb, hr, hml, hown, hts, hlk, hini⟩ := id hC
  obtain ⟨hK, hSK, hA, hP, hD, hSS, hag⟩ := id hS
  have he := WS_at (ad := ad) (cI := q.2.1) (cR := q.2.2.1) ha
  rw [cel_ref hc] at he
  refine va_aldq (C := RX4) hx hb hK hP a 1 he rfl hin hd ?_
  rw [hv]
  exact kk p l e R s m args below meth c cells slots H locs la q ad A n0 ad0 Qm hC hR hS hl hB hF
theorem X_alen {a : Nat} (hd : decode j.2.1 pc = .ok (.arraylength, 1)) (hn : pc + 1 = nx) (ha : a < σ.1) (hc : (lay a).1 = 8 ∨ (lay a).1 = 9) (kk : X d k j nx ls (.int (nI (lay a).2) :: st) σ Q) : X d k j pc ls (.ref a :: st) σ Q := by
  subst hn
  intro p l e R s m args below meth c cells slots H locs la q ad A n0 ad0 Qm hC hR hS hl hB hF
  obtain ⟨hx, hb, hr, hml, hown, hts, hlk, hini⟩ := id hC
  obtain ⟨hK, hSK, hA, hP, hD, hSS, hag⟩ := id hS
  have he := WS_at (ad := ad) (cI := q.2.1) (cR := q.2.2.1) ha
  rcases hc with hc | hc
  · rw [cel_int hc] at he
    exact va_alen hx hb hK hP a 0 he (ty := .int) rfl rfl hd (kk p l e R s m args below meth c cells slots H locs la q ad A n0 ad0 Qm hC hR hS hl hB hF)
  · rw [cel_ref hc] at he
    exact va_alen hx hb hK hP a 1 he (ty := .object RX4) rfl rfl hd (kk p l e R s m args below meth c cells slots H locs la q ad A n0 ad0 Qm hC hR hS hl hB hF)
theorem X_iast {a : Nat} {i x : Int32} (hd : decode j.2.1 pc = .ok (.iastore, 1)) (hn : pc + 1 = nx) (ha : a < σ.1) (hc : (lay a).1 = 8) (hin : vp_in i (lay a).2) (kk : X d k j nx ls st (σ.1, σ.2.1, up2 σ.2.2 a i.toNatClampNeg x) Q) : X d k j pc ls (.int x :: .int i :: .ref a :: st) σ Q := by
  subst hn
  intro p l e R s m args below meth c cells slots H locs la q ad A n0 ad0 Qm hC hR hS hl hB hF
  obtain ⟨hx, hb, hr, hml, hown, hts, hlk, hini⟩ := id hC
  obtain ⟨hK, hSK, hA, hP, hD, hSS, hag⟩ := id hS
  have he := WS_at (ad := ad) (cI := q.2.1) (cR := q.2.2.1) ha
  rw [cel_int hc] at he
  have hws := WS_set (ad := ad) (cI := q.2.1) (cR := q.2.2.1) (σ := σ) (σ' := (σ.1, σ.2.1, up2 σ.2.2 a i.toNatClampNeg x)) (a := a) (e := .inl (q.2.1, (lay a).2, .inl (upd (σ.2.2 a) i.toNatClampNeg x))) rfl (by rw [cel_int hc, ← up2_row]) (fun b hb' => cel_other rfl (up2_ne hb'))
  have hag' : agr q.2.2.2.1 q.2.2.2.2 (σ.1, σ.2.1, up2 σ.2.2 a i.toNatClampNeg x) := agr_up (Nat.lt_of_lt_of_le ha (Nat.le_trans hB.2.1 hB.2.2.1)) hag
  refine va_iast hx hb hK hP hD hSS a 0 he rfl hin hd (fun H1 locs1 hP1 hD1 hS1 => ?_)
  rw [hws] at hP1 hD1
  exact kk p l e R s m args below meth c cells slots H1 locs1 la q ad A n0 ad0 Qm hC hR ⟨hK, hSK, hA, hP1, hD1, hS1, hag'⟩ hl hB hF
theorem X_sld {a n : Nat} {f : Nat → Int32} {i : Int32} (hd : decode j.2.1 pc = .ok (.iaload, 1)) (hn : pc + 1 = nx) (hs : ∀ xs L, sarr xs L a = some (n, f)) (hin : vp_in i n) (kk : X d k j nx ls (.int (f i.toNatClampNeg) :: st) σ Q) : X d k j pc ls (.int i :: .ref a :: st) σ Q := by
  subst hn
  intro p l e R s m args below meth c cells slots H locs la q ad A n0 ad0 Qm hC hR hS hl hB hF
  obtain ⟨hx, hb, hr, hml, hown, hts, hlk, hini⟩ := id hC
  obtain ⟨hK, hSK, hA, hP, hD, hSS, hag⟩ := id hS
  exact va_ti hx hb (hSK.1 a n f (hs _ _)) hSS hin rfl hd (kk p l e R s m args below meth c cells slots H locs la q ad A n0 ad0 Qm hC hR hS hl hB hF)
theorem X_slen {a n : Nat} {f : Nat → Int32} (hd : decode j.2.1 pc = .ok (.arraylength, 1)) (hn : pc + 1 = nx) (hs : ∀ xs L, sarr xs L a = some (n, f)) (kk : X d k j nx ls (.int (nI n) :: st) σ Q) : X d k j pc ls (.ref a :: st) σ Q := by
  subst hn
  intro p l e R s m args below meth c cells slots H locs la q ad A n0 ad0 Qm hC hR hS hl hB hF
  obtain ⟨hx, hb, hr, hml, hown, hts, hlk, hini⟩ := id hC
  obtain ⟨hK, hSK, hA, hP, hD, hSS, hag⟩ := id hS
  exact va_tlen hx hb (hSK.1 a n f (hs _ _)) hSS rfl hd (kk p l e R s m args below meth c cells slots H locs la q ad A n0 ad0 Qm hC hR hS hl hB hF)
theorem X_xld {i : Int32} (hd : decode j.2.1 pc = .ok (.iaload, 1)) (hn : pc + 1 = nx) (hin : vp_in i (σ.2.2 2004 0).toNatClampNeg) (kk : X d k j nx ls (.int (σ.2.2 2003 i.toNatClampNeg) :: st) σ Q) : X d k j pc ls (.int i :: .ref 2003 :: st) σ Q := by
  subst hn
  intro p l e R s m args below meth c cells slots H locs la q ad A n0 ad0 Qm hC hR hS hl hB hF
  obtain ⟨hx, hb, hr, hml, hown, hts, hlk, hini⟩ := id hC
  obtain ⟨hK, hSK, hA, hP, hD, hSS, hag⟩ := id hS
  obtain ⟨g1, g2, g3⟩ := id hag
  rw [g2, nI_clamp (by omega)] at hin
  rw [g1] at kk
  exact va_ti hx hb (hSK.1 2003 q.2.2.2.2 q.2.2.2.1 rfl) hSS hin rfl hd (kk p l e R s m args below meth c cells slots H locs la q ad A n0 ad0 Qm hC hR hS hl hB hF)
theorem X_xlen (hd : decode j.2.1 pc = .ok (.arraylength, 1)) (hn : pc + 1 = nx) (kk : X d k j nx ls (.int (σ.2.2 2004 0) :: st) σ Q) : X d k j pc ls (.ref 2003 :: st) σ Q := by
  subst hn
  intro p l e R s m args below meth c cells slots H locs la q ad A n0 ad0 Qm hC hR hS hl hB hF
  obtain ⟨hx, hb, hr, hml, hown, hts, hlk, hini⟩ := id hC
  obtain ⟨hK, hSK, hA, hP, hD, hSS, hag⟩ := id hS
  rw [hag.2.1] at kk
  exact va_tlen hx hb (hSK.1 2003 q.2.2.2.2 q.2.2.2.1 rfl) hSS rfl hd (kk p l e R s m args below meth c cells slots H locs la q ad A n0 ad0 Qm hC hR hS hl hB hF)
theorem X_gs_fos {idx : Nat} (hd : decode j.2.1 pc = .ok (.getstatic idx, 3)) (hn : pc + 3 = nx) (hw : Cond.fieldLink j.1.cls idx RX1 zF "[I" ∈ big) (kk : X d k j nx ls (.ref 2000 :: st) σ Q) : X d k j pc ls st σ Q := by
  subst hn
  intro p l e R s m args below meth c cells slots H locs la q ad A n0 ad0 Qm hC hR hS hl hB hF
  obtain ⟨hx, hb, hr, hml, hown, hts, hlk, hini⟩ := id hC
  obtain ⟨hK, hSK, hA, hP, hD, hSS, hag⟩ := id hS
  exact va_gets hx hb hSK.2.1.1 hSS hown (hts _ hw) (fun _ h => h) hd (kk p l e R s m args below meth c cells slots H locs la q ad A n0 ad0 Qm hC hR hS hl hB hF)
theorem X_gs_ord {idx : Nat} (hd : decode j.2.1 pc = .ok (.getstatic idx, 3)) (hn : pc + 3 = nx) (hw : Cond.fieldLink j.1.cls idx RX8 "ORDERS" "[I" ∈ big) (kk : X d k j nx ls (.ref 2001 :: st) σ Q) : X d k j pc ls st σ Q := by
  subst hn
  intro p l e R s m args below meth c cells slots H locs la q ad A n0 ad0 Qm hC hR hS hl hB hF
  obtain ⟨hx, hb, hr, hml, hown, hts, hlk, hini⟩ := id hC
  obtain ⟨hK, hSK, hA, hP, hD, hSS, hag⟩ := id hS
  exact va_gets hx hb hSK.2.1.2.1 hSS hown (hts _ hw) (fun _ h => h) hd (kk p l e R s m args below meth c cells slots H locs la q ad A n0 ad0 Qm hC hR hS hl hB hF)
theorem X_gs_srv {idx : Nat} (hd : decode j.2.1 pc = .ok (.getstatic idx, 3)) (hn : pc + 3 = nx) (hw : Cond.fieldLink j.1.cls idx RX8 "SERVED" "[I" ∈ big) (kk : X d k j nx ls (.ref 2002 :: st) σ Q) : X d k j pc ls st σ Q := by
  subst hn
  intro p l e R s m args below meth c cells slots H locs la q ad A n0 ad0 Qm hC hR hS hl hB hF
  obtain ⟨hx, hb, hr, hml, hown, hts, hlk, hini⟩ := id hC
  obtain ⟨hK, hSK, hA, hP, hD, hSS, hag⟩ := id hS
  exact va_gets hx hb hSK.2.1.2.2.1 hSS hown (hts _ hw) (fun _ h => h) hd (kk p l e R s m args below meth c cells slots H locs la q ad A n0 ad0 Qm hC hR hS hl hB hF)
theorem X_gs_cmp {idx : Nat} (hd : decode j.2.1 pc = .ok (.getstatic idx, 3)) (hn : pc + 3 = nx) (hw : Cond.fieldLink j.1.cls idx "java/lang/String" "COMPACT_STRINGS" "Z" ∈ big) (kk : X d k j nx ls (.int 1 :: st) σ Q) : X d k j pc ls st σ Q := by
  subst hn
  intro p l e R s m args below meth c cells slots H locs la q ad A n0 ad0 Qm hC hR hS hl hB hF
  obtain ⟨hx, hb, hr, hml, hown, hts, hlk, hini⟩ := id hC
  obtain ⟨hK, hSK, hA, hP, hD, hSS, hag⟩ := id hS
  exact va_gets hx hb hSK.2.1.2.2.2 hSS hown (hts _ hw) (fun _ h => h) hd (kk p l e R s m args below meth c cells slots H locs la q ad A n0 ad0 Qm hC hR hS hl hB hF)
theorem X_gs_sio {idx : Nat} (hd : decode j.2.1 pc = .ok (.getstatic idx, 3)) (hn : pc + 3 = nx) (hw : Cond.fieldLink j.1.cls idx "jdk/internal/util/Preconditions" "SIOOBE_FORMATTER" zB ∈ big) (k1 : X d k j nx ls (.null :: st) σ Q) (k2 : X d k j nx ls (.ref 2030 :: st) σ Q) : X d k j pc ls st σ Q := by
  subst hn
  intro p l e R s m args below meth c cells slots H locs la q ad A n0 ad0 Qm hC hR hS hl hB hF
  obtain ⟨hx, hb, hr, hml, hown, hts, hlk, hini⟩ := id hC
  obtain ⟨hK, hSK, hA, hP, hD, hSS, hag⟩ := id hS
  rcases hSK.2.2.1 with hz | hz
  · exact va_gets hx hb hz hSS hown (hts _ hw) (fun _ h => h) hd (k1 p l e R s m args below meth c cells slots H locs la q ad A n0 ad0 Qm hC hR hS hl hB hF)
  · exact va_gets hx hb hz hSS hown (hts _ hw) (fun _ h => h) hd (k2 p l e R s m args below meth c cells slots H locs la q ad A n0 ad0 Qm hC hR hS hl hB hF)
theorem X_ldcS {i idx : Nat} (hd : decode j.2.1 pc = .ok (.ldc idx, 2)) (hn : pc + 2 = nx) (hi : i < 4) (hix : idx = 99 + 2 * i) (hj : j.1.cls = RX6) (kk : X d k j nx ls (.ref (2010 + i) :: st) σ Q) : X d k j pc ls st σ Q := by
  subst hn; subst hix
  intro p l e R s m args below meth c cells slots H locs la q ad A n0 ad0 Qm hC hR hS hl hB hF
  obtain ⟨hx, hb, hr, hml, hown, hts, hlk, hini⟩ := id hC
  obtain ⟨hK, hSK, hA, hP, hD, hSS, hag⟩ := id hS
  rw [hj] at hown
  exact va_ldcS hx hb hown (hSK.2.2.2.2.1 i hi) hd (kk p l e R s m args below meth c cells slots H locs la q ad A n0 ad0 Qm hC hR hS hl hB hF)
theorem X_strV {i idx : Nat} (hd : decode j.2.1 pc = .ok (.getfield idx, 3)) (hn : pc + 3 = nx) (hi : i < 4) (hw : Cond.fieldLink j.1.cls idx "java/lang/String" "value" "[B" ∈ big) (kk : X d k j nx ls (.ref (2020 + i) :: st) σ Q) : X d k j pc ls (.ref (2010 + i) :: st) σ Q := by
  subst hn
  intro p l e R s m args below meth c cells slots H locs la q ad A n0 ad0 Qm hC hR hS hl hB hF
  obtain ⟨hx, hb, hr, hml, hown, hts, hlk, hini⟩ := id hC
  obtain ⟨hK, hSK, hA, hP, hD, hSS, hag⟩ := id hS
  exact vk_getf hx hb (hSK.2.2.2.1.1 i hi).2.2.1 hSS hown (hts _ hw) (fun _ h => h) hd (kk p l e R s m args below meth c cells slots H locs la q ad A n0 ad0 Qm hC hR hS hl hB hF)
theorem X_strC {i idx : Nat} (hd : decode j.2.1 pc = .ok (.getfield idx, 3)) (hn : pc + 3 = nx) (hi : i < 4) (hw : Cond.fieldLink j.1.cls idx "java/lang/String" "coder" "B" ∈ big) (kk : X d k j nx ls (.int 0 :: st) σ Q) : X d k j pc ls (.ref (2010 + i) :: st) σ Q := by
  subst hn
  intro p l e R s m args below meth c cells slots H locs la q ad A n0 ad0 Qm hC hR hS hl hB hF
  obtain ⟨hx, hb, hr, hml, hown, hts, hlk, hini⟩ := id hC
  obtain ⟨hK, hSK, hA, hP, hD, hSS, hag⟩ := id hS
  exact vk_getf hx hb (hSK.2.2.2.1.1 i hi).2.1 hSS hown (hts _ hw) (fun _ h => h) hd (kk p l e R s m args below meth c cells slots H locs la q ad A n0 ad0 Qm hC hR hS hl hB hF)
theorem X_bald {i : Nat} {x : Int32} (hd : decode j.2.1 pc = .ok (.baload, 1)) (hn : pc + 1 = nx) (hi : i < 4) (hin : vp_in x (lenS.getD i 0)) (kk : X d k j nx ls (.int ((bytS.getD i []).getD x.toNatClampNeg 0) :: st) σ Q) : X d k j pc ls (.int x :: .ref (2020 + i) :: st) σ Q := by
  subst hn
  intro p l e R s m args below meth c cells slots H locs la q ad A n0 ad0 Qm hC hR hS hl hB hF
  obtain ⟨hx, hb, hr, hml, hown, hts, hlk, hini⟩ := id hC
  obtain ⟨hK, hSK, hA, hP, hD, hSS, hag⟩ := id hS
  exact va_tb hx hb (hSK.2.2.2.1.1 i hi).2.2.2 hSS hin rfl hd (kk p l e R s m args below meth c cells slots H locs la q ad A n0 ad0 Qm hC hR hS hl hB hF)
theorem X_blen {i : Nat} (hd : decode j.2.1 pc = .ok (.arraylength, 1)) (hn : pc + 1 = nx) (hi : i < 4) (kk : X d k j nx ls (.int (nI (lenS.getD i 0)) :: st) σ Q) : X d k j pc ls (.ref (2020 + i) :: st) σ Q := by
  subst hn
  intro p l e R s m args below meth c cells slots H locs la q ad A n0 ad0 Qm hC hR hS hl hB hF
  obtain ⟨hx, hb, hr, hml, hown, hts, hlk, hini⟩ := id hC
  obtain ⟨hK, hSK, hA, hP, hD, hSS, hag⟩ := id hS
  exact va_tlen hx hb (hSK.2.2.2.1.1 i hi).2.2.2 hSS rfl hd (kk p l e R s m args below meth c cells slots H locs la q ad A n0 ad0 Qm hC hR hS hl hB hF)
end MROWS
end
section
/-! CALLS -/
def okR (n k : Nat) : Value → Prop
  | .ref a => ¬ (n ≤ a ∧ a < k)
  | _ => True
theorem tr_ok {ad ad' : Nat → Nat} {n k : Nat} (had : ∀ a, ¬ (n ≤ a ∧ a < k) → ad' a = ad a) {v : Value} (h : okR n k v) : tr ad' v = tr ad v := by
  cases v <;> first | rfl | exact congrArg Value.ref (had _ h)
theorem trl_ok {ad ad' : Nat → Nat} {n k : Nat} (had : ∀ a, ¬ (n ≤ a ∧ a < k) → ad' a = ad a) {l : List Value} (h : ∀ v ∈ l, okR n k v) : l.map (tr ad') = l.map (tr ad) :=
  List.map_congr_left fun v hv => tr_ok had (h v hv)
theorem asc_ok {ad ad' : Nat → Nat} {n k : Nat} (had : ∀ a, ¬ (n ≤ a ∧ a < k) → ad' a = ad a) {l : List (Option Value)} (h : ∀ v, some v ∈ l → okR n k v) : ∀ i, asc ad' i l = asc ad i l := by
  induction l with
  | nil => intro i; rfl
  | cons x l ih =>
    intro i
    have ih' := ih (fun v hv => h v (List.mem_cons_of_mem _ hv))
    cases x with
    | none => exact ih' (i + 1)
    | some v =>
      show (i, tr ad' v) :: _ = (i, tr ad v) :: _
      rw [ih' (i + 1), tr_ok had (h v List.mem_cons_self)]
def KJ (j : MI) (n : Nat) : Prop := Cond.code j.1 j.2.1 j.2.2.1 j.2.2.2 ∈ big ∧ Cond.initialized j.1.cls ∈ big ∧ j.2.2.1 ≤ 21 ∧ (j.1.cls ≠ "java/lang/invoke/MethodHandle" ∧ j.1.cls ≠ "java/lang/invoke/VarHandle" ∧ (parseMethodDescriptor j.1.desc).map (fun d => d.parameters.length) = some n)
def ML (own : String) (idx : Nat) (j : MI) : Prop := Cond.methodLink own idx j.1 ∈ big ∨ ∃ host, Cond.methodLinkNest own idx j.1 host ∈ lw_tbl
theorem good_big {w : Cond} (h : w ∈ big) : w ∈ big ∧ ((w.onTables && w.keeps) = true ∨ ∃ ty, w = .arrayClass ty) := ⟨h, good_of_word (List.mem_filter.mp h).2⟩
theorem goodIn_ws {j : MI} (h : Cond.code j.1 j.2.1 j.2.2.1 j.2.2.2 ∈ big) : GoodIn big (ws_ j) := fun w hw => by
  rcases List.mem_cons.mp hw with rfl | hw
  · exact good_big h
  · exact good_big hw
theorem PE_blind {q : CC} {ad : Nat → Nat} {σ : Wd} {sz : Nat} {av : List Value} : FrameBlind (va_Pc av (PE q ad σ sz)) := by
  intro a U g mk h
  obtain ⟨h1, hsz, hP, hK, hD, hSK, hag⟩ := h
  exact ⟨h1, hsz, hP, va_K.moved (u := U) (U := U.calling g mk a) (Vm.Alike.refl U.vm) hK, hD, hSK.blind, hag⟩
section CALL
variable {p : Program} {l : Launch} {e : Env} {R : Room} {s : State} {m : MethodId} {args : Array Value} {below : List Frame} {meth : Method} {c : Code} {cells slots : Nat} {H : Heap} {locs : List Loc} {la : Array Slot} {q : CC} {ad : Nat → Nat} {A : Nat → Prop} {n0 : Nat} {ad0 : Nat → Nat} {Qm : State → Prop}
variable {d k k' pc : Nat} {j : MI} {ls : List (Option Value)} {rest st0 : List Value} {σ : Wd} {Q Q' : List Value → Wd → Prop} {av : Array Value}
theorem Sx_in (hS : Sx q ad A s σ H locs) : ∀ a, va_A (ws0 q ad σ) H.size a → A a := by
  obtain ⟨hK, hSK, hA, hP, hD, hSS, hag⟩ := hS
  intro a h
  rcases h with ⟨i, e, h⟩ | h
  · exact hD.2 i (a, e) h
  · exact hA a (Nat.le_trans hSS.1 h)
theorem PE_pre (hS : Sx q ad A s σ H locs) {As : List Value} {U : State} (hU : U.heap = H) (hW : s.WarmedH U.vm) : va_Pc As (PE q ad σ H.size) As.toArray U := by
  have hin := Sx_in hS
  obtain ⟨hK, hSK, hA, hP, hD, hSS, hag⟩ := hS
  exact ⟨rfl, by rw [hU], by rw [hU]; exact hP, va_K.moved hW.alike hK, hD.weaken (fun _ _ _ _ => trivial), hSK.at hW hU hSS hin, hag⟩
set_option maxHeartbeats 1000000 in
theorem call_end (hC : Cx p s m args meth c j) (hR : d ≤ R.frames ∧ 40 * d ≤ R.locals) (hS : Sx q ad A s σ H locs) (hl : lv_has la j.2.2.1 (asc ad 0 ls)) (hB : Bd n0 ad0 k R cells slots σ ad) (hF : Fi_ p l e R s m args below meth c Qm q A n0 ad0 k j Q) (hk1 : σ.1 ≤ k') (hk2 : k' ≤ k) (hok : σ.1 = k' ∨ ((∀ v ∈ rest, okR σ.1 k' v) ∧ ∀ v, some v ∈ ls → okR σ.1 k' v))
    (hr : va_Run p l e R s m args below meth c H locs cells slots (k' - σ.1) (SZ k' - SZ σ.1) (F0 m pc la st0) (rest.map (tr ad)) (QE q (va_A (ws0 q ad σ) H.size) ad σ.1 k' Q' av) (va_A (ws0 q ad σ) H.size))
    (kk : ∀ vs σ', Q' vs σ' → X d k j (pc + 3) ls (vs ++ rest) σ' Q) : W p l e R s m args below meth c H locs cells slots Qm (F0 m pc la st0) := by
  have hin := Sx_in hS
  obtain ⟨hK, hSK, hA, hP, hD, hSS, hag⟩ := id hS
  obtain ⟨b1, b2, b3, b4, b5, b6⟩ := hB
  intro T hT XX
  obtain ⟨v, st₀, t, T', L, h0, X', hL, e1, e2, ⟨⟨vs, σ', ad', hv, hlen, hQ', hn', had, hP1, hD1, hag1⟩, hz, hkp⟩, stp⟩ := hr T hT XX
  rw [h0] at hz hkp
  have hz' : H.size ≤ T'.heap.size := by rw [e1]; exact hz
  have hkp' : ∀ a : Nat, a < H.size → ¬ va_A (ws0 q ad σ) H.size a → T'.heap[a]? = H[a]? := fun a h1 h2 => by rw [e1]; exact hkp a h1 h2
  have er : rest.map (tr ad') = rest.map (tr ad) ∧ asc ad' 0 ls = asc ad 0 ls := by
    rcases hok with h | h
    · have : ad' = ad := funext fun a => had a (by omega)
      rw [this]; exact ⟨rfl, rfl⟩
    · exact ⟨trl_ok had h.1, asc_ok had h.2 0⟩
  have hs1 := SZ_mono hk1
  have hs2 := SZ_mono hk2
  have hW := kk vs σ' hQ' p l e R s m args below meth c (cells + (k' - σ.1)) (slots + (SZ k' - SZ σ.1)) T'.heap (locs ++ L) la q ad' A n0 ad0 Qm hC hR
    ⟨hK, SK.ad hSK (fun a ha => had a (by omega)), hA, by rw [e1]; exact hP1, hD1.weaken (fun _ x _ h => hin x.1 h), ⟨Nat.le_trans hSS.1 hz', fun a h1 h2 => by rw [hkp' a (Nat.lt_of_lt_of_le h1 hSS.1) (fun h => h2 (hin a h))]; exact hSS.2.1 a h1 h2, fun x hx => by
      rcases List.mem_append.mp hx with h | h
      · exact hSS.2.2 x h
      · exact hin _ (hL x h)⟩, hag1⟩
    (by rw [er.2]; exact hl) ⟨by omega, by omega, b3, by rw [hn']; omega, by rw [hn']; omega, fun a ha => by rw [had a (by omega)]; exact b6 a ha⟩ hF
  have ev : v.toList = vs.map (tr ad') := by
    have hv2 : v = (vs.map (tr ad')).head? := by injection hv
    rw [hv2]
    match vs, hlen with
    | [], _ => rfl
    | [x], _ => rfl
    | _ :: _ :: _, h => simp at h
  have eS : (vs ++ rest).map (tr ad') = v.toList ++ rest.map (tr ad) := by rw [List.map_append, er.1, ev]
  rw [eS] at hW
  obtain ⟨t2, a1, c1⟩ := hW T' rfl X'
  exact ⟨t2, stp t2 a1, c1⟩
end CALL
section CROWS
variable {d d' k k' pc nx idx n : Nat} {j j' : MI} {ls : List (Option Value)} {st As rest : List Value} {σ : Wd} {Q Q' : List Value → Wd → Prop}
theorem rooms {R : Room} {mc ms maxL : Nat} (hR : d ≤ R.frames ∧ 40 * d ≤ R.locals) (hd : d' < d) (hm : maxL ≤ 21) : ({ frames := d', cells := mc, slots := ms, locals := 40 * d' } : Room).frames + 1 ≤ R.frames ∧ 8 + (maxL + 11) + ({ frames := d', cells := mc, slots := ms, locals := 40 * d' } : Room).locals ≤ R.locals := by
  refine ⟨?_, ?_⟩
  · show d' + 1 ≤ R.frames; omega
  · show 8 + (maxL + 11) + 40 * d' ≤ R.locals; omega
theorem cat_map {ad : Nat → Nat} (l : List Value) : ((l.map (tr ad)).map fun v => v.category) = l.map fun v => v.category := by
  rw [List.map_map]
  exact List.map_congr_left fun v _ => tr_cat ad v
theorem X_callS (hd : decode j.2.1 pc = .ok (.invokestatic idx, 3)) (hn : pc + 3 = nx) (hl0 : ML j.1.cls idx j') (hj : KJ j' n) (hv : Cond.static j'.1 ∈ big) (hE : E d' k' j' As σ Q') (hst : st = As.reverse ++ rest) (hd' : d' < d) (hlen : As.length = n) (hcat : (rest.map fun v => v.category).sum ≤ 8) (hk1 : σ.1 ≤ k') (hk2 : k' ≤ k) (hok : σ.1 = k' ∨ ((∀ v ∈ rest, okR σ.1 k' v) ∧ ∀ v, some v ∈ ls → okR σ.1 k' v)) (kk : ∀ vs σ', Q' vs σ' → X d k j nx ls (vs ++ rest) σ' Q) : X d k j pc ls st σ Q := by
  subst hn; subst hst
  intro p l e R s m args below meth c cells slots H locs la q ad A n0 ad0 Qm hC hR hS hl hB hF
  obtain ⟨hx, hb, hr, hml, hown, hts, hlk, hini⟩ := id hC
  obtain ⟨hK, hSK, hA, hP, hD, hSS, hag⟩ := id hS
  obtain ⟨k1, k2, k3, k4⟩ := hj
  have hs1 := SZ_mono hk1
  have hs2 := SZ_mono hk2
  have hf : cells + (k' - σ.1) ≤ R.cells ∧ slots + (SZ k' - SZ σ.1) ≤ R.slots := ⟨by have := hB.2.2.2.1; omega, by have := hB.2.2.2.2.1; omega⟩
  have hroom : 2 * (F0 m pc la ((As.reverse ++ rest).map (tr ad))).monitorRoom + ((rest.map (tr ad)).map fun v => v.category).sum ≤ 8 := lv_room (by rw [cat_map]; exact hcat)
  have hstk : (As.reverse ++ rest).map (tr ad) = (As.map (tr ad)).reverse ++ rest.map (tr ad) := by simp [List.map_append, List.map_reverse, tr]
  rcases hl0 with hl0 | ⟨host, hl0⟩
  · exact call_end hC hR hS hl hB hF hk1 hk2 hok (va_runS (As := As.map (tr ad)) (rest := rest.map (tr ad)) ⟨hx, hb, hml, hown, hts⟩ (hE l q ad H.size) ⟨callB_of n hts (goodIn_ws k1) rfl rfl rfl (hts _ k2) (hts _ hl0) k4 (rooms hR hd' k3), hts _ hv⟩ ⟨PE_blind, fun U hU hW => PE_pre hS hU hW⟩ rfl (by rw [List.length_map]; exact hlen) hl.1 hstk hroom hd hf) kk
  · exact call_end hC hR hS hl hB hF hk1 hk2 hok (va_runSN (As := As.map (tr ad)) (rest := rest.map (tr ad)) ⟨hx, hb, hml, hown, hts⟩ (hE l q ad H.size) ⟨va_cnB n hts (goodIn_ws k1) rfl rfl rfl (hSK.2.2.2.2.2.1 _ hl0 rfl) (hts _ k2) k4 (rooms hR hd' k3), hts _ hv, trivial⟩ ⟨PE_blind, fun U hU hW => PE_pre hS hU hW⟩ rfl (by rw [List.length_map]; exact hlen) hl.1 hstk hroom hd hf) kk
theorem X_callV {a ci : Nat} {T : u_T} {N : Nat} (hd : decode j.2.1 pc = .ok (.invokevirtual idx, 3)) (hn : pc + 3 = nx) (hl0 : ML j.1.cls idx j') (hj : KJ j' n) (hv : Cond.instanceMethod j'.1 ∈ big ∧ Cond.selects j'.1.cls j'.1 j'.1 ∈ big) (ha : a < σ.1) (hc : (lay a).1 = ci) (hc8 : ci < 8) (hcl : vwCl[ci]? = some (j'.1.cls, T, N)) (hE : E d' k' j' (.ref a :: As) σ Q') (hst : st = As.reverse ++ .ref a :: rest) (hd' : d' < d) (hlen : As.length = n) (hcat : (rest.map fun v => v.category).sum ≤ 8) (hk1 : σ.1 ≤ k') (hk2 : k' ≤ k) (hok : σ.1 = k' ∨ ((∀ v ∈ rest, okR σ.1 k' v) ∧ ∀ v, some v ∈ ls → okR σ.1 k' v)) (kk : ∀ vs σ', Q' vs σ' → X d k j nx ls (vs ++ rest) σ' Q) : X d k j pc ls st σ Q := by
  subst hn; subst hst
  intro p l e R s m args below meth c cells slots H locs la q ad A n0 ad0 Qm hC hR hS hl hB hF
  obtain ⟨hx, hb, hr, hml, hown, hts, hlk, hini⟩ := id hC
  obtain ⟨hK, hSK, hA, hP, hD, hSS, hag⟩ := id hS
  obtain ⟨k1, k2, k3, k4⟩ := hj
  have hs1 := SZ_mono hk1
  have hs2 := SZ_mono hk2
  have hf : cells + (k' - σ.1) ≤ R.cells ∧ slots + (SZ k' - SZ σ.1) ≤ R.slots := ⟨by have := hB.2.2.2.1; omega, by have := hB.2.2.2.2.1; omega⟩
  have hroom : 2 * (F0 m pc la ((As.reverse ++ .ref a :: rest).map (tr ad))).monitorRoom + ((rest.map (tr ad)).map fun v => v.category).sum ≤ 8 := lv_room (by rw [cat_map]; exact hcat)
  have hstk : (As.reverse ++ .ref a :: rest).map (tr ad) = (As.map (tr ad)).reverse ++ .ref (ad a) :: rest.map (tr ad) := by simp [List.map_append, List.map_reverse, tr]
  have he := WS_at (ad := ad) (cI := q.2.1) (cR := q.2.2.1) ha
  rw [cel_obj hc hc8] at he
  have hrecv := va_recv hK hP hcl he
  rcases hl0 with hl0 | ⟨host, hl0⟩
  · exact call_end hC hR hS hl hB hF hk1 hk2 hok (va_runV (C := j'.1.cls) (As := As.map (tr ad)) (rest := rest.map (tr ad)) ⟨hx, hb, hml, hown, hts⟩ (hE l q ad H.size) ⟨callB_of n hts (goodIn_ws k1) rfl rfl rfl (hts _ k2) (hts _ hl0) k4 (rooms hR hd' k3), hts _ hv.1, hts _ hv.2⟩ ⟨PE_blind, hrecv, fun U hU hW => PE_pre hS hU hW⟩ rfl (by rw [List.length_map]; exact hlen) hl.1 hstk hroom hd hf) kk
  · exact call_end hC hR hS hl hB hF hk1 hk2 hok (va_runVN (C := j'.1.cls) (As := As.map (tr ad)) (rest := rest.map (tr ad)) ⟨hx, hb, hml, hown, hts⟩ (hE l q ad H.size) ⟨va_cnB n hts (goodIn_ws k1) rfl rfl rfl (hSK.2.2.2.2.2.1 _ hl0 rfl) (hts _ k2) k4 (rooms hR hd' k3), hts _ hv.1, hts _ hv.2⟩ ⟨PE_blind, hrecv, fun U hU hW => PE_pre hS hU hW⟩ rfl (by rw [List.length_map]; exact hlen) hl.1 hstk hroom hd hf) kk
theorem X_callT {i : Nat} (hd : decode j.2.1 pc = .ok (.invokevirtual idx, 3)) (hn : pc + 3 = nx) (hl0 : ML j.1.cls idx j') (hj : KJ j' n) (hv : Cond.instanceMethod j'.1 ∈ big ∧ Cond.selects j'.1.cls j'.1 j'.1 ∈ big) (hi : i < 4) (hcl : j'.1.cls = "java/lang/String") (hE : E d' k' j' (.ref (2010 + i) :: As) σ Q') (hst : st = As.reverse ++ .ref (2010 + i) :: rest) (hd' : d' < d) (hlen : As.length = n) (hcat : (rest.map fun v => v.category).sum ≤ 8) (hk1 : σ.1 ≤ k') (hk2 : k' ≤ k) (hok : σ.1 = k' ∨ ((∀ v ∈ rest, okR σ.1 k' v) ∧ ∀ v, some v ∈ ls → okR σ.1 k' v)) (kk : ∀ vs σ', Q' vs σ' → X d k j nx ls (vs ++ rest) σ' Q) : X d k j pc ls st σ Q := by
  subst hn; subst hst
  intro p l e R s m args below meth c cells slots H locs la q ad A n0 ad0 Qm hC hR hS hl hB hF
  obtain ⟨hx, hb, hr, hml, hown, hts, hlk, hini⟩ := id hC
  obtain ⟨hK, hSK, hA, hP, hD, hSS, hag⟩ := id hS
  obtain ⟨k1, k2, k3, k4⟩ := hj
  have hs1 := SZ_mono hk1
  have hs2 := SZ_mono hk2
  have hf : cells + (k' - σ.1) ≤ R.cells ∧ slots + (SZ k' - SZ σ.1) ≤ R.slots := ⟨by have := hB.2.2.2.1; omega, by have := hB.2.2.2.2.1; omega⟩
  have hroom : 2 * (F0 m pc la ((As.reverse ++ .ref (2010 + i) :: rest).map (tr ad))).monitorRoom + ((rest.map (tr ad)).map fun v => v.category).sum ≤ 8 := lv_room (by rw [cat_map]; exact hcat)
  have hstk : (As.reverse ++ .ref (2010 + i) :: rest).map (tr ad) = (As.map (tr ad)).reverse ++ .ref (ad (2010 + i)) :: rest.map (tr ad) := by simp [List.map_append, List.map_reverse, tr]
  have hrecv := vk_recv hSK.2.2.2.1 hi hSS
  rw [← hcl] at hrecv
  rcases hl0 with hl0 | ⟨host, hl0⟩
  · exact call_end hC hR hS hl hB hF hk1 hk2 hok (va_runV (C := j'.1.cls) (As := As.map (tr ad)) (rest := rest.map (tr ad)) ⟨hx, hb, hml, hown, hts⟩ (hE l q ad H.size) ⟨callB_of n hts (goodIn_ws k1) rfl rfl rfl (hts _ k2) (hts _ hl0) k4 (rooms hR hd' k3), hts _ hv.1, hts _ hv.2⟩ ⟨PE_blind, hrecv, fun U hU hW => PE_pre hS hU hW⟩ rfl (by rw [List.length_map]; exact hlen) hl.1 hstk hroom hd hf) kk
  · exact call_end hC hR hS hl hB hF hk1 hk2 hok (va_runVN (C := j'.1.cls) (As := As.map (tr ad)) (rest := rest.map (tr ad)) ⟨hx, hb, hml, hown, hts⟩ (hE l q ad H.size) ⟨va_cnB n hts (goodIn_ws k1) rfl rfl rfl (hSK.2.2.2.2.2.1 _ hl0 rfl) (hts _ k2) k4 (rooms hR hd' k3), hts _ hv.1, hts _ hv.2⟩ ⟨PE_blind, hrecv, fun U hU hW => PE_pre hS hU hW⟩ rfl (by rw [List.length_map]; exact hlen) hl.1 hstk hroom hd hf) kk
theorem X_callI {a : Nat} (hd : decode j.2.1 pc = .ok (.invokespecial idx, 3)) (hn : pc + 3 = nx) (hl0 : ML j.1.cls idx j') (hj : KJ j' n) (hv : Cond.instanceMethod j'.1 ∈ big) (hnm : j'.1.name = "<init>") (hret : j'.2.2.2 = none) (hE : E d' k' j' (.ref a :: As) σ Q') (hst : st = As.reverse ++ .ref a :: rest) (hd' : d' < d) (hlen : As.length = n) (hcat : (rest.map fun v => v.category).sum ≤ 8) (hk1 : σ.1 ≤ k') (hk2 : k' ≤ k) (hok : σ.1 = k' ∨ ((∀ v ∈ rest, okR σ.1 k' v) ∧ ∀ v, some v ∈ ls → okR σ.1 k' v)) (kk : ∀ vs σ', Q' vs σ' → X d k j nx ls (vs ++ rest) σ' Q) : X d k j pc ls st σ Q := by
  subst hn; subst hst
  intro p l e R s m args below meth c cells slots H locs la q ad A n0 ad0 Qm hC hR hS hl hB hF
  obtain ⟨hx, hb, hr, hml, hown, hts, hlk, hini⟩ := id hC
  obtain ⟨hK, hSK, hA, hP, hD, hSS, hag⟩ := id hS
  obtain ⟨k1, k2, k3, k4⟩ := hj
  have hs1 := SZ_mono hk1
  have hs2 := SZ_mono hk2
  have hf : cells + (k' - σ.1) ≤ R.cells ∧ slots + (SZ k' - SZ σ.1) ≤ R.slots := ⟨by have := hB.2.2.2.1; omega, by have := hB.2.2.2.2.1; omega⟩
  have hroom : 2 * (F0 m pc la ((As.reverse ++ .ref a :: rest).map (tr ad))).monitorRoom + ((rest.map (tr ad)).map fun v => v.category).sum ≤ 8 := lv_room (by rw [cat_map]; exact hcat)
  have hstk : (As.reverse ++ .ref a :: rest).map (tr ad) = (As.map (tr ad)).reverse ++ .ref (ad a) :: rest.map (tr ad) := by simp [List.map_append, List.map_reverse, tr]
  obtain ⟨y', c', m', r'⟩ := j'
  dsimp only at hret hnm
  subst hret
  rcases hl0 with hl0 | ⟨host, hl0⟩
  · exact call_end hC hR hS hl hB hF hk1 hk2 hok (va_runI (As := As.map (tr ad)) (rest := rest.map (tr ad)) ⟨hx, hb, hml, hown, hts⟩ (hE l q ad H.size) ⟨callB_of n hts (goodIn_ws k1) rfl rfl rfl (hts _ k2) (hts _ hl0) k4 (rooms hR hd' k3), hnm, hts _ hv⟩ ⟨PE_blind, fun U hU hW => PE_pre hS hU hW⟩ rfl (by rw [List.length_map]; exact hlen) hl.1 hstk hroom hd hf) kk
  · exact call_end hC hR hS hl hB hF hk1 hk2 hok (va_runIN (As := As.map (tr ad)) (rest := rest.map (tr ad)) ⟨hx, hb, hml, hown, hts⟩ (hE l q ad H.size) ⟨va_cnB n hts (goodIn_ws k1) rfl rfl rfl (hSK.2.2.2.2.2.1 _ hl0 rfl) (hts _ k2) k4 (rooms hR hd' k3), hnm, hts _ hv⟩ ⟨PE_blind, fun U hU hW => PE_pre hS hU hW⟩ rfl (by rw [List.length_map]; exact hlen) hl.1 hstk hroom hd hf) kk
end CROWS
end
section
/-! CELLS ARE MADE -/
/-- one cell more, empty -/
def newW (σ : Wd) : Wd := (σ.1 + 1, (fun a => if a = σ.1 then (fun _ => none) else σ.2.1 a), (fun a => if a = σ.1 then (fun _ => 0) else σ.2.2 a))
theorem newW_agr {xs : Nat → Int32} {L : Nat} {σ : Wd} (h0 : σ.1 < 138) (h : agr xs L σ) : agr xs L (newW σ) := by
  obtain ⟨h1, h2, h3, h4⟩ := h
  refine ⟨?_, ?_, h3, ?_⟩
  · show (if 2003 = σ.1 then _ else σ.2.2 2003) = xs
    rw [if_neg (by omega)]; exact h1
  · show (if 2004 = σ.1 then (fun _ => (0 : Int32)) else σ.2.2 2004) 0 = nI L
    rw [if_neg (by omega)]; exact h2
  · intro b i c h
    show c < σ.1 + 1
    have h' : (if b = σ.1 then (fun _ => none) else σ.2.1 b) i = some c := h
    by_cases hb : b = σ.1
    · rw [if_pos hb] at h'; cases h'
    · rw [if_neg hb] at h'; have := h4 b i c h'; omega
theorem newW_cel {ad ad' : Nat → Nat} {cI cR : ClassId} {xs : Nat → Int32} {L : Nat} {σ : Wd} (hag : agr xs L σ) (had : ∀ a, a ≠ σ.1 → ad' a = ad a) {b : Nat} (hb : b < σ.1) : cel ad' cI cR (newW σ).2.1 (newW σ).2.2 b = cel ad cI cR σ.2.1 σ.2.2 b := by
  have hne : b ≠ σ.1 := by omega
  have e1 : (newW σ).2.1 b = σ.2.1 b := by show (if b = σ.1 then _ else σ.2.1 b) = _; rw [if_neg hne]
  have e2 : (newW σ).2.2 b = σ.2.2 b := by show (if b = σ.1 then _ else σ.2.2 b) = _; rw [if_neg hne]
  have em : ∀ i, ((σ.2.1 b i).map ad') = (σ.2.1 b i).map ad := by
    intro i
    cases h : σ.2.1 b i with
    | none => rfl
    | some c =>
      have := hag.2.2.2 b i c h
      show some (ad' c) = some (ad c)
      rw [had c (by omega)]
  have e3 : slt ad' (newW σ).2.1 (newW σ).2.2 (lay b).1 b = slt ad σ.2.1 σ.2.2 (lay b).1 b := by
    funext i
    unfold slt
    rw [e1, e2, em]
  unfold cel
  rw [e3, e1, e2]
  have e4 : (fun j => (σ.2.1 b j).map ad') = (fun j => (σ.2.1 b j).map ad) := funext em
  rw [e4]
theorem newW_slt {ad : Nat → Nat} {σ : Wd} {ci i : Nat} : slt ad (newW σ).2.1 (newW σ).2.2 ci σ.1 i = if isP ci i = true then .null else .int 0 := by
  have e1 : (newW σ).2.1 σ.1 = fun _ => none := by show (if σ.1 = σ.1 then _ else _) = _; rw [if_pos rfl]
  have e2 : (newW σ).2.2 σ.1 = fun _ => 0 := by show (if σ.1 = σ.1 then _ else _) = _; rw [if_pos rfl]
  unfold slt
  rw [e1, e2]
  rfl
section NEW
variable {p : Program} {l : Launch} {e : Env} {R : Room} {s : State} {m : MethodId} {args : Array Value} {below : List Frame} {meth : Method} {c : Code} {cells slots : Nat} {H : Heap} {locs : List Loc} {la : Array Slot} {q : CC} {ad : Nat → Nat} {A : Nat → Prop} {n0 : Nat} {ad0 : Nat → Nat} {Qm : State → Prop}
variable {d k pc : Nat} {j : MI} {ls : List (Option Value)} {st rest : List Value} {σ : Wd} {Q : List Value → Wd → Prop}
/-- behind a new cell -/
theorem made_end (hC : Cx p s m args meth c j) (hR : d ≤ R.frames ∧ 40 * d ≤ R.locals) (hS : Sx q ad A s σ H locs) (hl : lv_has la j.2.2.1 (asc ad 0 ls)) (hB : Bd n0 ad0 k R cells slots σ ad) (hF : Fi_ p l e R s m args below meth c Qm q A n0 ad0 k j Q) (hk : σ.1 < k) (hok : (∀ v ∈ rest, okR σ.1 (σ.1 + 1) v) ∧ ∀ v, some v ∈ ls → okR σ.1 (σ.1 + 1) v)
    {a : Nat} {x : va_E} {H1 : Heap} (hx : x = cel (va_up ad σ.1 a) q.2.1 q.2.2.1 (newW σ).2.1 (newW σ).2.2 σ.1) (hP1 : va_P q.1 vwCl (ws0 q ad σ ++ [(a, x)]) H1) (hD1 : va_D A (ws0 q ad σ ++ [(a, x)])) (hS1 : va_S A s.heap H1 locs) {z : Nat} (hz : szc σ.1 = z)
    (kk : X d k j pc ls (.ref σ.1 :: rest) (newW σ) Q) : W p l e R s m args below meth c H1 locs (cells + 1) (slots + z) Qm (F0 m pc la (.ref a :: rest.map (tr ad))) := by
  obtain ⟨hK, hSK, hA, hP, hD, hSS, hag⟩ := hS
  obtain ⟨b1, b2, b3, b4, b5, b6⟩ := hB
  have had : ∀ b, b ≠ σ.1 → va_up ad σ.1 a b = ad b := fun b h => va_up_ne ad a h
  have had' : ∀ b, ¬ (σ.1 ≤ b ∧ b < σ.1 + 1) → va_up ad σ.1 a b = ad b := fun b h => had b (by omega)
  have hw : ws0 q ad σ ++ [(a, x)] = ws0 q (va_up ad σ.1 a) (newW σ) := WS_push rfl (va_up_self ad σ.1 a) hx (fun b hb => ⟨had b (by omega), newW_cel hag had hb⟩)
  rw [hw] at hP1 hD1
  have er : rest.map (tr (va_up ad σ.1 a)) = rest.map (tr ad) := trl_ok had' hok.1
  have ea : asc (va_up ad σ.1 a) 0 ls = asc ad 0 ls := asc_ok had' hok.2 0
  have hs1 : SZ (σ.1 + 1) = SZ σ.1 + szc σ.1 := rfl
  have hs2 := SZ_mono (show σ.1 + 1 ≤ k by omega)
  have hW := kk p l e R s m args below meth c (cells + 1) (slots + z) H1 locs la q (va_up ad σ.1 a) A n0 ad0 Qm hC hR ⟨hK, SK.ad hSK (fun b hb => had b (by omega)), hA, hP1, hD1, hS1, newW_agr (by omega) hag⟩ (by rw [ea]; exact hl)
    ⟨show n0 ≤ σ.1 + 1 by omega, show σ.1 + 1 ≤ k by omega, b3, by show cells + 1 + (k - (σ.1 + 1)) ≤ R.cells; omega, by show slots + z + (SZ k - SZ (σ.1 + 1)) ≤ R.slots; omega, fun b hb => by rw [had b (by omega)]; exact b6 b hb⟩ hF
  have eS : ((.ref σ.1 :: rest : List Value)).map (tr (va_up ad σ.1 a)) = .ref a :: rest.map (tr ad) := by
    show Value.ref (va_up ad σ.1 a σ.1) :: rest.map (tr (va_up ad σ.1 a)) = _
    rw [va_up_self, er]
  rw [eS] at hW
  exact hW
end NEW
section AROWS
variable {d k pc nx idx : Nat} {j : MI} {ls : List (Option Value)} {st : List Value} {σ : Wd} {Q : List Value → Wd → Prop}

theorem X_new {ci N : Nat} {C : String} {T : u_T} {ty : Nat → FieldType} (hd : decode j.2.1 pc = .ok (.new idx, 3)) (hn : pc + 3 = nx) (hcf : CF ci C T N ty) (h1 : Cond.classLink j.1.cls idx C ∈ big) (h2 : Cond.instantiable C N ∈ big) (h3 : Cond.initialized C ∈ big) (hc : (lay σ.1).1 = ci) (hk : σ.1 < k) (hok : (∀ v ∈ st, okR σ.1 (σ.1 + 1) v) ∧ ∀ v, some v ∈ ls → okR σ.1 (σ.1 + 1) v) (kk : X d k j nx ls (.ref σ.1 :: st) (newW σ) Q) : X d k j pc ls st σ Q := by
  subst hn
  intro p l e R s m args below meth c cells slots H locs la q ad A n0 ad0 Qm hC hR hS hl hB hF
  obtain ⟨hx, hb, hr, hml, hown, hts, hlk, hini⟩ := id hC
  obtain ⟨hK, hSK, hA, hP, hD, hSS, hag⟩ := id hS
  obtain ⟨c1, c2, c3, c4, c5, c6, c7, c8⟩ := hcf
  have hs1 : SZ (σ.1 + 1) = SZ σ.1 + szc σ.1 := rfl
  have hs2 := SZ_mono (show σ.1 + 1 ≤ k by omega)
  have hz : szc σ.1 = N := by
    unfold szc
    rw [hc, if_neg (by omega)]
    exact c2
  refine va_new (ci := ci) (fs := (List.range (nSl ci)).map (fun i => if isP ci i = true then Value.null else .int 0)) hx hb hts c5 ty c6 hown (hts _ h1) (hts _ h2) (hts _ h3) hK hP hD hSS hA c1 (fun i hi => ?_) (by have := hB.2.2.2.1; omega) (by have := hB.2.2.2.2.1; omega) hd (fun a H1 hP1 hD1 hS1 => ?_)
  · have h8 := (c8 i hi).2
    unfold vp_V
    rw [List.getD_eq_getElem?_getD, List.getElem?_map, List.getElem?_range (by rw [c2]; exact hi)]
    show defaultValue (ty i) = if isP ci i = true then Value.null else .int 0
    by_cases hp : isP ci i = true
    · rw [if_pos hp] at h8 ⊢
      rcases h8 with ⟨t, h8⟩ | ⟨t, h8⟩ <;> rw [h8] <;> rfl
    · rw [if_neg hp] at h8 ⊢
      rw [h8]
      split <;> rfl
  · refine made_end (x := .inr (ci, (List.range (nSl ci)).map (fun i => if isP ci i = true then Value.null else .int 0))) hC hR hS hl hB hF hk hok ?_ hP1 hD1 hS1 hz kk
    rw [cel_obj hc c3]
    congr 2
    exact List.map_congr_left fun i _ => newW_slt.symm
theorem X_newa {n : Int32} {N' : Nat} (hd : decode j.2.1 pc = .ok (.newarray .int, 2)) (hn : pc + 2 = nx) (hac : Cond.arrayClass .int ∈ big) (hnn : ¬ n < 0) (hN : n.toNatClampNeg = N') (hc : lay σ.1 = (8, N')) (hle : N' ≤ 1000) (hk : σ.1 < k) (hok : (∀ v ∈ st, okR σ.1 (σ.1 + 1) v) ∧ ∀ v, some v ∈ ls → okR σ.1 (σ.1 + 1) v) (kk : X d k j nx ls (.ref σ.1 :: st) (newW σ) Q) : X d k j pc ls (.int n :: st) σ Q := by
  subst hn
  intro p l e R s m args below meth c cells slots H locs la q ad A n0 ad0 Qm hC hR hS hl hB hF
  obtain ⟨hx, hb, hr, hml, hown, hts, hlk, hini⟩ := id hC
  obtain ⟨hK, hSK, hA, hP, hD, hSS, hag⟩ := id hS
  have hs1 : SZ (σ.1 + 1) = SZ σ.1 + szc σ.1 := rfl
  have hs2 := SZ_mono (show σ.1 + 1 ≤ k by omega)
  have hz : szc σ.1 = N' := by
    unfold szc
    rw [hc, if_pos (Or.inl rfl)]
  refine va_newa (atype := .int) (ty := .int) hx hb (hts _ hac) rfl hK hP hD hSS hA (a0 := (N', .inl (fun _ => 0))) (fun cA => rfl) hnn hN (by show N' * 4 ≤ 536870912; omega) (by have := hB.2.2.2.1; omega) (by have := hB.2.2.2.2.1; omega) hd (fun a cA H1 hK1 hP1 hD1 hS1 => ?_)
  have hcA : cA = q.2.1 := by
    have g1 := (hK1.2 2 (cA, .int) rfl).2
    have g2 := (hK1.2 0 (q.2.1, .int) rfl).2
    exact Option.some.inj (Eq.trans (Eq.symm g1) g2)
  subst hcA
  refine made_end (x := .inl (q.2.1, N', .inl (fun _ => 0))) hC hR hS hl hB hF hk hok ?_ hP1 hD1 hS1 hz kk
  rw [cel_int (by rw [hc])]
  have e2 : (newW σ).2.2 σ.1 = fun _ => 0 := by show (if σ.1 = σ.1 then _ else _) = _; rw [if_pos rfl]
  rw [e2, hc]
theorem X_newq {n : Int32} {N' : Nat} (hd : decode j.2.1 pc = .ok (.anewarray idx, 3)) (hn : pc + 3 = nx) (hcl : Cond.classLink j.1.cls idx RX4 ∈ big) (hnn : ¬ n < 0) (hN : n.toNatClampNeg = N') (hc : lay σ.1 = (9, N')) (hle : N' ≤ 1000) (hk : σ.1 < k) (hok : (∀ v ∈ st, okR σ.1 (σ.1 + 1) v) ∧ ∀ v, some v ∈ ls → okR σ.1 (σ.1 + 1) v) (kk : X d k j nx ls (.ref σ.1 :: st) (newW σ) Q) : X d k j pc ls (.int n :: st) σ Q := by
  subst hn
  intro p l e R s m args below meth c cells slots H locs la q ad A n0 ad0 Qm hC hR hS hl hB hF
  obtain ⟨hx, hb, hr, hml, hown, hts, hlk, hini⟩ := id hC
  obtain ⟨hK, hSK, hA, hP, hD, hSS, hag⟩ := id hS
  have hs1 : SZ (σ.1 + 1) = SZ σ.1 + szc σ.1 := rfl
  have hs2 := SZ_mono (show σ.1 + 1 ≤ k by omega)
  have hz : szc σ.1 = N' := by
    unfold szc
    rw [hc, if_pos (Or.inr rfl)]
  refine va_newq (C := RX4) hx hb hown (hts _ hcl) hSK.2.2.2.2.2.2 hK hP hD hSS hA hnn hN (by omega) (by have := hB.2.2.2.1; omega) (by have := hB.2.2.2.2.1; omega) hd (fun a cA H1 hK1 hP1 hD1 hS1 => ?_)
  have hcA : cA = q.2.2.1 := by
    obtain ⟨_, _, _, _, _, g1⟩ := (hK1.2 2 (cA, .object RX4) rfl).2
    obtain ⟨_, _, _, _, _, g2⟩ := (hK1.2 1 (q.2.2.1, .object RX4) rfl).2
    exact Option.some.inj (Eq.trans (Eq.symm g1) g2)
  subst hcA
  refine made_end (x := .inl (q.2.2.1, N', .inr (.inr (.inr (.inr (fun _ => none)))))) hC hR hS hl hB hF hk hok ?_ hP1 hD1 hS1 hz kk
  rw [cel_ref (by rw [hc])]
  have e1 : (newW σ).2.1 σ.1 = fun _ => none := by show (if σ.1 = σ.1 then _ else _) = _; rw [if_pos rfl]
  rw [e1, hc]
  rfl
theorem agr_ptr {xs : Nat → Int32} {L : Nat} {a i b : Nat} (hb : b < σ.1) (h : agr xs L σ) : agr xs L (σ.1, up2 σ.2.1 a i (some b), σ.2.2) := by
  refine ⟨h.1, h.2.1, h.2.2.1, fun x y z hz => ?_⟩
  have hz' : (if x = a ∧ y = i then some b else σ.2.1 x y) = some z := hz
  split at hz'
  · cases hz'; exact hb
  · exact h.2.2.2 x y z hz'
theorem X_putP {ci kf a b N : Nat} {C : String} {T : u_T} {ty : Nat → FieldType} (hd : decode j.2.1 pc = .ok (.putfield idx, 3)) (hn : pc + 3 = nx) (hcf : CF ci C T N ty) (hk : kf < N) (hw : Cond.fieldLink j.1.cls idx C (T kf).2.1 (T kf).2.2.1 ∈ big) (hj : j.1.cls = C) (hin : j.1.name = "<init>") (hp : isP ci kf = true) (ha : a < σ.1) (hb0 : b < σ.1) (hc : (lay a).1 = ci) (kk : X d k j nx ls st (σ.1, up2 σ.2.1 a kf (some b), σ.2.2) Q) : X d k j pc ls (.ref b :: .ref a :: st) σ Q := by
  subst hn
  intro p l e R s m args below meth c cells slots H locs la q ad A n0 ad0 Qm hC hR hS hl hB hF
  obtain ⟨hx, hb, hr, hml, hown, hts, hlk, hini⟩ := id hC
  obtain ⟨hK, hSK, hA, hP, hD, hSS, hag⟩ := id hS
  obtain ⟨c1, c2, c3, c4, c5, c6, c7, c8⟩ := hcf
  have he := WS_at (ad := ad) (cI := q.2.1) (cR := q.2.2.1) ha
  rw [cel_obj hc c3] at he
  have h8 := c8 kf hk
  rw [if_pos hp] at h8
  have hset := slt_set (ad := ad) (P := σ.2.1) (P' := up2 σ.2.1 a kf (some b)) (D := σ.2.2) (D' := σ.2.2) (ci := ci) (a := a) (k := kf) (v := .ref (ad b)) (by unfold slt; rw [if_pos hp]; simp [up2, va_rf]) (fun i hi => by unfold slt; simp [up2, hi])
  have hws := WS_set (ad := ad) (cI := q.2.1) (cR := q.2.2.1) (σ := σ) (σ' := (σ.1, up2 σ.2.1 a kf (some b), σ.2.2)) (a := a) (e := .inr (ci, ((List.range (nSl ci)).map (slt ad σ.2.1 σ.2.2 ci a)).set kf (.ref (ad b)))) rfl (by rw [hset, cel_obj hc c3]) (fun x hx' => cel_other (up2_ne hx') rfl)
  have hag' := agr_ptr (a := a) (i := kf) hb0 hag
  have hlen : kf < ((List.range (nSl ci)).map (slt ad σ.2.1 σ.2.2 ci a)).length := by simp; rw [c2]; exact hk
  have hnr : narrow (ty kf) (.ref (ad b)) = .ref (ad b) ∧ fits (ty kf) (.ref (ad b)) = true := by
    rcases h8.2 with ⟨t, h⟩ | ⟨t, h⟩ <;> rw [h] <;> exact ⟨rfl, rfl⟩
  refine va_putF (v := .ref (ad b)) (D := q.1) (ci := ci) (C := C) (T := T) (N := N) (ref := C) hx hb hts c5 ty c6 c7 hown hK hP hD hSS a he c1 kf hk (hts _ hw) (fun _ h9 => by rw [c4 kf hk] at h9; exact h9) (h8.1.trans hp) (hini hin) ((c4 kf hk).trans hj.symm) (c6 kf hk) hnr.1 hnr.2 hlen hd (fun H1 locs1 hP1 hD1 hS1 => ?_)
  rw [hws] at hP1 hD1
  exact kk p l e R s m args below meth c cells slots H1 locs1 la q ad A n0 ad0 Qm hC hR ⟨hK, hSK, hA, hP1, hD1, hS1, hag'⟩ hl hB hF
theorem X_aast {a b : Nat} {i : Int32} (hd : decode j.2.1 pc = .ok (.aastore, 1)) (hn : pc + 1 = nx) (ha : a < σ.1) (hc : (lay a).1 = 9) (hb0 : b < σ.1) (hcb : (lay b).1 = 3) (hin : vp_in i (lay a).2) (kk : X d k j nx ls st (σ.1, up2 σ.2.1 a i.toNatClampNeg (some b), σ.2.2) Q) : X d k j pc ls (.ref b :: .int i :: .ref a :: st) σ Q := by
  subst hn
  intro p l e R s m args below meth c cells slots H locs la q ad A n0 ad0 Qm hC hR hS hl hB hF
  obtain ⟨hx, hb, hr, hml, hown, hts, hlk, hini⟩ := id hC
  obtain ⟨hK, hSK, hA, hP, hD, hSS, hag⟩ := id hS
  have he := WS_at (ad := ad) (cI := q.2.1) (cR := q.2.2.1) ha
  rw [cel_ref hc] at he
  have heb := WS_at (ad := ad) (cI := q.2.1) (cR := q.2.2.1) hb0
  rw [cel_obj hcb (by omega)] at heb
  have hrow : (fun x => (up2 σ.2.1 a i.toNatClampNeg (some b) a x).map ad) = va_up (fun x => (σ.2.1 a x).map ad) i.toNatClampNeg (some (ad b)) := by
    funext x
    by_cases hx' : x = i.toNatClampNeg
    · simp [up2, va_up, hx']
    · simp [up2, va_up, hx']
  have hws := WS_set (ad := ad) (cI := q.2.1) (cR := q.2.2.1) (σ := σ) (σ' := (σ.1, up2 σ.2.1 a i.toNatClampNeg (some b), σ.2.2)) (a := a) (e := .inl (q.2.2.1, (lay a).2, .inr (.inr (.inr (.inr (va_up (fun x => (σ.2.1 a x).map ad) i.toNatClampNeg (some (ad b)))))))) rfl (by rw [cel_ref hc, ← hrow]) (fun x hx' => cel_other (up2_ne hx') rfl)
  have hag' := agr_ptr (a := a) (i := i.toNatClampNeg) hb0 hag
  refine va_astq (r := (RX4, TX4, 7)) (ci := 3) hx hb hK hP hD hSS a 1 b he rfl heb rfl hin hd (fun H1 locs1 hP1 hD1 hS1 => ?_)
  rw [hws] at hP1 hD1
  exact kk p l e R s m args below meth c cells slots H1 locs1 la q ad A n0 ad0 Qm hC hR ⟨hK, hSK, hA, hP1, hD1, hS1, hag'⟩ hl hB hF
theorem X_objInit {a : Nat} (hd : decode j.2.1 pc = .ok (.invokespecial idx, 3)) (hn : pc + 3 = nx) (h1 : Cond.methodLink j.1.cls idx objectInit ∈ big) (h2 : Cond.instanceMethod objectInit ∈ big) (h3 : Cond.code objectInit ⟨#[0xb1]⟩ 1 none ∈ big) (hd1 : 1 ≤ d) (hcat : (st.map fun v => v.category).sum ≤ 8) (kk : X d k j nx ls st σ Q) : X d k j pc ls (.ref a :: st) σ Q := by
  subst hn
  intro p l e R s m args below meth c cells slots H locs la q ad A n0 ad0 Qm hC hR hS hl hB hF
  obtain ⟨hx, hb, hr, hml, hown, hts, hlk, hini⟩ := id hC
  obtain ⟨hK, hSK, hA, hP, hD, hSS, hag⟩ := id hS
  refine W.objInit (g := F0 m pc la ((.ref a :: st : List Value).map (tr ad))) (rest := st.map (tr ad)) hx hb hown (hts _ h1) (hts _ h2) (hts _ h3) rfl (by rw [hml]; exact hl.1) rfl hd (by omega) (by have := cat_map (ad := ad) st; rw [this]; show 2 * 0 + _ + 12 ≤ _; omega) ?_
  exact W.eq rfl (kk p l e R s m args below meth c cells slots H locs la q ad A n0 ad0 Qm hC hR hS hl hB hF)
end AROWS
end
section
/-! FACTS OF THE TABLES: classes, links, methods -/
def tyOK (t : FieldType) (p z : Bool) : Bool := match t with
  | .array _ => p
  | .object _ => p
  | .boolean => !p && z
  | .int => !p && !z
  | _ => false
theorem tyOK_use {t : FieldType} {p z : Bool} (h : tyOK t p z = true) : if p = true then ((∃ x, t = .array x) ∨ ∃ n, t = .object n) else t = if z = true then .boolean else .int := by
  cases p <;> cases z <;> cases t <;> first | (cases h; done) | exact Or.inl ⟨_, rfl⟩ | exact Or.inr ⟨_, rfl⟩ | rfl
theorem CF.mk_ {ci : Nat} {C : String} {T : u_T} {N : Nat} {ty : Nat → FieldType} (ps : List Nat) (h1 : vwCl[ci]? = some (C, T, N)) (h2 : nSl ci = N) (h3 : ci < 8) (h4 : (List.range N).all (fun i => decide ((T i).1 = C)) = true) (h5 : (List.range N).all (fun i => decide (tables_1[ps.getD i 0]? = some (u_lay C T i))) = true) (h6 : ∀ i, i < N → parseFieldDescriptor (T i).2.2.1 = some (ty i)) (h7 : ∀ a, a < N → ∀ b, b < N → a ≠ b → (T a).2.1 ≠ (T b).2.1) (h8 : (List.range N).all (fun i => decide ((T i).2.2.2 = isP ci i) && tyOK (ty i) (isP ci i) (isZ ci i)) = true) : CF ci C T N ty := by
  refine ⟨h1, h2, h3, fun i hi => of_decide_eq_true (List.all_eq_true.mp h4 i (List.mem_range.mpr hi)), fun w hw => ?_, h6, h7, fun i hi => ?_⟩
  · obtain ⟨i, hi, rfl⟩ := List.mem_map.mp hw
    refine big_in (tb_in _ (of_decide_eq_true (List.all_eq_true.mp h5 i hi))) ?_
    unfold u_lay
    split <;> rfl
  · have h := List.all_eq_true.mp h8 i (List.mem_range.mpr hi)
    simp only [Bool.and_eq_true, decide_eq_true_eq] at h
    exact ⟨h.1, tyOK_use h.2⟩
set_option maxRecDepth 100000 in
theorem cf_X0 : CF 0 RX0 TX0 5 tyX0 := CF.mk_ [88, 90, 92, 94, 96] rfl rfl (by decide) (by decide +kernel) (by decide +kernel) tyX0_ok nmX0 (by decide +kernel)
set_option maxRecDepth 100000 in
theorem cf_X1 : CF 1 RX1 TX1 2 tyX1 := CF.mk_ [182, 184] rfl rfl (by decide) (by decide +kernel) (by decide +kernel) tyX1_ok nmX1 (by decide +kernel)
set_option maxRecDepth 100000 in
theorem cf_X2 : CF 2 RX2 TX2 2 tyX2 := CF.mk_ [243, 245] rfl rfl (by decide) (by decide +kernel) (by decide +kernel) tyX2_ok nmX2 (by decide +kernel)
set_option maxRecDepth 100000 in
theorem cf_X4 : CF 3 RX4 TX4 7 tyX4 := CF.mk_ [60, 62, 64, 66, 68, 70, 72] rfl rfl (by decide) (by decide +kernel) (by decide +kernel) tyX4_ok nmX4 (by decide +kernel)
set_option maxRecDepth 100000 in
theorem cf_X5 : CF 4 RX5 TX5 12 tyX5 := CF.mk_ [146, 148, 150, 152, 154, 156, 158, 160, 162, 164, 166, 168] rfl rfl (by decide) (by decide +kernel) (by decide +kernel) tyX5_ok nmX5 (by decide +kernel)
set_option maxRecDepth 100000 in
theorem cf_X6 : CF 5 RX6 TX6 11 tyX6 := CF.mk_ [207, 209, 211, 213, 215, 217, 219, 221, 223, 225, 227] rfl rfl (by decide) (by decide +kernel) (by decide +kernel) tyX6_ok nmX6 (by decide +kernel)
set_option maxRecDepth 100000 in
theorem cf_X7 : CF 6 RX7 TX7 10 tyX7 := CF.mk_ [260, 262, 264, 266, 268, 270, 272, 274, 276, 278] rfl rfl (by decide) (by decide +kernel) (by decide +kernel) tyX7_ok nmX7 (by decide +kernel)
set_option maxRecDepth 100000 in
theorem cf_X8 : CF 7 RX8 TX8 52 tyX8 := CF.mk_ [875, 877, 879, 881, 883, 885, 887, 889, 891, 893, 895, 897, 899, 901, 903, 905, 907, 909, 911, 913, 915, 917, 919, 921, 923, 925, 927, 929, 931, 933, 935, 937, 939, 941, 943, 945, 947, 949, 951, 953, 955, 957, 959, 961, 963, 965, 967, 969, 971, 973, 975, 977] rfl rfl (by decide) (by decide +kernel) (by decide +kernel) tyX8_ok nmX8 (by decide +kernel)
theorem fl_RX0_9 : FL RX0 9 0 0 := ⟨RX0, TX0, 5, tyX0, cf_X0, by decide, Or.inl (bg_in 76 (by decide +kernel) rfl)⟩
theorem fl_RX0_15 : FL RX0 15 0 1 := ⟨RX0, TX0, 5, tyX0, cf_X0, by decide, Or.inl (bg_in 80 (by decide +kernel) rfl)⟩
theorem fl_RX0_20 : FL RX0 20 0 2 := ⟨RX0, TX0, 5, tyX0, cf_X0, by decide, Or.inl (bg_in 84 (by decide +kernel) rfl)⟩
theorem fl_RX0_25 : FL RX0 25 0 3 := ⟨RX0, TX0, 5, tyX0, cf_X0, by decide, Or.inl (bg_in 85 (by decide +kernel) rfl)⟩
theorem fl_RX0_45 : FL RX0 45 0 4 := ⟨RX0, TX0, 5, tyX0, cf_X0, by decide, Or.inl (bg_in 86 (by decide +kernel) rfl)⟩
theorem fl_RX0_49 : FL RX0 49 3 6 := ⟨RX4, TX4, 7, tyX4, cf_X4, by decide, Or.inr ⟨"RoutesByTries", tb_in 57 (by decide +kernel)⟩⟩
theorem fl_RX0_64 : FL RX0 64 3 1 := ⟨RX4, TX4, 7, tyX4, cf_X4, by decide, Or.inr ⟨"RoutesByTries", tb_in 40 (by decide +kernel)⟩⟩
theorem fl_RX1_9 : FL RX1 9 1 0 := ⟨RX1, TX1, 2, tyX1, cf_X1, by decide, Or.inl (bg_in 177 (by decide +kernel) rfl)⟩
theorem fl_RX1_15 : FL RX1 15 1 1 := ⟨RX1, TX1, 2, tyX1, cf_X1, by decide, Or.inl (bg_in 178 (by decide +kernel) rfl)⟩
theorem fl_RX2_15 : FL RX2 15 2 0 := ⟨RX2, TX2, 2, tyX2, cf_X2, by decide, Or.inl (bg_in 239 (by decide +kernel) rfl)⟩
theorem fl_RX2_21 : FL RX2 21 2 1 := ⟨RX2, TX2, 2, tyX2, cf_X2, by decide, Or.inl (bg_in 240 (by decide +kernel) rfl)⟩
theorem fl_RX3_15 : FL RX3 15 2 1 := ⟨RX2, TX2, 2, tyX2, cf_X2, by decide, Or.inr ⟨"RoutesByTries", tb_in 241 (by decide +kernel)⟩⟩
theorem fl_RX3_73 : FL RX3 73 3 3 := ⟨RX4, TX4, 7, tyX4, cf_X4, by decide, Or.inr ⟨"RoutesByTries", tb_in 47 (by decide +kernel)⟩⟩
theorem fl_RX3_78 : FL RX3 78 3 4 := ⟨RX4, TX4, 7, tyX4, cf_X4, by decide, Or.inr ⟨"RoutesByTries", tb_in 51 (by decide +kernel)⟩⟩
theorem fl_RX3_81 : FL RX3 81 3 5 := ⟨RX4, TX4, 7, tyX4, cf_X4, by decide, Or.inr ⟨"RoutesByTries", tb_in 55 (by decide +kernel)⟩⟩
theorem fl_RX3_108 : FL RX3 108 0 0 := ⟨RX0, TX0, 5, tyX0, cf_X0, by decide, Or.inr ⟨"RoutesByTries", tb_in 79 (by decide +kernel)⟩⟩
theorem fl_RX3_116 : FL RX3 116 0 1 := ⟨RX0, TX0, 5, tyX0, cf_X0, by decide, Or.inr ⟨"RoutesByTries", tb_in 83 (by decide +kernel)⟩⟩
theorem fl_RX3_125 : FL RX3 125 3 6 := ⟨RX4, TX4, 7, tyX4, cf_X4, by decide, Or.inr ⟨"RoutesByTries", tb_in 59 (by decide +kernel)⟩⟩
theorem fl_RX4_9 : FL RX4 9 3 0 := ⟨RX4, TX4, 7, tyX4, cf_X4, by decide, Or.inl (bg_in 37 (by decide +kernel) rfl)⟩
theorem fl_RX4_15 : FL RX4 15 3 4 := ⟨RX4, TX4, 7, tyX4, cf_X4, by decide, Or.inl (bg_in 48 (by decide +kernel) rfl)⟩
theorem fl_RX4_19 : FL RX4 19 3 5 := ⟨RX4, TX4, 7, tyX4, cf_X4, by decide, Or.inl (bg_in 52 (by decide +kernel) rfl)⟩
theorem fl_RX4_26 : FL RX4 26 3 1 := ⟨RX4, TX4, 7, tyX4, cf_X4, by decide, Or.inl (bg_in 38 (by decide +kernel) rfl)⟩
theorem fl_RX4_29 : FL RX4 29 3 2 := ⟨RX4, TX4, 7, tyX4, cf_X4, by decide, Or.inl (bg_in 41 (by decide +kernel) rfl)⟩
theorem fl_RX4_32 : FL RX4 32 3 3 := ⟨RX4, TX4, 7, tyX4, cf_X4, by decide, Or.inl (bg_in 44 (by decide +kernel) rfl)⟩
theorem fl_RX4_35 : FL RX4 35 3 6 := ⟨RX4, TX4, 7, tyX4, cf_X4, by decide, Or.inl (bg_in 56 (by decide +kernel) rfl)⟩
theorem fl_RX4_65 : FL RX4 65 1 1 := ⟨RX1, TX1, 2, tyX1, cf_X1, by decide, Or.inr ⟨"RoutesByTries", tb_in 181 (by decide +kernel)⟩⟩
theorem fl_RX5_11 : FL RX5 11 4 0 := ⟨RX5, TX5, 12, tyX5, cf_X5, by decide, Or.inl (bg_in 122 (by decide +kernel) rfl)⟩
theorem fl_RX5_15 : FL RX5 15 4 1 := ⟨RX5, TX5, 12, tyX5, cf_X5, by decide, Or.inl (bg_in 123 (by decide +kernel) rfl)⟩
theorem fl_RX5_18 : FL RX5 18 4 2 := ⟨RX5, TX5, 12, tyX5, cf_X5, by decide, Or.inl (bg_in 125 (by decide +kernel) rfl)⟩
theorem fl_RX5_21 : FL RX5 21 4 3 := ⟨RX5, TX5, 12, tyX5, cf_X5, by decide, Or.inl (bg_in 126 (by decide +kernel) rfl)⟩
theorem fl_RX5_24 : FL RX5 24 4 4 := ⟨RX5, TX5, 12, tyX5, cf_X5, by decide, Or.inl (bg_in 128 (by decide +kernel) rfl)⟩
theorem fl_RX5_27 : FL RX5 27 4 5 := ⟨RX5, TX5, 12, tyX5, cf_X5, by decide, Or.inl (bg_in 130 (by decide +kernel) rfl)⟩
theorem fl_RX5_30 : FL RX5 30 4 6 := ⟨RX5, TX5, 12, tyX5, cf_X5, by decide, Or.inl (bg_in 132 (by decide +kernel) rfl)⟩
theorem fl_RX5_33 : FL RX5 33 4 7 := ⟨RX5, TX5, 12, tyX5, cf_X5, by decide, Or.inl (bg_in 134 (by decide +kernel) rfl)⟩
theorem fl_RX5_36 : FL RX5 36 4 8 := ⟨RX5, TX5, 12, tyX5, cf_X5, by decide, Or.inl (bg_in 136 (by decide +kernel) rfl)⟩
theorem fl_RX5_39 : FL RX5 39 4 9 := ⟨RX5, TX5, 12, tyX5, cf_X5, by decide, Or.inl (bg_in 139 (by decide +kernel) rfl)⟩
theorem fl_RX5_42 : FL RX5 42 4 10 := ⟨RX5, TX5, 12, tyX5, cf_X5, by decide, Or.inl (bg_in 142 (by decide +kernel) rfl)⟩
theorem fl_RX5_48 : FL RX5 48 4 11 := ⟨RX5, TX5, 12, tyX5, cf_X5, by decide, Or.inl (bg_in 144 (by decide +kernel) rfl)⟩
theorem fl_RX5_60 : FL RX5 60 0 0 := ⟨RX0, TX0, 5, tyX0, cf_X0, by decide, Or.inr ⟨"RoutesByTries", tb_in 77 (by decide +kernel)⟩⟩
theorem fl_RX5_67 : FL RX5 67 0 1 := ⟨RX0, TX0, 5, tyX0, cf_X0, by decide, Or.inr ⟨"RoutesByTries", tb_in 81 (by decide +kernel)⟩⟩
theorem fl_RX5_84 : FL RX5 84 3 3 := ⟨RX4, TX4, 7, tyX4, cf_X4, by decide, Or.inr ⟨"RoutesByTries", tb_in 45 (by decide +kernel)⟩⟩
theorem fl_RX5_89 : FL RX5 89 3 2 := ⟨RX4, TX4, 7, tyX4, cf_X4, by decide, Or.inr ⟨"RoutesByTries", tb_in 42 (by decide +kernel)⟩⟩
theorem fl_RX5_105 : FL RX5 105 3 5 := ⟨RX4, TX4, 7, tyX4, cf_X4, by decide, Or.inr ⟨"RoutesByTries", tb_in 53 (by decide +kernel)⟩⟩
theorem fl_RX5_110 : FL RX5 110 3 4 := ⟨RX4, TX4, 7, tyX4, cf_X4, by decide, Or.inr ⟨"RoutesByTries", tb_in 50 (by decide +kernel)⟩⟩
theorem fl_RX6_12 : FL RX6 12 5 0 := ⟨RX6, TX6, 11, tyX6, cf_X6, by decide, Or.inl (bg_in 187 (by decide +kernel) rfl)⟩
theorem fl_RX6_21 : FL RX6 21 5 1 := ⟨RX6, TX6, 11, tyX6, cf_X6, by decide, Or.inl (bg_in 189 (by decide +kernel) rfl)⟩
theorem fl_RX6_25 : FL RX6 25 5 2 := ⟨RX6, TX6, 11, tyX6, cf_X6, by decide, Or.inl (bg_in 191 (by decide +kernel) rfl)⟩
theorem fl_RX6_29 : FL RX6 29 5 3 := ⟨RX6, TX6, 11, tyX6, cf_X6, by decide, Or.inl (bg_in 193 (by decide +kernel) rfl)⟩
theorem fl_RX6_36 : FL RX6 36 5 4 := ⟨RX6, TX6, 11, tyX6, cf_X6, by decide, Or.inl (bg_in 195 (by decide +kernel) rfl)⟩
theorem fl_RX6_40 : FL RX6 40 5 5 := ⟨RX6, TX6, 11, tyX6, cf_X6, by decide, Or.inl (bg_in 196 (by decide +kernel) rfl)⟩
theorem fl_RX6_43 : FL RX6 43 5 6 := ⟨RX6, TX6, 11, tyX6, cf_X6, by decide, Or.inl (bg_in 197 (by decide +kernel) rfl)⟩
theorem fl_RX6_50 : FL RX6 50 5 9 := ⟨RX6, TX6, 11, tyX6, cf_X6, by decide, Or.inl (bg_in 203 (by decide +kernel) rfl)⟩
theorem fl_RX6_53 : FL RX6 53 5 10 := ⟨RX6, TX6, 11, tyX6, cf_X6, by decide, Or.inl (bg_in 205 (by decide +kernel) rfl)⟩
theorem fl_RX6_60 : FL RX6 60 4 1 := ⟨RX5, TX5, 12, tyX5, cf_X5, by decide, Or.inr ⟨"RoutesByTries", tb_in 124 (by decide +kernel)⟩⟩
theorem fl_RX6_67 : FL RX6 67 4 8 := ⟨RX5, TX5, 12, tyX5, cf_X5, by decide, Or.inr ⟨"RoutesByTries", tb_in 137 (by decide +kernel)⟩⟩
theorem fl_RX6_70 : FL RX6 70 1 1 := ⟨RX1, TX1, 2, tyX1, cf_X1, by decide, Or.inr ⟨"RoutesByTries", tb_in 179 (by decide +kernel)⟩⟩
theorem fl_RX6_73 : FL RX6 73 4 9 := ⟨RX5, TX5, 12, tyX5, cf_X5, by decide, Or.inr ⟨"RoutesByTries", tb_in 140 (by decide +kernel)⟩⟩
theorem fl_RX6_118 : FL RX6 118 4 5 := ⟨RX5, TX5, 12, tyX5, cf_X5, by decide, Or.inr ⟨"RoutesByTries", tb_in 131 (by decide +kernel)⟩⟩
theorem fl_RX6_128 : FL RX6 128 4 6 := ⟨RX5, TX5, 12, tyX5, cf_X5, by decide, Or.inr ⟨"RoutesByTries", tb_in 133 (by decide +kernel)⟩⟩
theorem fl_RX6_131 : FL RX6 131 4 4 := ⟨RX5, TX5, 12, tyX5, cf_X5, by decide, Or.inr ⟨"RoutesByTries", tb_in 129 (by decide +kernel)⟩⟩
theorem fl_RX6_134 : FL RX6 134 4 3 := ⟨RX5, TX5, 12, tyX5, cf_X5, by decide, Or.inr ⟨"RoutesByTries", tb_in 127 (by decide +kernel)⟩⟩
theorem fl_RX6_137 : FL RX6 137 4 7 := ⟨RX5, TX5, 12, tyX5, cf_X5, by decide, Or.inr ⟨"RoutesByTries", tb_in 135 (by decide +kernel)⟩⟩
theorem fl_RX6_143 : FL RX6 143 5 7 := ⟨RX6, TX6, 11, tyX6, cf_X6, by decide, Or.inl (bg_in 199 (by decide +kernel) rfl)⟩
theorem fl_RX6_145 : FL RX6 145 5 8 := ⟨RX6, TX6, 11, tyX6, cf_X6, by decide, Or.inl (bg_in 201 (by decide +kernel) rfl)⟩
theorem fl_RX7_10 : FL RX7 10 6 0 := ⟨RX7, TX7, 10, tyX7, cf_X7, by decide, Or.inl (bg_in 250 (by decide +kernel) rfl)⟩
theorem fl_RX7_16 : FL RX7 16 6 1 := ⟨RX7, TX7, 10, tyX7, cf_X7, by decide, Or.inl (bg_in 251 (by decide +kernel) rfl)⟩
theorem fl_RX7_19 : FL RX7 19 6 2 := ⟨RX7, TX7, 10, tyX7, cf_X7, by decide, Or.inl (bg_in 252 (by decide +kernel) rfl)⟩
theorem fl_RX7_25 : FL RX7 25 6 3 := ⟨RX7, TX7, 10, tyX7, cf_X7, by decide, Or.inl (bg_in 253 (by decide +kernel) rfl)⟩
theorem fl_RX7_34 : FL RX7 34 6 4 := ⟨RX7, TX7, 10, tyX7, cf_X7, by decide, Or.inl (bg_in 254 (by decide +kernel) rfl)⟩
theorem fl_RX7_38 : FL RX7 38 6 5 := ⟨RX7, TX7, 10, tyX7, cf_X7, by decide, Or.inl (bg_in 255 (by decide +kernel) rfl)⟩
theorem fl_RX7_44 : FL RX7 44 6 6 := ⟨RX7, TX7, 10, tyX7, cf_X7, by decide, Or.inl (bg_in 256 (by decide +kernel) rfl)⟩
theorem fl_RX7_48 : FL RX7 48 6 7 := ⟨RX7, TX7, 10, tyX7, cf_X7, by decide, Or.inl (bg_in 257 (by decide +kernel) rfl)⟩
theorem fl_RX7_52 : FL RX7 52 6 8 := ⟨RX7, TX7, 10, tyX7, cf_X7, by decide, Or.inl (bg_in 258 (by decide +kernel) rfl)⟩
theorem fl_RX7_66 : FL RX7 66 2 1 := ⟨RX2, TX2, 2, tyX2, cf_X2, by decide, Or.inr ⟨"RoutesByTries", tb_in 242 (by decide +kernel)⟩⟩
theorem fl_RX7_80 : FL RX7 80 5 0 := ⟨RX6, TX6, 11, tyX6, cf_X6, by decide, Or.inr ⟨"RoutesByTries", tb_in 188 (by decide +kernel)⟩⟩
theorem fl_RX7_93 : FL RX7 93 0 0 := ⟨RX0, TX0, 5, tyX0, cf_X0, by decide, Or.inr ⟨"RoutesByTries", tb_in 78 (by decide +kernel)⟩⟩
theorem fl_RX7_100 : FL RX7 100 0 1 := ⟨RX0, TX0, 5, tyX0, cf_X0, by decide, Or.inr ⟨"RoutesByTries", tb_in 82 (by decide +kernel)⟩⟩
theorem fl_RX7_122 : FL RX7 122 3 4 := ⟨RX4, TX4, 7, tyX4, cf_X4, by decide, Or.inr ⟨"RoutesByTries", tb_in 49 (by decide +kernel)⟩⟩
theorem fl_RX7_125 : FL RX7 125 3 6 := ⟨RX4, TX4, 7, tyX4, cf_X4, by decide, Or.inr ⟨"RoutesByTries", tb_in 58 (by decide +kernel)⟩⟩
theorem fl_RX7_138 : FL RX7 138 3 5 := ⟨RX4, TX4, 7, tyX4, cf_X4, by decide, Or.inr ⟨"RoutesByTries", tb_in 54 (by decide +kernel)⟩⟩
theorem fl_RX7_149 : FL RX7 149 3 3 := ⟨RX4, TX4, 7, tyX4, cf_X4, by decide, Or.inr ⟨"RoutesByTries", tb_in 46 (by decide +kernel)⟩⟩
theorem fl_RX7_155 : FL RX7 155 0 4 := ⟨RX0, TX0, 5, tyX0, cf_X0, by decide, Or.inr ⟨"RoutesByTries", tb_in 87 (by decide +kernel)⟩⟩
theorem fl_RX7_158 : FL RX7 158 3 1 := ⟨RX4, TX4, 7, tyX4, cf_X4, by decide, Or.inr ⟨"RoutesByTries", tb_in 39 (by decide +kernel)⟩⟩
theorem fl_RX7_174 : FL RX7 174 5 1 := ⟨RX6, TX6, 11, tyX6, cf_X6, by decide, Or.inr ⟨"RoutesByTries", tb_in 190 (by decide +kernel)⟩⟩
theorem fl_RX7_179 : FL RX7 179 1 1 := ⟨RX1, TX1, 2, tyX1, cf_X1, by decide, Or.inr ⟨"RoutesByTries", tb_in 180 (by decide +kernel)⟩⟩
theorem fl_RX7_186 : FL RX7 186 5 7 := ⟨RX6, TX6, 11, tyX6, cf_X6, by decide, Or.inr ⟨"RoutesByTries", tb_in 200 (by decide +kernel)⟩⟩
theorem fl_RX7_189 : FL RX7 189 5 8 := ⟨RX6, TX6, 11, tyX6, cf_X6, by decide, Or.inr ⟨"RoutesByTries", tb_in 202 (by decide +kernel)⟩⟩
theorem fl_RX7_196 : FL RX7 196 5 6 := ⟨RX6, TX6, 11, tyX6, cf_X6, by decide, Or.inr ⟨"RoutesByTries", tb_in 198 (by decide +kernel)⟩⟩
theorem fl_RX7_212 : FL RX7 212 5 9 := ⟨RX6, TX6, 11, tyX6, cf_X6, by decide, Or.inr ⟨"RoutesByTries", tb_in 204 (by decide +kernel)⟩⟩
theorem fl_RX7_233 : FL RX7 233 4 8 := ⟨RX5, TX5, 12, tyX5, cf_X5, by decide, Or.inr ⟨"RoutesByTries", tb_in 138 (by decide +kernel)⟩⟩
theorem fl_RX7_234 : FL RX7 234 5 10 := ⟨RX6, TX6, 11, tyX6, cf_X6, by decide, Or.inr ⟨"RoutesByTries", tb_in 206 (by decide +kernel)⟩⟩
theorem fl_RX7_251 : FL RX7 251 4 9 := ⟨RX5, TX5, 12, tyX5, cf_X5, by decide, Or.inr ⟨"RoutesByTries", tb_in 141 (by decide +kernel)⟩⟩
theorem fl_RX7_261 : FL RX7 261 6 9 := ⟨RX7, TX7, 10, tyX7, cf_X7, by decide, Or.inl (bg_in 259 (by decide +kernel) rfl)⟩
theorem fl_RX7_267 : FL RX7 267 4 11 := ⟨RX5, TX5, 12, tyX5, cf_X5, by decide, Or.inr ⟨"RoutesByTries", tb_in 145 (by decide +kernel)⟩⟩
theorem fl_RX7_270 : FL RX7 270 5 2 := ⟨RX6, TX6, 11, tyX6, cf_X6, by decide, Or.inr ⟨"RoutesByTries", tb_in 192 (by decide +kernel)⟩⟩
theorem fl_RX7_276 : FL RX7 276 5 3 := ⟨RX6, TX6, 11, tyX6, cf_X6, by decide, Or.inr ⟨"RoutesByTries", tb_in 194 (by decide +kernel)⟩⟩
theorem fl_RX7_295 : FL RX7 295 4 10 := ⟨RX5, TX5, 12, tyX5, cf_X5, by decide, Or.inr ⟨"RoutesByTries", tb_in 143 (by decide +kernel)⟩⟩
theorem fl_RX7_298 : FL RX7 298 3 2 := ⟨RX4, TX4, 7, tyX4, cf_X4, by decide, Or.inr ⟨"RoutesByTries", tb_in 43 (by decide +kernel)⟩⟩
theorem fl_RX8_7 : FL RX8 7 7 0 := ⟨RX8, TX8, 52, tyX8, cf_X8, by decide, Or.inl (bg_in 823 (by decide +kernel) rfl)⟩
theorem fl_RX8_13 : FL RX8 13 7 1 := ⟨RX8, TX8, 52, tyX8, cf_X8, by decide, Or.inl (bg_in 824 (by decide +kernel) rfl)⟩
theorem fl_RX8_16 : FL RX8 16 7 2 := ⟨RX8, TX8, 52, tyX8, cf_X8, by decide, Or.inl (bg_in 825 (by decide +kernel) rfl)⟩
theorem fl_RX8_19 : FL RX8 19 7 3 := ⟨RX8, TX8, 52, tyX8, cf_X8, by decide, Or.inl (bg_in 826 (by decide +kernel) rfl)⟩
theorem fl_RX8_22 : FL RX8 22 7 4 := ⟨RX8, TX8, 52, tyX8, cf_X8, by decide, Or.inl (bg_in 827 (by decide +kernel) rfl)⟩
theorem fl_RX8_25 : FL RX8 25 7 5 := ⟨RX8, TX8, 52, tyX8, cf_X8, by decide, Or.inl (bg_in 828 (by decide +kernel) rfl)⟩
theorem fl_RX8_28 : FL RX8 28 7 6 := ⟨RX8, TX8, 52, tyX8, cf_X8, by decide, Or.inl (bg_in 829 (by decide +kernel) rfl)⟩
theorem fl_RX8_31 : FL RX8 31 7 7 := ⟨RX8, TX8, 52, tyX8, cf_X8, by decide, Or.inl (bg_in 830 (by decide +kernel) rfl)⟩
theorem fl_RX8_34 : FL RX8 34 7 8 := ⟨RX8, TX8, 52, tyX8, cf_X8, by decide, Or.inl (bg_in 831 (by decide +kernel) rfl)⟩
theorem fl_RX8_37 : FL RX8 37 7 10 := ⟨RX8, TX8, 52, tyX8, cf_X8, by decide, Or.inl (bg_in 833 (by decide +kernel) rfl)⟩
theorem fl_RX8_40 : FL RX8 40 7 12 := ⟨RX8, TX8, 52, tyX8, cf_X8, by decide, Or.inl (bg_in 835 (by decide +kernel) rfl)⟩
theorem fl_RX8_43 : FL RX8 43 7 13 := ⟨RX8, TX8, 52, tyX8, cf_X8, by decide, Or.inl (bg_in 836 (by decide +kernel) rfl)⟩
theorem fl_RX8_46 : FL RX8 46 7 14 := ⟨RX8, TX8, 52, tyX8, cf_X8, by decide, Or.inl (bg_in 837 (by decide +kernel) rfl)⟩
theorem fl_RX8_49 : FL RX8 49 7 15 := ⟨RX8, TX8, 52, tyX8, cf_X8, by decide, Or.inl (bg_in 838 (by decide +kernel) rfl)⟩
theorem fl_RX8_52 : FL RX8 52 7 16 := ⟨RX8, TX8, 52, tyX8, cf_X8, by decide, Or.inl (bg_in 839 (by decide +kernel) rfl)⟩
theorem fl_RX8_55 : FL RX8 55 7 17 := ⟨RX8, TX8, 52, tyX8, cf_X8, by decide, Or.inl (bg_in 840 (by decide +kernel) rfl)⟩
theorem fl_RX8_58 : FL RX8 58 7 18 := ⟨RX8, TX8, 52, tyX8, cf_X8, by decide, Or.inl (bg_in 841 (by decide +kernel) rfl)⟩
theorem fl_RX8_61 : FL RX8 61 7 19 := ⟨RX8, TX8, 52, tyX8, cf_X8, by decide, Or.inl (bg_in 842 (by decide +kernel) rfl)⟩
theorem fl_RX8_64 : FL RX8 64 7 20 := ⟨RX8, TX8, 52, tyX8, cf_X8, by decide, Or.inl (bg_in 843 (by decide +kernel) rfl)⟩
theorem fl_RX8_67 : FL RX8 67 7 25 := ⟨RX8, TX8, 52, tyX8, cf_X8, by decide, Or.inl (bg_in 848 (by decide +kernel) rfl)⟩
theorem fl_RX8_70 : FL RX8 70 7 26 := ⟨RX8, TX8, 52, tyX8, cf_X8, by decide, Or.inl (bg_in 849 (by decide +kernel) rfl)⟩
theorem fl_RX8_73 : FL RX8 73 7 27 := ⟨RX8, TX8, 52, tyX8, cf_X8, by decide, Or.inl (bg_in 850 (by decide +kernel) rfl)⟩
theorem fl_RX8_76 : FL RX8 76 7 28 := ⟨RX8, TX8, 52, tyX8, cf_X8, by decide, Or.inl (bg_in 851 (by decide +kernel) rfl)⟩
theorem fl_RX8_79 : FL RX8 79 7 29 := ⟨RX8, TX8, 52, tyX8, cf_X8, by decide, Or.inl (bg_in 852 (by decide +kernel) rfl)⟩
theorem fl_RX8_82 : FL RX8 82 7 30 := ⟨RX8, TX8, 52, tyX8, cf_X8, by decide, Or.inl (bg_in 853 (by decide +kernel) rfl)⟩
theorem fl_RX8_85 : FL RX8 85 7 31 := ⟨RX8, TX8, 52, tyX8, cf_X8, by decide, Or.inl (bg_in 854 (by decide +kernel) rfl)⟩
theorem fl_RX8_88 : FL RX8 88 7 32 := ⟨RX8, TX8, 52, tyX8, cf_X8, by decide, Or.inl (bg_in 855 (by decide +kernel) rfl)⟩
theorem fl_RX8_91 : FL RX8 91 7 38 := ⟨RX8, TX8, 52, tyX8, cf_X8, by decide, Or.inl (bg_in 861 (by decide +kernel) rfl)⟩
theorem fl_RX8_94 : FL RX8 94 7 43 := ⟨RX8, TX8, 52, tyX8, cf_X8, by decide, Or.inl (bg_in 866 (by decide +kernel) rfl)⟩
theorem fl_RX8_97 : FL RX8 97 7 44 := ⟨RX8, TX8, 52, tyX8, cf_X8, by decide, Or.inl (bg_in 867 (by decide +kernel) rfl)⟩
theorem fl_RX8_100 : FL RX8 100 7 45 := ⟨RX8, TX8, 52, tyX8, cf_X8, by decide, Or.inl (bg_in 868 (by decide +kernel) rfl)⟩
theorem fl_RX8_103 : FL RX8 103 7 48 := ⟨RX8, TX8, 52, tyX8, cf_X8, by decide, Or.inl (bg_in 871 (by decide +kernel) rfl)⟩
theorem fl_RX8_106 : FL RX8 106 7 49 := ⟨RX8, TX8, 52, tyX8, cf_X8, by decide, Or.inl (bg_in 872 (by decide +kernel) rfl)⟩
theorem fl_RX8_109 : FL RX8 109 7 9 := ⟨RX8, TX8, 52, tyX8, cf_X8, by decide, Or.inl (bg_in 832 (by decide +kernel) rfl)⟩
theorem fl_RX8_134 : FL RX8 134 7 11 := ⟨RX8, TX8, 52, tyX8, cf_X8, by decide, Or.inl (bg_in 834 (by decide +kernel) rfl)⟩
theorem fl_RX8_137 : FL RX8 137 7 22 := ⟨RX8, TX8, 52, tyX8, cf_X8, by decide, Or.inl (bg_in 845 (by decide +kernel) rfl)⟩
theorem fl_RX8_140 : FL RX8 140 7 21 := ⟨RX8, TX8, 52, tyX8, cf_X8, by decide, Or.inl (bg_in 844 (by decide +kernel) rfl)⟩
theorem fl_RX8_143 : FL RX8 143 7 24 := ⟨RX8, TX8, 52, tyX8, cf_X8, by decide, Or.inl (bg_in 847 (by decide +kernel) rfl)⟩
theorem fl_RX8_185 : FL RX8 185 7 23 := ⟨RX8, TX8, 52, tyX8, cf_X8, by decide, Or.inl (bg_in 846 (by decide +kernel) rfl)⟩
theorem fl_RX8_208 : FL RX8 208 7 33 := ⟨RX8, TX8, 52, tyX8, cf_X8, by decide, Or.inl (bg_in 856 (by decide +kernel) rfl)⟩
theorem fl_RX8_214 : FL RX8 214 7 34 := ⟨RX8, TX8, 52, tyX8, cf_X8, by decide, Or.inl (bg_in 857 (by decide +kernel) rfl)⟩
theorem fl_RX8_221 : FL RX8 221 7 36 := ⟨RX8, TX8, 52, tyX8, cf_X8, by decide, Or.inl (bg_in 859 (by decide +kernel) rfl)⟩
theorem fl_RX8_224 : FL RX8 224 7 37 := ⟨RX8, TX8, 52, tyX8, cf_X8, by decide, Or.inl (bg_in 860 (by decide +kernel) rfl)⟩
theorem fl_RX8_227 : FL RX8 227 7 35 := ⟨RX8, TX8, 52, tyX8, cf_X8, by decide, Or.inl (bg_in 858 (by decide +kernel) rfl)⟩
theorem fl_RX8_276 : FL RX8 276 7 40 := ⟨RX8, TX8, 52, tyX8, cf_X8, by decide, Or.inl (bg_in 863 (by decide +kernel) rfl)⟩
theorem fl_RX8_280 : FL RX8 280 7 41 := ⟨RX8, TX8, 52, tyX8, cf_X8, by decide, Or.inl (bg_in 864 (by decide +kernel) rfl)⟩
theorem fl_RX8_287 : FL RX8 287 7 39 := ⟨RX8, TX8, 52, tyX8, cf_X8, by decide, Or.inl (bg_in 862 (by decide +kernel) rfl)⟩
theorem fl_RX8_326 : FL RX8 326 7 42 := ⟨RX8, TX8, 52, tyX8, cf_X8, by decide, Or.inl (bg_in 865 (by decide +kernel) rfl)⟩
theorem fl_RX8_341 : FL RX8 341 7 47 := ⟨RX8, TX8, 52, tyX8, cf_X8, by decide, Or.inl (bg_in 870 (by decide +kernel) rfl)⟩
theorem fl_RX8_344 : FL RX8 344 7 46 := ⟨RX8, TX8, 52, tyX8, cf_X8, by decide, Or.inl (bg_in 869 (by decide +kernel) rfl)⟩
theorem fl_RX8_377 : FL RX8 377 7 50 := ⟨RX8, TX8, 52, tyX8, cf_X8, by decide, Or.inl (bg_in 873 (by decide +kernel) rfl)⟩
theorem fl_RX8_383 : FL RX8 383 7 51 := ⟨RX8, TX8, 52, tyX8, cf_X8, by decide, Or.inl (bg_in 874 (by decide +kernel) rfl)⟩
def j_J0_charAt_5068e : MI := (yJ0_charAt_5068e, cJ0_charAt_5068e, 2, (some .char))
theorem kj_J0_charAt_5068e : KJ j_J0_charAt_5068e 1 := ⟨bg_in 561 (by decide +kernel) rfl, bg_in 12 (by decide +kernel) rfl, by decide, by decide +kernel, by decide +kernel, by decide +kernel⟩
theorem kv_J0_charAt_5068e : Cond.instanceMethod j_J0_charAt_5068e.1 ∈ big ∧ Cond.selects j_J0_charAt_5068e.1.cls j_J0_charAt_5068e.1 j_J0_charAt_5068e.1 ∈ big := ⟨bg_in 559 (by decide +kernel) rfl, bg_in 560 (by decide +kernel) rfl⟩
def j_J0_checkIndex_df160 : MI := (yJ0_checkIndex_df160, cJ0_checkIndex_df160, 2, none)
theorem kj_J0_checkIndex_df160 : KJ j_J0_checkIndex_df160 2 := ⟨bg_in 571 (by decide +kernel) rfl, bg_in 12 (by decide +kernel) rfl, by decide, by decide +kernel, by decide +kernel, by decide +kernel⟩
theorem ks_J0_checkIndex_df160 : Cond.static j_J0_checkIndex_df160.1 ∈ big := bg_in 570 (by decide +kernel) rfl
def j_J0_coder_7d493 : MI := (yJ0_coder_7d493, cJ0_coder_7d493, 1, (some .byte))
theorem kj_J0_coder_7d493 : KJ j_J0_coder_7d493 0 := ⟨bg_in 555 (by decide +kernel) rfl, bg_in 12 (by decide +kernel) rfl, by decide, by decide +kernel, by decide +kernel, by decide +kernel⟩
theorem kv_J0_coder_7d493 : Cond.instanceMethod j_J0_coder_7d493.1 ∈ big ∧ Cond.selects j_J0_coder_7d493.1.cls j_J0_coder_7d493.1 j_J0_coder_7d493.1 ∈ big := ⟨bg_in 553 (by decide +kernel) rfl, bg_in 554 (by decide +kernel) rfl⟩
def j_J0_isLatin1_aae02 : MI := (yJ0_isLatin1_aae02, cJ0_isLatin1_aae02, 1, (some .boolean))
theorem kj_J0_isLatin1_aae02 : KJ j_J0_isLatin1_aae02 0 := ⟨bg_in 565 (by decide +kernel) rfl, bg_in 12 (by decide +kernel) rfl, by decide, by decide +kernel, by decide +kernel, by decide +kernel⟩
theorem kv_J0_isLatin1_aae02 : Cond.instanceMethod j_J0_isLatin1_aae02.1 ∈ big ∧ Cond.selects j_J0_isLatin1_aae02.1.cls j_J0_isLatin1_aae02.1 j_J0_isLatin1_aae02.1 ∈ big := ⟨bg_in 563 (by decide +kernel) rfl, bg_in 564 (by decide +kernel) rfl⟩
def j_J0_length_8abf5 : MI := (yJ0_length_8abf5, cJ0_length_8abf5, 1, (some .int))
theorem kj_J0_length_8abf5 : KJ j_J0_length_8abf5 0 := ⟨bg_in 551 (by decide +kernel) rfl, bg_in 12 (by decide +kernel) rfl, by decide, by decide +kernel, by decide +kernel, by decide +kernel⟩
theorem kv_J0_length_8abf5 : Cond.instanceMethod j_J0_length_8abf5.1 ∈ big ∧ Cond.selects j_J0_length_8abf5.1.cls j_J0_length_8abf5.1 j_J0_length_8abf5.1 ∈ big := ⟨bg_in 549 (by decide +kernel) rfl, bg_in 550 (by decide +kernel) rfl⟩
def j_J1_charAt_3b067 : MI := (yJ1_charAt_3b067, cJ1_charAt_3b067, 2, (some .char))
theorem kj_J1_charAt_3b067 : KJ j_J1_charAt_3b067 2 := ⟨bg_in 568 (by decide +kernel) rfl, bg_in 13 (by decide +kernel) rfl, by decide, by decide +kernel, by decide +kernel, by decide +kernel⟩
theorem ks_J1_charAt_3b067 : Cond.static j_J1_charAt_3b067.1 ∈ big := bg_in 567 (by decide +kernel) rfl
def j_J3_checkIndex_8e157 : MI := (yJ3_checkIndex_8e157, cJ3_checkIndex_8e157, 3, (some .int))
theorem kj_J3_checkIndex_8e157 : KJ j_J3_checkIndex_8e157 3 := ⟨bg_in 576 (by decide +kernel) rfl, bg_in 14 (by decide +kernel) rfl, by decide, by decide +kernel, by decide +kernel, by decide +kernel⟩
theorem ks_J3_checkIndex_8e157 : Cond.static j_J3_checkIndex_8e157.1 ∈ big := bg_in 575 (by decide +kernel) rfl
def j_J6_bitCount_0f7a4 : MI := (yJ6_bitCount_0f7a4, cJ6_bitCount_0f7a4, 1, (some .int))
theorem kj_J6_bitCount_0f7a4 : KJ j_J6_bitCount_0f7a4 1 := ⟨bg_in 473 (by decide +kernel) rfl, bg_in 11 (by decide +kernel) rfl, by decide, by decide +kernel, by decide +kernel, by decide +kernel⟩
theorem ks_J6_bitCount_0f7a4 : Cond.static j_J6_bitCount_0f7a4.1 ∈ big := bg_in 472 (by decide +kernel) rfl
def j_J9_max_7cf53 : MI := (yJ9_max_7cf53, cJ9_max_7cf53, 2, (some .int))
theorem kj_J9_max_7cf53 : KJ j_J9_max_7cf53 2 := ⟨bg_in 238 (by decide +kernel) rfl, bg_in 8 (by decide +kernel) rfl, by decide, by decide +kernel, by decide +kernel, by decide +kernel⟩
theorem ks_J9_max_7cf53 : Cond.static j_J9_max_7cf53.1 ∈ big := bg_in 237 (by decide +kernel) rfl
def j_L_law : MI := (yL_law, cL_law, 4, (some .boolean))
def j_X0_addDraft : MI := (yX0_addDraft, cX0_addDraft, 1, none)
theorem kj_X0_addDraft : KJ j_X0_addDraft 0 := ⟨bg_in 402 (by decide +kernel) rfl, bg_in 2 (by decide +kernel) rfl, by decide, by decide +kernel, by decide +kernel, by decide +kernel⟩
theorem kv_X0_addDraft : Cond.instanceMethod j_X0_addDraft.1 ∈ big ∧ Cond.selects j_X0_addDraft.1.cls j_X0_addDraft.1 j_X0_addDraft.1 ∈ big := ⟨bg_in 400 (by decide +kernel) rfl, bg_in 401 (by decide +kernel) rfl⟩
def j_X0_at : MI := (yX0_at, cX0_at, 3, (some (.object "RoutesByTries$Route")))
theorem kj_X0_at : KJ j_X0_at 1 := ⟨bg_in 316 (by decide +kernel) rfl, bg_in 2 (by decide +kernel) rfl, by decide, by decide +kernel, by decide +kernel, by decide +kernel⟩
theorem kv_X0_at : Cond.instanceMethod j_X0_at.1 ∈ big ∧ Cond.selects j_X0_at.1.cls j_X0_at.1 j_X0_at.1 ∈ big := ⟨bg_in 314 (by decide +kernel) rfl, bg_in 315 (by decide +kernel) rfl⟩
def j_X0_copyFrom : MI := (yX0_copyFrom, cX0_copyFrom, 3, none)
theorem kj_X0_copyFrom : KJ j_X0_copyFrom 1 := ⟨bg_in 310 (by decide +kernel) rfl, bg_in 2 (by decide +kernel) rfl, by decide, by decide +kernel, by decide +kernel, by decide +kernel⟩
theorem kv_X0_copyFrom : Cond.instanceMethod j_X0_copyFrom.1 ∈ big ∧ Cond.selects j_X0_copyFrom.1.cls j_X0_copyFrom.1 j_X0_copyFrom.1 ∈ big := ⟨bg_in 308 (by decide +kernel) rfl, bg_in 309 (by decide +kernel) rfl⟩
def j_X0_draft : MI := (yX0_draft, cX0_draft, 1, (some (.object "RoutesByTries$Route")))
theorem kj_X0_draft : KJ j_X0_draft 0 := ⟨bg_in 366 (by decide +kernel) rfl, bg_in 2 (by decide +kernel) rfl, by decide, by decide +kernel, by decide +kernel, by decide +kernel⟩
theorem kv_X0_draft : Cond.instanceMethod j_X0_draft.1 ∈ big ∧ Cond.selects j_X0_draft.1.cls j_X0_draft.1 j_X0_draft.1 ∈ big := ⟨bg_in 364 (by decide +kernel) rfl, bg_in 365 (by decide +kernel) rfl⟩
def j_X0_init : MI := (yX0_init, cX0_init, 2, none)
theorem kj_X0_init : KJ j_X0_init 0 := ⟨bg_in 28 (by decide +kernel) rfl, bg_in 2 (by decide +kernel) rfl, by decide, by decide +kernel, by decide +kernel, by decide +kernel⟩
theorem ki_X0_init : Cond.instanceMethod j_X0_init.1 ∈ big := bg_in 27 (by decide +kernel) rfl
def j_X0_isFull : MI := (yX0_isFull, cX0_isFull, 1, (some .boolean))
theorem kj_X0_isFull : KJ j_X0_isFull 0 := ⟨bg_in 362 (by decide +kernel) rfl, bg_in 2 (by decide +kernel) rfl, by decide, by decide +kernel, by decide +kernel, by decide +kernel⟩
theorem kv_X0_isFull : Cond.instanceMethod j_X0_isFull.1 ∈ big ∧ Cond.selects j_X0_isFull.1.cls j_X0_isFull.1 j_X0_isFull.1 ∈ big := ⟨bg_in 360 (by decide +kernel) rfl, bg_in 361 (by decide +kernel) rfl⟩
def j_X0_isThere : MI := (yX0_isThere, cX0_isThere, 2, (some .boolean))
theorem kj_X0_isThere : KJ j_X0_isThere 1 := ⟨bg_in 414 (by decide +kernel) rfl, bg_in 2 (by decide +kernel) rfl, by decide, by decide +kernel, by decide +kernel, by decide +kernel⟩
theorem kv_X0_isThere : Cond.instanceMethod j_X0_isThere.1 ∈ big ∧ Cond.selects j_X0_isThere.1.cls j_X0_isThere.1 j_X0_isThere.1 ∈ big := ⟨bg_in 412 (by decide +kernel) rfl, bg_in 413 (by decide +kernel) rfl⟩
def j_X0_mountBits : MI := (yX0_mountBits, cX0_mountBits, 3, (some .int))
theorem kj_X0_mountBits : KJ j_X0_mountBits 0 := ⟨bg_in 658 (by decide +kernel) rfl, bg_in 2 (by decide +kernel) rfl, by decide, by decide +kernel, by decide +kernel, by decide +kernel⟩
theorem kv_X0_mountBits : Cond.instanceMethod j_X0_mountBits.1 ∈ big ∧ Cond.selects j_X0_mountBits.1.cls j_X0_mountBits.1 j_X0_mountBits.1 ∈ big := ⟨bg_in 656 (by decide +kernel) rfl, bg_in 657 (by decide +kernel) rfl⟩
def j_X0_segmentsThere : MI := (yX0_segmentsThere, cX0_segmentsThere, 3, (some .int))
theorem kj_X0_segmentsThere : KJ j_X0_segmentsThere 0 := ⟨bg_in 816 (by decide +kernel) rfl, bg_in 2 (by decide +kernel) rfl, by decide, by decide +kernel, by decide +kernel, by decide +kernel⟩
theorem kv_X0_segmentsThere : Cond.instanceMethod j_X0_segmentsThere.1 ∈ big ∧ Cond.selects j_X0_segmentsThere.1.cls j_X0_segmentsThere.1 j_X0_segmentsThere.1 ∈ big := ⟨bg_in 814 (by decide +kernel) rfl, bg_in 815 (by decide +kernel) rfl⟩
def j_X0_thereBits : MI := (yX0_thereBits, cX0_thereBits, 3, (some .int))
theorem kj_X0_thereBits : KJ j_X0_thereBits 0 := ⟨bg_in 469 (by decide +kernel) rfl, bg_in 2 (by decide +kernel) rfl, by decide, by decide +kernel, by decide +kernel, by decide +kernel⟩
theorem kv_X0_thereBits : Cond.instanceMethod j_X0_thereBits.1 ∈ big ∧ Cond.selects j_X0_thereBits.1.cls j_X0_thereBits.1 j_X0_thereBits.1 ∈ big := ⟨bg_in 467 (by decide +kernel) rfl, bg_in 468 (by decide +kernel) rfl⟩
def j_X1_add : MI := (yX1_add, cX1_add, 2, none)
theorem kj_X1_add : KJ j_X1_add 1 := ⟨bg_in 726 (by decide +kernel) rfl, bg_in 6 (by decide +kernel) rfl, by decide, by decide +kernel, by decide +kernel, by decide +kernel⟩
theorem kv_X1_add : Cond.instanceMethod j_X1_add.1 ∈ big ∧ Cond.selects j_X1_add.1.cls j_X1_add.1 j_X1_add.1 ∈ big := ⟨bg_in 724 (by decide +kernel) rfl, bg_in 725 (by decide +kernel) rfl⟩
def j_X1_at : MI := (yX1_at, cX1_at, 3, (some .int))
theorem kj_X1_at : KJ j_X1_at 1 := ⟨bg_in 526 (by decide +kernel) rfl, bg_in 6 (by decide +kernel) rfl, by decide, by decide +kernel, by decide +kernel, by decide +kernel⟩
theorem kv_X1_at : Cond.instanceMethod j_X1_at.1 ∈ big ∧ Cond.selects j_X1_at.1.cls j_X1_at.1 j_X1_at.1 ∈ big := ⟨bg_in 524 (by decide +kernel) rfl, bg_in 525 (by decide +kernel) rfl⟩
def j_X1_init : MI := (yX1_init, cX1_init, 1, none)
theorem kj_X1_init : KJ j_X1_init 0 := ⟨bg_in 175 (by decide +kernel) rfl, bg_in 6 (by decide +kernel) rfl, by decide, by decide +kernel, by decide +kernel, by decide +kernel⟩
theorem ki_X1_init : Cond.instanceMethod j_X1_init.1 ∈ big := bg_in 174 (by decide +kernel) rfl
def j_X1_isFull : MI := (yX1_isFull, cX1_isFull, 1, (some .boolean))
theorem kj_X1_isFull : KJ j_X1_isFull 0 := ⟨bg_in 722 (by decide +kernel) rfl, bg_in 6 (by decide +kernel) rfl, by decide, by decide +kernel, by decide +kernel, by decide +kernel⟩
theorem kv_X1_isFull : Cond.instanceMethod j_X1_isFull.1 ∈ big ∧ Cond.selects j_X1_isFull.1.cls j_X1_isFull.1 j_X1_isFull.1 ∈ big := ⟨bg_in 720 (by decide +kernel) rfl, bg_in 721 (by decide +kernel) rfl⟩
def j_X1_number : MI := (yX1_number, cX1_number, 3, (some .int))
theorem kj_X1_number : KJ j_X1_number 0 := ⟨bg_in 731 (by decide +kernel) rfl, bg_in 6 (by decide +kernel) rfl, by decide, by decide +kernel, by decide +kernel, by decide +kernel⟩
theorem kv_X1_number : Cond.instanceMethod j_X1_number.1 ∈ big ∧ Cond.selects j_X1_number.1.cls j_X1_number.1 j_X1_number.1 ∈ big := ⟨bg_in 729 (by decide +kernel) rfl, bg_in 730 (by decide +kernel) rfl⟩
def j_X1_read : MI := (yX1_read, cX1_read, 4, none)
theorem kj_X1_read : KJ j_X1_read 1 := ⟨bg_in 518 (by decide +kernel) rfl, bg_in 6 (by decide +kernel) rfl, by decide, by decide +kernel, by decide +kernel, by decide +kernel⟩
theorem kv_X1_read : Cond.instanceMethod j_X1_read.1 ∈ big ∧ Cond.selects j_X1_read.1.cls j_X1_read.1 j_X1_read.1 ∈ big := ⟨bg_in 516 (by decide +kernel) rfl, bg_in 517 (by decide +kernel) rfl⟩
def j_X2_add : MI := (yX2_add, cX2_add, 2, none)
theorem kj_X2_add : KJ j_X2_add 1 := ⟨bg_in 300 (by decide +kernel) rfl, bg_in 7 (by decide +kernel) rfl, by decide, by decide +kernel, by decide +kernel, by decide +kernel⟩
theorem kv_X2_add : Cond.instanceMethod j_X2_add.1 ∈ big ∧ Cond.selects j_X2_add.1.cls j_X2_add.1 j_X2_add.1 ∈ big := ⟨bg_in 298 (by decide +kernel) rfl, bg_in 299 (by decide +kernel) rfl⟩
def j_X2_at : MI := (yX2_at, cX2_at, 3, (some .int))
theorem kj_X2_at : KJ j_X2_at 1 := ⟨bg_in 331 (by decide +kernel) rfl, bg_in 7 (by decide +kernel) rfl, by decide, by decide +kernel, by decide +kernel, by decide +kernel⟩
theorem kv_X2_at : Cond.instanceMethod j_X2_at.1 ∈ big ∧ Cond.selects j_X2_at.1.cls j_X2_at.1 j_X2_at.1 ∈ big := ⟨bg_in 329 (by decide +kernel) rfl, bg_in 330 (by decide +kernel) rfl⟩
def j_X2_init : MI := (yX2_init, cX2_init, 2, none)
theorem kj_X2_init : KJ j_X2_init 1 := ⟨bg_in 234 (by decide +kernel) rfl, bg_in 7 (by decide +kernel) rfl, by decide, by decide +kernel, by decide +kernel, by decide +kernel⟩
theorem ki_X2_init : Cond.instanceMethod j_X2_init.1 ∈ big := bg_in 233 (by decide +kernel) rfl
def j_X2_isFull : MI := (yX2_isFull, cX2_isFull, 1, (some .boolean))
theorem kj_X2_isFull : KJ j_X2_isFull 0 := ⟨bg_in 296 (by decide +kernel) rfl, bg_in 7 (by decide +kernel) rfl, by decide, by decide +kernel, by decide +kernel, by decide +kernel⟩
theorem kv_X2_isFull : Cond.instanceMethod j_X2_isFull.1 ∈ big ∧ Cond.selects j_X2_isFull.1.cls j_X2_isFull.1 j_X2_isFull.1 ∈ big := ⟨bg_in 294 (by decide +kernel) rfl, bg_in 295 (by decide +kernel) rfl⟩
def j_X3_addRoute : MI := (yX3_addRoute, cX3_addRoute, 8, (some .boolean))
theorem kj_X3_addRoute : KJ j_X3_addRoute 4 := ⟨bg_in 355 (by decide +kernel) rfl, bg_in 10 (by decide +kernel) rfl, by decide, by decide +kernel, by decide +kernel, by decide +kernel⟩
theorem ks_X3_addRoute : Cond.static j_X3_addRoute.1 ∈ big := bg_in 354 (by decide +kernel) rfl
def j_X3_drop : MI := (yX3_drop, cX3_drop, 2, (some .boolean))
theorem kj_X3_drop : KJ j_X3_drop 2 := ⟨bg_in 410 (by decide +kernel) rfl, bg_in 10 (by decide +kernel) rfl, by decide, by decide +kernel, by decide +kernel, by decide +kernel⟩
theorem ks_X3_drop : Cond.static j_X3_drop.1 ∈ big := bg_in 409 (by decide +kernel) rfl
def j_X3_isDigit : MI := (yX3_isDigit, cX3_isDigit, 1, (some .boolean))
theorem kj_X3_isDigit : KJ j_X3_isDigit 1 := ⟨bg_in 340 (by decide +kernel) rfl, bg_in 10 (by decide +kernel) rfl, by decide, by decide +kernel, by decide +kernel, by decide +kernel⟩
theorem ks_X3_isDigit : Cond.static j_X3_isDigit.1 ∈ big := bg_in 339 (by decide +kernel) rfl
def j_X3_isNamed : MI := (yX3_isNamed, cX3_isNamed, 1, (some .boolean))
theorem kj_X3_isNamed : KJ j_X3_isNamed 1 := ⟨bg_in 346 (by decide +kernel) rfl, bg_in 10 (by decide +kernel) rfl, by decide, by decide +kernel, by decide +kernel, by decide +kernel⟩
theorem ks_X3_isNamed : Cond.static j_X3_isNamed.1 ∈ big := bg_in 345 (by decide +kernel) rfl
def j_X3_obey : MI := (yX3_obey, cX3_obey, 6, (some .boolean))
theorem kj_X3_obey : KJ j_X3_obey 4 := ⟨bg_in 349 (by decide +kernel) rfl, bg_in 10 (by decide +kernel) rfl, by decide, by decide +kernel, by decide +kernel, by decide +kernel⟩
theorem ks_X3_obey : Cond.static j_X3_obey.1 ∈ big := bg_in 348 (by decide +kernel) rfl
def j_X3_placeOfFormFault : MI := (yX3_placeOfFormFault, cX3_placeOfFormFault, 3, (some .int))
theorem kj_X3_placeOfFormFault : KJ j_X3_placeOfFormFault 1 := ⟨bg_in 327 (by decide +kernel) rfl, bg_in 10 (by decide +kernel) rfl, by decide, by decide +kernel, by decide +kernel, by decide +kernel⟩
theorem ks_X3_placeOfFormFault : Cond.static j_X3_placeOfFormFault.1 ∈ big := bg_in 326 (by decide +kernel) rfl
def j_X3_read : MI := (yX3_read, cX3_read, 6, (some .int))
theorem kj_X3_read : KJ j_X3_read 2 := ⟨bg_in 324 (by decide +kernel) rfl, bg_in 10 (by decide +kernel) rfl, by decide, by decide +kernel, by decide +kernel, by decide +kernel⟩
theorem ks_X3_read : Cond.static j_X3_read.1 ∈ big := bg_in 323 (by decide +kernel) rfl
def j_X3_readSegments : MI := (yX3_readSegments, cX3_readSegments, 8, (some .boolean))
theorem kj_X3_readSegments : KJ j_X3_readSegments 4 := ⟨bg_in 369 (by decide +kernel) rfl, bg_in 10 (by decide +kernel) rfl, by decide, by decide +kernel, by decide +kernel, by decide +kernel⟩
theorem ks_X3_readSegments : Cond.static j_X3_readSegments.1 ∈ big := bg_in 368 (by decide +kernel) rfl
def j_X3_segmentOf : MI := (yX3_segmentOf, cX3_segmentOf, 2, (some .int))
theorem kj_X3_segmentOf : KJ j_X3_segmentOf 2 := ⟨bg_in 392 (by decide +kernel) rfl, bg_in 10 (by decide +kernel) rfl, by decide, by decide +kernel, by decide +kernel, by decide +kernel⟩
theorem ks_X3_segmentOf : Cond.static j_X3_segmentOf.1 ∈ big := bg_in 391 (by decide +kernel) rfl
def j_X3_stateBehind : MI := (yX3_stateBehind, cX3_stateBehind, 2, (some .int))
theorem kj_X3_stateBehind : KJ j_X3_stateBehind 2 := ⟨bg_in 334 (by decide +kernel) rfl, bg_in 10 (by decide +kernel) rfl, by decide, by decide +kernel, by decide +kernel, by decide +kernel⟩
theorem ks_X3_stateBehind : Cond.static j_X3_stateBehind.1 ∈ big := bg_in 333 (by decide +kernel) rfl
def j_X3_stateBehindClose : MI := (yX3_stateBehindClose, cX3_stateBehindClose, 1, (some .int))
theorem kj_X3_stateBehindClose : KJ j_X3_stateBehindClose 1 := ⟨bg_in 343 (by decide +kernel) rfl, bg_in 10 (by decide +kernel) rfl, by decide, by decide +kernel, by decide +kernel, by decide +kernel⟩
theorem ks_X3_stateBehindClose : Cond.static j_X3_stateBehindClose.1 ∈ big := bg_in 342 (by decide +kernel) rfl
def j_X3_stateBehindFirst : MI := (yX3_stateBehindFirst, cX3_stateBehindFirst, 1, (some .int))
theorem kj_X3_stateBehindFirst : KJ j_X3_stateBehindFirst 1 := ⟨bg_in 337 (by decide +kernel) rfl, bg_in 10 (by decide +kernel) rfl, by decide, by decide +kernel, by decide +kernel, by decide +kernel⟩
theorem ks_X3_stateBehindFirst : Cond.static j_X3_stateBehindFirst.1 ∈ big := bg_in 336 (by decide +kernel) rfl
def j_X3_turn : MI := (yX3_turn, cX3_turn, 4, (some .boolean))
theorem kj_X3_turn : KJ j_X3_turn 4 := ⟨bg_in 406 (by decide +kernel) rfl, bg_in 10 (by decide +kernel) rfl, by decide, by decide +kernel, by decide +kernel, by decide +kernel⟩
theorem ks_X3_turn : Cond.static j_X3_turn.1 ∈ big := bg_in 405 (by decide +kernel) rfl
def j_X4_add : MI := (yX4_add, cX4_add, 2, none)
theorem kj_X4_add : KJ j_X4_add 1 := ⟨bg_in 396 (by decide +kernel) rfl, bg_in 3 (by decide +kernel) rfl, by decide, by decide +kernel, by decide +kernel, by decide +kernel⟩
theorem kv_X4_add : Cond.instanceMethod j_X4_add.1 ∈ big ∧ Cond.selects j_X4_add.1.cls j_X4_add.1 j_X4_add.1 ∈ big := ⟨bg_in 394 (by decide +kernel) rfl, bg_in 395 (by decide +kernel) rfl⟩
def j_X4_copyFrom : MI := (yX4_copyFrom, cX4_copyFrom, 3, none)
theorem kj_X4_copyFrom : KJ j_X4_copyFrom 1 := ⟨bg_in 320 (by decide +kernel) rfl, bg_in 3 (by decide +kernel) rfl, by decide, by decide +kernel, by decide +kernel, by decide +kernel⟩
theorem kv_X4_copyFrom : Cond.instanceMethod j_X4_copyFrom.1 ∈ big ∧ Cond.selects j_X4_copyFrom.1.cls j_X4_copyFrom.1 j_X4_copyFrom.1 ∈ big := ⟨bg_in 318 (by decide +kernel) rfl, bg_in 319 (by decide +kernel) rfl⟩
def j_X4_empty : MI := (yX4_empty, cX4_empty, 1, none)
theorem kj_X4_empty : KJ j_X4_empty 0 := ⟨bg_in 373 (by decide +kernel) rfl, bg_in 3 (by decide +kernel) rfl, by decide, by decide +kernel, by decide +kernel, by decide +kernel⟩
theorem kv_X4_empty : Cond.instanceMethod j_X4_empty.1 ∈ big ∧ Cond.selects j_X4_empty.1.cls j_X4_empty.1 j_X4_empty.1 ∈ big := ⟨bg_in 371 (by decide +kernel) rfl, bg_in 372 (by decide +kernel) rfl⟩
def j_X4_hasRest : MI := (yX4_hasRest, cX4_hasRest, 1, (some .boolean))
theorem kj_X4_hasRest : KJ j_X4_hasRest 0 := ⟨bg_in 389 (by decide +kernel) rfl, bg_in 3 (by decide +kernel) rfl, by decide, by decide +kernel, by decide +kernel, by decide +kernel⟩
theorem kv_X4_hasRest : Cond.instanceMethod j_X4_hasRest.1 ∈ big ∧ Cond.selects j_X4_hasRest.1.cls j_X4_hasRest.1 j_X4_hasRest.1 ∈ big := ⟨bg_in 387 (by decide +kernel) rfl, bg_in 388 (by decide +kernel) rfl⟩
def j_X4_init : MI := (yX4_init, cX4_init, 1, none)
theorem kj_X4_init : KJ j_X4_init 0 := ⟨bg_in 35 (by decide +kernel) rfl, bg_in 3 (by decide +kernel) rfl, by decide, by decide +kernel, by decide +kernel, by decide +kernel⟩
theorem ki_X4_init : Cond.instanceMethod j_X4_init.1 ∈ big := bg_in 34 (by decide +kernel) rfl
def j_X4_isAlike : MI := (yX4_isAlike, cX4_isAlike, 4, (some .boolean))
theorem kj_X4_isAlike : KJ j_X4_isAlike 1 := ⟨bg_in 692 (by decide +kernel) rfl, bg_in 3 (by decide +kernel) rfl, by decide, by decide +kernel, by decide +kernel, by decide +kernel⟩
theorem kv_X4_isAlike : Cond.instanceMethod j_X4_isAlike.1 ∈ big ∧ Cond.selects j_X4_isAlike.1.cls j_X4_isAlike.1 j_X4_isAlike.1 ∈ big := ⟨bg_in 690 (by decide +kernel) rfl, bg_in 691 (by decide +kernel) rfl⟩
def j_X4_isFull : MI := (yX4_isFull, cX4_isFull, 1, (some .boolean))
theorem kj_X4_isFull : KJ j_X4_isFull 0 := ⟨bg_in 385 (by decide +kernel) rfl, bg_in 3 (by decide +kernel) rfl, by decide, by decide +kernel, by decide +kernel, by decide +kernel⟩
theorem kv_X4_isFull : Cond.instanceMethod j_X4_isFull.1 ∈ big ∧ Cond.selects j_X4_isFull.1.cls j_X4_isFull.1 j_X4_isFull.1 ∈ big := ⟨bg_in 383 (by decide +kernel) rfl, bg_in 384 (by decide +kernel) rfl⟩
def j_X4_isMount : MI := (yX4_isMount, cX4_isMount, 1, (some .boolean))
theorem kj_X4_isMount : KJ j_X4_isMount 0 := ⟨bg_in 437 (by decide +kernel) rfl, bg_in 3 (by decide +kernel) rfl, by decide, by decide +kernel, by decide +kernel, by decide +kernel⟩
theorem kv_X4_isMount : Cond.instanceMethod j_X4_isMount.1 ∈ big ∧ Cond.selects j_X4_isMount.1.cls j_X4_isMount.1 j_X4_isMount.1 ∈ big := ⟨bg_in 435 (by decide +kernel) rfl, bg_in 436 (by decide +kernel) rfl⟩
def j_X4_parameterBits : MI := (yX4_parameterBits, cX4_parameterBits, 3, (some .int))
theorem kj_X4_parameterBits : KJ j_X4_parameterBits 0 := ⟨bg_in 492 (by decide +kernel) rfl, bg_in 3 (by decide +kernel) rfl, by decide, by decide +kernel, by decide +kernel, by decide +kernel⟩
theorem kv_X4_parameterBits : Cond.instanceMethod j_X4_parameterBits.1 ∈ big ∧ Cond.selects j_X4_parameterBits.1.cls j_X4_parameterBits.1 j_X4_parameterBits.1 ∈ big := ⟨bg_in 490 (by decide +kernel) rfl, bg_in 491 (by decide +kernel) rfl⟩
def j_X4_placeOf : MI := (yX4_placeOf, cX4_placeOf, 4, (some .int))
theorem kj_X4_placeOf : KJ j_X4_placeOf 1 := ⟨bg_in 377 (by decide +kernel) rfl, bg_in 3 (by decide +kernel) rfl, by decide, by decide +kernel, by decide +kernel, by decide +kernel⟩
theorem kv_X4_placeOf : Cond.instanceMethod j_X4_placeOf.1 ∈ big ∧ Cond.selects j_X4_placeOf.1.cls j_X4_placeOf.1 j_X4_placeOf.1 ∈ big := ⟨bg_in 375 (by decide +kernel) rfl, bg_in 376 (by decide +kernel) rfl⟩
def j_X4_segmentAt : MI := (yX4_segmentAt, cX4_segmentAt, 3, (some .int))
theorem kj_X4_segmentAt : KJ j_X4_segmentAt 1 := ⟨bg_in 381 (by decide +kernel) rfl, bg_in 3 (by decide +kernel) rfl, by decide, by decide +kernel, by decide +kernel, by decide +kernel⟩
theorem kv_X4_segmentAt : Cond.instanceMethod j_X4_segmentAt.1 ∈ big ∧ Cond.selects j_X4_segmentAt.1.cls j_X4_segmentAt.1 j_X4_segmentAt.1 ∈ big := ⟨bg_in 379 (by decide +kernel) rfl, bg_in 380 (by decide +kernel) rfl⟩
def j_X4_takes : MI := (yX4_takes, cX4_takes, 5, (some .boolean))
theorem kj_X4_takes : KJ j_X4_takes 1 := ⟨bg_in 676 (by decide +kernel) rfl, bg_in 3 (by decide +kernel) rfl, by decide, by decide +kernel, by decide +kernel, by decide +kernel⟩
theorem kv_X4_takes : Cond.instanceMethod j_X4_takes.1 ∈ big ∧ Cond.selects j_X4_takes.1.cls j_X4_takes.1 j_X4_takes.1 ∈ big := ⟨bg_in 674 (by decide +kernel) rfl, bg_in 675 (by decide +kernel) rfl⟩
def j_X5_addNode : MI := (yX5_addNode, cX5_addNode, 4, (some .int))
theorem kj_X5_addNode : KJ j_X5_addNode 1 := ⟨bg_in 118 (by decide +kernel) rfl, bg_in 5 (by decide +kernel) rfl, by decide, by decide +kernel, by decide +kernel, by decide +kernel⟩
theorem kv_X5_addNode : Cond.instanceMethod j_X5_addNode.1 ∈ big ∧ Cond.selects j_X5_addNode.1.cls j_X5_addNode.1 j_X5_addNode.1 ∈ big := ⟨bg_in 117 (by decide +kernel) rfl, pv_in 1 (by decide +kernel) rfl⟩
def j_X5_edgeOf : MI := (yX5_edgeOf, cX5_edgeOf, 1, (some .int))
theorem kj_X5_edgeOf : KJ j_X5_edgeOf 1 := ⟨bg_in 430 (by decide +kernel) rfl, bg_in 5 (by decide +kernel) rfl, by decide, by decide +kernel, by decide +kernel, by decide +kernel⟩
theorem ks_X5_edgeOf : Cond.static j_X5_edgeOf.1 ∈ big := bg_in 429 (by decide +kernel) rfl
def j_X5_empty : MI := (yX5_empty, cX5_empty, 2, none)
theorem kj_X5_empty : KJ j_X5_empty 0 := ⟨bg_in 114 (by decide +kernel) rfl, bg_in 5 (by decide +kernel) rfl, by decide, by decide +kernel, by decide +kernel, by decide +kernel⟩
theorem kv_X5_empty : Cond.instanceMethod j_X5_empty.1 ∈ big ∧ Cond.selects j_X5_empty.1.cls j_X5_empty.1 j_X5_empty.1 ∈ big := ⟨bg_in 113 (by decide +kernel) rfl, pv_in 0 (by decide +kernel) rfl⟩
def j_X5_findWays : MI := (yX5_findWays, cX5_findWays, 7, none)
theorem kj_X5_findWays : KJ j_X5_findWays 1 := ⟨bg_in 448 (by decide +kernel) rfl, bg_in 5 (by decide +kernel) rfl, by decide, by decide +kernel, by decide +kernel, by decide +kernel⟩
theorem kv_X5_findWays : Cond.instanceMethod j_X5_findWays.1 ∈ big ∧ Cond.selects j_X5_findWays.1.cls j_X5_findWays.1 j_X5_findWays.1 ∈ big := ⟨bg_in 447 (by decide +kernel) rfl, pv_in 4 (by decide +kernel) rfl⟩
def j_X5_grow : MI := (yX5_grow, cX5_grow, 3, none)
theorem kj_X5_grow : KJ j_X5_grow 1 := ⟨bg_in 419 (by decide +kernel) rfl, bg_in 5 (by decide +kernel) rfl, by decide, by decide +kernel, by decide +kernel, by decide +kernel⟩
theorem kv_X5_grow : Cond.instanceMethod j_X5_grow.1 ∈ big ∧ Cond.selects j_X5_grow.1.cls j_X5_grow.1 j_X5_grow.1 ∈ big := ⟨bg_in 417 (by decide +kernel) rfl, bg_in 418 (by decide +kernel) rfl⟩
def j_X5_init : MI := (yX5_init, cX5_init, 1, none)
theorem kj_X5_init : KJ j_X5_init 0 := ⟨bg_in 109 (by decide +kernel) rfl, bg_in 5 (by decide +kernel) rfl, by decide, by decide +kernel, by decide +kernel, by decide +kernel⟩
theorem ki_X5_init : Cond.instanceMethod j_X5_init.1 ∈ big := bg_in 108 (by decide +kernel) rfl
def j_X5_mark : MI := (yX5_mark, cX5_mark, 3, none)
theorem kj_X5_mark : KJ j_X5_mark 3 := ⟨bg_in 433 (by decide +kernel) rfl, bg_in 5 (by decide +kernel) rfl, by decide, by decide +kernel, by decide +kernel, by decide +kernel⟩
theorem ks_X5_mark : Cond.static j_X5_mark.1 ∈ big := bg_in 432 (by decide +kernel) rfl
def j_X5_nodeBehind : MI := (yX5_nodeBehind, cX5_nodeBehind, 6, (some .int))
theorem kj_X5_nodeBehind : KJ j_X5_nodeBehind 3 := ⟨bg_in 604 (by decide +kernel) rfl, bg_in 5 (by decide +kernel) rfl, by decide, by decide +kernel, by decide +kernel, by decide +kernel⟩
theorem kv_X5_nodeBehind : Cond.instanceMethod j_X5_nodeBehind.1 ∈ big ∧ Cond.selects j_X5_nodeBehind.1.cls j_X5_nodeBehind.1 j_X5_nodeBehind.1 ∈ big := ⟨bg_in 602 (by decide +kernel) rfl, bg_in 603 (by decide +kernel) rfl⟩
def j_X5_nodesOf : MI := (yX5_nodesOf, cX5_nodesOf, 4, (some .int))
theorem kj_X5_nodesOf : KJ j_X5_nodesOf 1 := ⟨bg_in 507 (by decide +kernel) rfl, bg_in 5 (by decide +kernel) rfl, by decide, by decide +kernel, by decide +kernel, by decide +kernel⟩
theorem kv_X5_nodesOf : Cond.instanceMethod j_X5_nodesOf.1 ∈ big ∧ Cond.selects j_X5_nodesOf.1.cls j_X5_nodesOf.1 j_X5_nodesOf.1 ∈ big := ⟨bg_in 505 (by decide +kernel) rfl, bg_in 506 (by decide +kernel) rfl⟩
def j_X5_plant : MI := (yX5_plant, cX5_plant, 6, none)
theorem kj_X5_plant : KJ j_X5_plant 2 := ⟨bg_in 426 (by decide +kernel) rfl, bg_in 5 (by decide +kernel) rfl, by decide, by decide +kernel, by decide +kernel, by decide +kernel⟩
theorem kv_X5_plant : Cond.instanceMethod j_X5_plant.1 ∈ big ∧ Cond.selects j_X5_plant.1.cls j_X5_plant.1 j_X5_plant.1 ∈ big := ⟨bg_in 425 (by decide +kernel) rfl, pv_in 3 (by decide +kernel) rfl⟩
def j_X6_bring : MI := (yX6_bring, cX6_bring, 4, (some .int))
theorem kj_X6_bring : KJ j_X6_bring 3 := ⟨bg_in 534 (by decide +kernel) rfl, bg_in 4 (by decide +kernel) rfl, by decide, by decide +kernel, by decide +kernel, by decide +kernel⟩
theorem kv_X6_bring : Cond.instanceMethod j_X6_bring.1 ∈ big ∧ Cond.selects j_X6_bring.1.cls j_X6_bring.1 j_X6_bring.1 ∈ big := ⟨bg_in 532 (by decide +kernel) rfl, bg_in 533 (by decide +kernel) rfl⟩
def j_X6_bringAll : MI := (yX6_bringAll, cX6_bringAll, 4, none)
theorem kj_X6_bringAll : KJ j_X6_bringAll 2 := ⟨bg_in 667 (by decide +kernel) rfl, bg_in 4 (by decide +kernel) rfl, by decide, by decide +kernel, by decide +kernel, by decide +kernel⟩
theorem kv_X6_bringAll : Cond.instanceMethod j_X6_bringAll.1 ∈ big ∧ Cond.selects j_X6_bringAll.1.cls j_X6_bringAll.1 j_X6_bringAll.1 ∈ big := ⟨bg_in 665 (by decide +kernel) rfl, bg_in 666 (by decide +kernel) rfl⟩
def j_X6_endBy : MI := (yX6_endBy, cX6_endBy, 7, (some .int))
theorem kj_X6_endBy : KJ j_X6_endBy 4 := ⟨bg_in 617 (by decide +kernel) rfl, bg_in 4 (by decide +kernel) rfl, by decide, by decide +kernel, by decide +kernel, by decide +kernel⟩
theorem kv_X6_endBy : Cond.instanceMethod j_X6_endBy.1 ∈ big ∧ Cond.selects j_X6_endBy.1.cls j_X6_endBy.1 j_X6_endBy.1 ∈ big := ⟨bg_in 616 (by decide +kernel) rfl, pv_in 8 (by decide +kernel) rfl⟩
def j_X6_init : MI := (yX6_init, cX6_init, 1, none)
theorem kj_X6_init : KJ j_X6_init 0 := ⟨bg_in 103 (by decide +kernel) rfl, bg_in 4 (by decide +kernel) rfl, by decide, by decide +kernel, by decide +kernel, by decide +kernel⟩
theorem ki_X6_init : Cond.instanceMethod j_X6_init.1 ∈ big := bg_in 102 (by decide +kernel) rfl
def j_X6_look : MI := (yX6_look, cX6_look, 13, (some .int))
theorem kj_X6_look : KJ j_X6_look 4 := ⟨bg_in 539 (by decide +kernel) rfl, bg_in 4 (by decide +kernel) rfl, by decide, by decide +kernel, by decide +kernel, by decide +kernel⟩
theorem kv_X6_look : Cond.instanceMethod j_X6_look.1 ∈ big ∧ Cond.selects j_X6_look.1.cls j_X6_look.1 j_X6_look.1 ∈ big := ⟨bg_in 538 (by decide +kernel) rfl, pv_in 5 (by decide +kernel) rfl⟩
def j_X6_lookAtMounts : MI := (yX6_lookAtMounts, cX6_lookAtMounts, 8, (some .int))
theorem kj_X6_lookAtMounts : KJ j_X6_lookAtMounts 4 := ⟨bg_in 611 (by decide +kernel) rfl, bg_in 4 (by decide +kernel) rfl, by decide, by decide +kernel, by decide +kernel, by decide +kernel⟩
theorem kv_X6_lookAtMounts : Cond.instanceMethod j_X6_lookAtMounts.1 ∈ big ∧ Cond.selects j_X6_lookAtMounts.1.cls j_X6_lookAtMounts.1 j_X6_lookAtMounts.1 ∈ big := ⟨bg_in 610 (by decide +kernel) rfl, pv_in 7 (by decide +kernel) rfl⟩
def j_X6_nextBy : MI := (yX6_nextBy, cX6_nextBy, 6, (some .int))
theorem kj_X6_nextBy : KJ j_X6_nextBy 3 := ⟨bg_in 599 (by decide +kernel) rfl, bg_in 4 (by decide +kernel) rfl, by decide, by decide +kernel, by decide +kernel, by decide +kernel⟩
theorem kv_X6_nextBy : Cond.instanceMethod j_X6_nextBy.1 ∈ big ∧ Cond.selects j_X6_nextBy.1.cls j_X6_nextBy.1 j_X6_nextBy.1 ∈ big := ⟨bg_in 598 (by decide +kernel) rfl, pv_in 6 (by decide +kernel) rfl⟩
def j_X6_orderOf : MI := (yX6_orderOf, cX6_orderOf, 1, (some (.object "java/lang/String")))
theorem kj_X6_orderOf : KJ j_X6_orderOf 1 := ⟨bg_in 543 (by decide +kernel) rfl, bg_in 4 (by decide +kernel) rfl, by decide, by decide +kernel, by decide +kernel, by decide +kernel⟩
theorem ks_X6_orderOf : Cond.static j_X6_orderOf.1 ∈ big := bg_in 542 (by decide +kernel) rfl
def j_X7_askedVerb : MI := (yX7_askedVerb, cX7_askedVerb, 3, (some .int))
theorem kj_X7_askedVerb : KJ j_X7_askedVerb 1 := ⟨bg_in 650 (by decide +kernel) rfl, bg_in 1 (by decide +kernel) rfl, by decide, by decide +kernel, by decide +kernel, by decide +kernel⟩
theorem kv_X7_askedVerb : Cond.instanceMethod j_X7_askedVerb.1 ∈ big ∧ Cond.selects j_X7_askedVerb.1.cls j_X7_askedVerb.1 j_X7_askedVerb.1 ∈ big := ⟨bg_in 649 (by decide +kernel) rfl, pv_in 10 (by decide +kernel) rfl⟩
def j_X7_back : MI := (yX7_back, cX7_back, 7, (some .int))
theorem kj_X7_back : KJ j_X7_back 1 := ⟨bg_in 735 (by decide +kernel) rfl, bg_in 1 (by decide +kernel) rfl, by decide, by decide +kernel, by decide +kernel, by decide +kernel⟩
theorem kv_X7_back : Cond.instanceMethod j_X7_back.1 ∈ big ∧ Cond.selects j_X7_back.1.cls j_X7_back.1 j_X7_back.1 ∈ big := ⟨bg_in 733 (by decide +kernel) rfl, bg_in 734 (by decide +kernel) rfl⟩
def j_X7_best : MI := (yX7_best, cX7_best, 7, (some .int))
theorem kj_X7_best : KJ j_X7_best 1 := ⟨bg_in 743 (by decide +kernel) rfl, bg_in 1 (by decide +kernel) rfl, by decide, by decide +kernel, by decide +kernel, by decide +kernel⟩
theorem kv_X7_best : Cond.instanceMethod j_X7_best.1 ∈ big ∧ Cond.selects j_X7_best.1.cls j_X7_best.1 j_X7_best.1 ∈ big := ⟨bg_in 741 (by decide +kernel) rfl, bg_in 742 (by decide +kernel) rfl⟩
def j_X7_bound : MI := (yX7_bound, cX7_bound, 5, (some .int))
theorem kj_X7_bound : KJ j_X7_bound 3 := ⟨bg_in 626 (by decide +kernel) rfl, bg_in 1 (by decide +kernel) rfl, by decide, by decide +kernel, by decide +kernel, by decide +kernel⟩
theorem kv_X7_bound : Cond.instanceMethod j_X7_bound.1 ∈ big ∧ Cond.selects j_X7_bound.1.cls j_X7_bound.1 j_X7_bound.1 ∈ big := ⟨bg_in 624 (by decide +kernel) rfl, bg_in 625 (by decide +kernel) rfl⟩
def j_X7_brought : MI := (yX7_brought, cX7_brought, 8, (some .int))
theorem kj_X7_brought : KJ j_X7_brought 2 := ⟨bg_in 643 (by decide +kernel) rfl, bg_in 1 (by decide +kernel) rfl, by decide, by decide +kernel, by decide +kernel, by decide +kernel⟩
theorem kv_X7_brought : Cond.instanceMethod j_X7_brought.1 ∈ big ∧ Cond.selects j_X7_brought.1.cls j_X7_brought.1 j_X7_brought.1 ∈ big := ⟨bg_in 641 (by decide +kernel) rfl, bg_in 642 (by decide +kernel) rfl⟩
def j_X7_build : MI := (yX7_build, cX7_build, 7, (some .int))
theorem kj_X7_build : KJ j_X7_build 5 := ⟨bg_in 698 (by decide +kernel) rfl, bg_in 1 (by decide +kernel) rfl, by decide, by decide +kernel, by decide +kernel, by decide +kernel⟩
theorem kv_X7_build : Cond.instanceMethod j_X7_build.1 ∈ big ∧ Cond.selects j_X7_build.1.cls j_X7_build.1 j_X7_build.1 ∈ big := ⟨bg_in 696 (by decide +kernel) rfl, bg_in 697 (by decide +kernel) rfl⟩
def j_X7_clash : MI := (yX7_clash, cX7_clash, 6, (some .int))
theorem kj_X7_clash : KJ j_X7_clash 1 := ⟨bg_in 684 (by decide +kernel) rfl, bg_in 1 (by decide +kernel) rfl, by decide, by decide +kernel, by decide +kernel, by decide +kernel⟩
theorem kv_X7_clash : Cond.instanceMethod j_X7_clash.1 ∈ big ∧ Cond.selects j_X7_clash.1.cls j_X7_clash.1 j_X7_clash.1 ∈ big := ⟨bg_in 682 (by decide +kernel) rfl, bg_in 683 (by decide +kernel) rfl⟩
def j_X7_clashing : MI := (yX7_clashing, cX7_clashing, 6, (some .boolean))
theorem kj_X7_clashing : KJ j_X7_clashing 2 := ⟨bg_in 688 (by decide +kernel) rfl, bg_in 1 (by decide +kernel) rfl, by decide, by decide +kernel, by decide +kernel, by decide +kernel⟩
theorem kv_X7_clashing : Cond.instanceMethod j_X7_clashing.1 ∈ big ∧ Cond.selects j_X7_clashing.1.cls j_X7_clashing.1 j_X7_clashing.1 ∈ big := ⟨bg_in 687 (by decide +kernel) rfl, pv_in 11 (by decide +kernel) rfl⟩
def j_X7_clear : MI := (yX7_clear, cX7_clear, 2, (some .int))
theorem kj_X7_clear : KJ j_X7_clear 0 := ⟨bg_in 787 (by decide +kernel) rfl, bg_in 1 (by decide +kernel) rfl, by decide, by decide +kernel, by decide +kernel, by decide +kernel⟩
theorem kv_X7_clear : Cond.instanceMethod j_X7_clear.1 ∈ big ∧ Cond.selects j_X7_clear.1.cls j_X7_clear.1 j_X7_clear.1 ∈ big := ⟨bg_in 785 (by decide +kernel) rfl, bg_in 786 (by decide +kernel) rfl⟩
def j_X7_copies : MI := (yX7_copies, cX7_copies, 5, (some .int))
theorem kj_X7_copies : KJ j_X7_copies 2 := ⟨bg_in 480 (by decide +kernel) rfl, bg_in 1 (by decide +kernel) rfl, by decide, by decide +kernel, by decide +kernel, by decide +kernel⟩
theorem kv_X7_copies : Cond.instanceMethod j_X7_copies.1 ∈ big ∧ Cond.selects j_X7_copies.1.cls j_X7_copies.1 j_X7_copies.1 ∈ big := ⟨bg_in 478 (by decide +kernel) rfl, bg_in 479 (by decide +kernel) rfl⟩
def j_X7_count : MI := (yX7_count, cX7_count, 2, (some .int))
theorem kj_X7_count : KJ j_X7_count 1 := ⟨bg_in 812 (by decide +kernel) rfl, bg_in 1 (by decide +kernel) rfl, by decide, by decide +kernel, by decide +kernel, by decide +kernel⟩
theorem kv_X7_count : Cond.instanceMethod j_X7_count.1 ∈ big ∧ Cond.selects j_X7_count.1.cls j_X7_count.1 j_X7_count.1 ∈ big := ⟨bg_in 810 (by decide +kernel) rfl, bg_in 811 (by decide +kernel) rfl⟩
def j_X7_drawn : MI := (yX7_drawn, cX7_drawn, 1, (some .int))
theorem kj_X7_drawn : KJ j_X7_drawn 1 := ⟨bg_in 799 (by decide +kernel) rfl, bg_in 1 (by decide +kernel) rfl, by decide, by decide +kernel, by decide +kernel, by decide +kernel⟩
theorem ks_X7_drawn : Cond.static j_X7_drawn.1 ∈ big := bg_in 798 (by decide +kernel) rfl
def j_X7_drops : MI := (yX7_drops, cX7_drops, 2, (some .int))
theorem kj_X7_drops : KJ j_X7_drops 1 := ⟨bg_in 465 (by decide +kernel) rfl, bg_in 1 (by decide +kernel) rfl, by decide, by decide +kernel, by decide +kernel, by decide +kernel⟩
theorem kv_X7_drops : Cond.instanceMethod j_X7_drops.1 ∈ big ∧ Cond.selects j_X7_drops.1.cls j_X7_drops.1 j_X7_drops.1 ∈ big := ⟨bg_in 463 (by decide +kernel) rfl, bg_in 464 (by decide +kernel) rfl⟩
def j_X7_firstNotSo : MI := (yX7_firstNotSo, cX7_firstNotSo, 5, (some .int))
theorem kj_X7_firstNotSo : KJ j_X7_firstNotSo 1 := ⟨bg_in 774 (by decide +kernel) rfl, bg_in 1 (by decide +kernel) rfl, by decide, by decide +kernel, by decide +kernel, by decide +kernel⟩
theorem kv_X7_firstNotSo : Cond.instanceMethod j_X7_firstNotSo.1 ∈ big ∧ Cond.selects j_X7_firstNotSo.1.cls j_X7_firstNotSo.1 j_X7_firstNotSo.1 ∈ big := ⟨bg_in 773 (by decide +kernel) rfl, pv_in 17 (by decide +kernel) rfl⟩
def j_X7_fits : MI := (yX7_fits, cX7_fits, 2, (some .boolean))
theorem kj_X7_fits : KJ j_X7_fits 2 := ⟨bg_in 607 (by decide +kernel) rfl, bg_in 1 (by decide +kernel) rfl, by decide, by decide +kernel, by decide +kernel, by decide +kernel⟩
theorem ks_X7_fits : Cond.static j_X7_fits.1 ∈ big := bg_in 606 (by decide +kernel) rfl
def j_X7_give : MI := (yX7_give, cX7_give, 5, none)
theorem kj_X7_give : KJ j_X7_give 4 := ⟨bg_in 705 (by decide +kernel) rfl, bg_in 1 (by decide +kernel) rfl, by decide, by decide +kernel, by decide +kernel, by decide +kernel⟩
theorem kv_X7_give : Cond.instanceMethod j_X7_give.1 ∈ big ∧ Cond.selects j_X7_give.1.cls j_X7_give.1 j_X7_give.1 ∈ big := ⟨bg_in 704 (by decide +kernel) rfl, pv_in 12 (by decide +kernel) rfl⟩
def j_X7_greatestDivisor : MI := (yX7_greatestDivisor, cX7_greatestDivisor, 11, (some .long))
theorem kj_X7_greatestDivisor : KJ j_X7_greatestDivisor 2 := ⟨bg_in 761 (by decide +kernel) rfl, bg_in 1 (by decide +kernel) rfl, by decide, by decide +kernel, by decide +kernel, by decide +kernel⟩
theorem ks_X7_greatestDivisor : Cond.static j_X7_greatestDivisor.1 ∈ big := bg_in 760 (by decide +kernel) rfl
def j_X7_has : MI := (yX7_has, cX7_has, 2, (some .boolean))
theorem kj_X7_has : KJ j_X7_has 2 := ⟨bg_in 444 (by decide +kernel) rfl, bg_in 1 (by decide +kernel) rfl, by decide, by decide +kernel, by decide +kernel, by decide +kernel⟩
theorem ks_X7_has : Cond.static j_X7_has.1 ∈ big := bg_in 443 (by decide +kernel) rfl
def j_X7_image : MI := (yX7_image, cX7_image, 1, (some .int))
theorem kj_X7_image : KJ j_X7_image 0 := ⟨bg_in 804 (by decide +kernel) rfl, bg_in 1 (by decide +kernel) rfl, by decide, by decide +kernel, by decide +kernel, by decide +kernel⟩
theorem kv_X7_image : Cond.instanceMethod j_X7_image.1 ∈ big ∧ Cond.selects j_X7_image.1.cls j_X7_image.1 j_X7_image.1 ∈ big := ⟨bg_in 802 (by decide +kernel) rfl, bg_in 803 (by decide +kernel) rfl⟩
def j_X7_init : MI := (yX7_init, cX7_init, 1, none)
theorem kj_X7_init : KJ j_X7_init 0 := ⟨bg_in 20 (by decide +kernel) rfl, bg_in 1 (by decide +kernel) rfl, by decide, by decide +kernel, by decide +kernel, by decide +kernel⟩
theorem ki_X7_init : Cond.instanceMethod j_X7_init.1 ∈ big := bg_in 19 (by decide +kernel) rfl
def j_X7_isLetter : MI := (yX7_isLetter, cX7_isLetter, 1, (some .boolean))
theorem kj_X7_isLetter : KJ j_X7_isLetter 1 := ⟨bg_in 701 (by decide +kernel) rfl, bg_in 1 (by decide +kernel) rfl, by decide, by decide +kernel, by decide +kernel, by decide +kernel⟩
theorem ks_X7_isLetter : Cond.static j_X7_isLetter.1 ∈ big := bg_in 700 (by decide +kernel) rfl
def j_X7_isOneOfTwo : MI := (yX7_isOneOfTwo, cX7_isOneOfTwo, 1, (some .boolean))
theorem kj_X7_isOneOfTwo : KJ j_X7_isOneOfTwo 1 := ⟨bg_in 646 (by decide +kernel) rfl, bg_in 1 (by decide +kernel) rfl, by decide, by decide +kernel, by decide +kernel, by decide +kernel⟩
theorem ks_X7_isOneOfTwo : Cond.static j_X7_isOneOfTwo.1 ∈ big := bg_in 645 (by decide +kernel) rfl
def j_X7_isPath : MI := (yX7_isPath, cX7_isPath, 1, (some .boolean))
theorem kj_X7_isPath : KJ j_X7_isPath 1 := ⟨bg_in 514 (by decide +kernel) rfl, bg_in 1 (by decide +kernel) rfl, by decide, by decide +kernel, by decide +kernel, by decide +kernel⟩
theorem ks_X7_isPath : Cond.static j_X7_isPath.1 ∈ big := bg_in 513 (by decide +kernel) rfl
def j_X7_isRouter : MI := (yX7_isRouter, cX7_isRouter, 1, (some .boolean))
theorem kj_X7_isRouter : KJ j_X7_isRouter 1 := ⟨bg_in 358 (by decide +kernel) rfl, bg_in 1 (by decide +kernel) rfl, by decide, by decide +kernel, by decide +kernel, by decide +kernel⟩
theorem ks_X7_isRouter : Cond.static j_X7_isRouter.1 ∈ big := bg_in 357 (by decide +kernel) rfl
def j_X7_isVerb : MI := (yX7_isVerb, cX7_isVerb, 1, (some .boolean))
theorem kj_X7_isVerb : KJ j_X7_isVerb 1 := ⟨bg_in 352 (by decide +kernel) rfl, bg_in 1 (by decide +kernel) rfl, by decide, by decide +kernel, by decide +kernel, by decide +kernel⟩
theorem ks_X7_isVerb : Cond.static j_X7_isVerb.1 ∈ big := bg_in 351 (by decide +kernel) rfl
def j_X7_judge : MI := (yX7_judge, cX7_judge, 3, (some .int))
theorem kj_X7_judge : KJ j_X7_judge 1 := ⟨bg_in 783 (by decide +kernel) rfl, bg_in 1 (by decide +kernel) rfl, by decide, by decide +kernel, by decide +kernel, by decide +kernel⟩
theorem kv_X7_judge : Cond.instanceMethod j_X7_judge.1 ∈ big ∧ Cond.selects j_X7_judge.1.cls j_X7_judge.1 j_X7_judge.1 ∈ big := ⟨bg_in 781 (by decide +kernel) rfl, bg_in 782 (by decide +kernel) rfl⟩
def j_X7_kind : MI := (yX7_kind, cX7_kind, 5, (some .int))
theorem kj_X7_kind : KJ j_X7_kind 3 := ⟨bg_in 452 (by decide +kernel) rfl, bg_in 1 (by decide +kernel) rfl, by decide, by decide +kernel, by decide +kernel, by decide +kernel⟩
theorem kv_X7_kind : Cond.instanceMethod j_X7_kind.1 ∈ big ∧ Cond.selects j_X7_kind.1.cls j_X7_kind.1 j_X7_kind.1 ∈ big := ⟨bg_in 450 (by decide +kernel) rfl, bg_in 451 (by decide +kernel) rfl⟩
def j_X7_lay : MI := (yX7_lay, cX7_lay, 5, (some .boolean))
theorem kj_X7_lay : KJ j_X7_lay 1 := ⟨bg_in 717 (by decide +kernel) rfl, bg_in 1 (by decide +kernel) rfl, by decide, by decide +kernel, by decide +kernel, by decide +kernel⟩
theorem kv_X7_lay : Cond.instanceMethod j_X7_lay.1 ∈ big ∧ Cond.selects j_X7_lay.1.cls j_X7_lay.1 j_X7_lay.1 ∈ big := ⟨bg_in 716 (by decide +kernel) rfl, pv_in 15 (by decide +kernel) rfl⟩
def j_X7_layWay : MI := (yX7_layWay, cX7_layWay, 5, (some .boolean))
theorem kj_X7_layWay : KJ j_X7_layWay 2 := ⟨bg_in 713 (by decide +kernel) rfl, bg_in 1 (by decide +kernel) rfl, by decide, by decide +kernel, by decide +kernel, by decide +kernel⟩
theorem kv_X7_layWay : Cond.instanceMethod j_X7_layWay.1 ∈ big ∧ Cond.selects j_X7_layWay.1.cls j_X7_layWay.1 j_X7_layWay.1 ∈ big := ⟨bg_in 712 (by decide +kernel) rfl, pv_in 14 (by decide +kernel) rfl⟩
def j_X7_leastOf : MI := (yX7_leastOf, cX7_leastOf, 2, (some .int))
theorem kj_X7_leastOf : KJ j_X7_leastOf 1 := ⟨bg_in 620 (by decide +kernel) rfl, bg_in 1 (by decide +kernel) rfl, by decide, by decide +kernel, by decide +kernel, by decide +kernel⟩
theorem ks_X7_leastOf : Cond.static j_X7_leastOf.1 ∈ big := bg_in 619 (by decide +kernel) rfl
def j_X7_letter : MI := (yX7_letter, cX7_letter, 2, (some .int))
theorem kj_X7_letter : KJ j_X7_letter 1 := ⟨bg_in 284 (by decide +kernel) rfl, bg_in 1 (by decide +kernel) rfl, by decide, by decide +kernel, by decide +kernel, by decide +kernel⟩
theorem kv_X7_letter : Cond.instanceMethod j_X7_letter.1 ∈ big ∧ Cond.selects j_X7_letter.1.cls j_X7_letter.1 j_X7_letter.1 ∈ big := ⟨bg_in 282 (by decide +kernel) rfl, bg_in 283 (by decide +kernel) rfl⟩
def j_X7_letterBound : MI := (yX7_letterBound, cX7_letterBound, 7, (some .int))
theorem kj_X7_letterBound : KJ j_X7_letterBound 2 := ⟨bg_in 630 (by decide +kernel) rfl, bg_in 1 (by decide +kernel) rfl, by decide, by decide +kernel, by decide +kernel, by decide +kernel⟩
theorem kv_X7_letterBound : Cond.instanceMethod j_X7_letterBound.1 ∈ big ∧ Cond.selects j_X7_letterBound.1.cls j_X7_letterBound.1 j_X7_letterBound.1 ∈ big := ⟨bg_in 629 (by decide +kernel) rfl, pv_in 9 (by decide +kernel) rfl⟩
def j_X7_letterOf : MI := (yX7_letterOf, cX7_letterOf, 3, (some .int))
theorem kj_X7_letterOf : KJ j_X7_letterOf 2 := ⟨bg_in 511 (by decide +kernel) rfl, bg_in 1 (by decide +kernel) rfl, by decide, by decide +kernel, by decide +kernel, by decide +kernel⟩
theorem kv_X7_letterOf : Cond.instanceMethod j_X7_letterOf.1 ∈ big ∧ Cond.selects j_X7_letterOf.1.cls j_X7_letterOf.1 j_X7_letterOf.1 ∈ big := ⟨bg_in 509 (by decide +kernel) rfl, bg_in 510 (by decide +kernel) rfl⟩
def j_X7_looked : MI := (yX7_looked, cX7_looked, 3, (some .int))
theorem kj_X7_looked : KJ j_X7_looked 2 := ⟨bg_in 635 (by decide +kernel) rfl, bg_in 1 (by decide +kernel) rfl, by decide, by decide +kernel, by decide +kernel, by decide +kernel⟩
theorem kv_X7_looked : Cond.instanceMethod j_X7_looked.1 ∈ big ∧ Cond.selects j_X7_looked.1.cls j_X7_looked.1 j_X7_looked.1 ∈ big := ⟨bg_in 633 (by decide +kernel) rfl, bg_in 634 (by decide +kernel) rfl⟩
def j_X7_lost : MI := (yX7_lost, cX7_lost, 12, (some .long))
theorem kj_X7_lost : KJ j_X7_lost 4 := ⟨bg_in 747 (by decide +kernel) rfl, bg_in 1 (by decide +kernel) rfl, by decide, by decide +kernel, by decide +kernel, by decide +kernel⟩
theorem kv_X7_lost : Cond.instanceMethod j_X7_lost.1 ∈ big ∧ Cond.selects j_X7_lost.1.cls j_X7_lost.1 j_X7_lost.1 ∈ big := ⟨bg_in 745 (by decide +kernel) rfl, bg_in 746 (by decide +kernel) rfl⟩
def j_X7_lots : MI := (yX7_lots, cX7_lots, 11, (some .int))
theorem kj_X7_lots : KJ j_X7_lots 3 := ⟨bg_in 791 (by decide +kernel) rfl, bg_in 1 (by decide +kernel) rfl, by decide, by decide +kernel, by decide +kernel, by decide +kernel⟩
theorem kv_X7_lots : Cond.instanceMethod j_X7_lots.1 ∈ big ∧ Cond.selects j_X7_lots.1.cls j_X7_lots.1 j_X7_lots.1 ∈ big := ⟨bg_in 789 (by decide +kernel) rfl, bg_in 790 (by decide +kernel) rfl⟩
def j_X7_match : MI := (yX7_match, cX7_match, 3, (some .int))
theorem kj_X7_match : KJ j_X7_match 2 := ⟨bg_in 530 (by decide +kernel) rfl, bg_in 1 (by decide +kernel) rfl, by decide, by decide +kernel, by decide +kernel, by decide +kernel⟩
theorem kv_X7_match : Cond.instanceMethod j_X7_match.1 ∈ big ∧ Cond.selects j_X7_match.1.cls j_X7_match.1 j_X7_match.1 ∈ big := ⟨bg_in 528 (by decide +kernel) rfl, bg_in 529 (by decide +kernel) rfl⟩
def j_X7_matched : MI := (yX7_matched, cX7_matched, 2, (some .int))
theorem kj_X7_matched : KJ j_X7_matched 1 := ⟨bg_in 663 (by decide +kernel) rfl, bg_in 1 (by decide +kernel) rfl, by decide, by decide +kernel, by decide +kernel, by decide +kernel⟩
theorem kv_X7_matched : Cond.instanceMethod j_X7_matched.1 ∈ big ∧ Cond.selects j_X7_matched.1.cls j_X7_matched.1 j_X7_matched.1 ∈ big := ⟨bg_in 661 (by decide +kernel) rfl, bg_in 662 (by decide +kernel) rfl⟩
def j_X7_mean : MI := (yX7_mean, cX7_mean, 3, (some .long))
theorem kj_X7_mean : KJ j_X7_mean 2 := ⟨bg_in 765 (by decide +kernel) rfl, bg_in 1 (by decide +kernel) rfl, by decide, by decide +kernel, by decide +kernel, by decide +kernel⟩
theorem kv_X7_mean : Cond.instanceMethod j_X7_mean.1 ∈ big ∧ Cond.selects j_X7_mean.1.cls j_X7_mean.1 j_X7_mean.1 ∈ big := ⟨bg_in 763 (by decide +kernel) rfl, bg_in 764 (by decide +kernel) rfl⟩
def j_X7_never : MI := (yX7_never, cX7_never, 6, (some .int))
theorem kj_X7_never : KJ j_X7_never 0 := ⟨bg_in 654 (by decide +kernel) rfl, bg_in 1 (by decide +kernel) rfl, by decide, by decide +kernel, by decide +kernel, by decide +kernel⟩
theorem kv_X7_never : Cond.instanceMethod j_X7_never.1 ∈ big ∧ Cond.selects j_X7_never.1.cls j_X7_never.1 j_X7_never.1 ∈ big := ⟨bg_in 652 (by decide +kernel) rfl, bg_in 653 (by decide +kernel) rfl⟩
def j_X7_nextSeed : MI := (yX7_nextSeed, cX7_nextSeed, 1, (some .int))
theorem kj_X7_nextSeed : KJ j_X7_nextSeed 1 := ⟨bg_in 794 (by decide +kernel) rfl, bg_in 1 (by decide +kernel) rfl, by decide, by decide +kernel, by decide +kernel, by decide +kernel⟩
theorem ks_X7_nextSeed : Cond.static j_X7_nextSeed.1 ∈ big := bg_in 793 (by decide +kernel) rfl
def j_X7_nodes : MI := (yX7_nodes, cX7_nodes, 2, (some .int))
theorem kj_X7_nodes : KJ j_X7_nodes 1 := ⟨bg_in 503 (by decide +kernel) rfl, bg_in 1 (by decide +kernel) rfl, by decide, by decide +kernel, by decide +kernel, by decide +kernel⟩
theorem kv_X7_nodes : Cond.instanceMethod j_X7_nodes.1 ∈ big ∧ Cond.selects j_X7_nodes.1.cls j_X7_nodes.1 j_X7_nodes.1 ∈ big := ⟨bg_in 501 (by decide +kernel) rfl, bg_in 502 (by decide +kernel) rfl⟩
def j_X7_numberAt : MI := (yX7_numberAt, cX7_numberAt, 2, (some .int))
theorem kj_X7_numberAt : KJ j_X7_numberAt 2 := ⟨bg_in 291 (by decide +kernel) rfl, bg_in 1 (by decide +kernel) rfl, by decide, by decide +kernel, by decide +kernel, by decide +kernel⟩
theorem ks_X7_numberAt : Cond.static j_X7_numberAt.1 ∈ big := bg_in 290 (by decide +kernel) rfl
def j_X7_on : MI := (yX7_on, cX7_on, 1, (some .int))
theorem kj_X7_on : KJ j_X7_on 0 := ⟨bg_in 808 (by decide +kernel) rfl, bg_in 1 (by decide +kernel) rfl, by decide, by decide +kernel, by decide +kernel, by decide +kernel⟩
theorem kv_X7_on : Cond.instanceMethod j_X7_on.1 ∈ big ∧ Cond.selects j_X7_on.1.cls j_X7_on.1 j_X7_on.1 ∈ big := ⟨bg_in 806 (by decide +kernel) rfl, bg_in 807 (by decide +kernel) rfl⟩
def j_X7_partOfFraction : MI := (yX7_partOfFraction, cX7_partOfFraction, 7, (some .long))
theorem kj_X7_partOfFraction : KJ j_X7_partOfFraction 3 := ⟨bg_in 758 (by decide +kernel) rfl, bg_in 1 (by decide +kernel) rfl, by decide, by decide +kernel, by decide +kernel, by decide +kernel⟩
theorem ks_X7_partOfFraction : Cond.static j_X7_partOfFraction.1 ∈ big := bg_in 757 (by decide +kernel) rfl
def j_X7_pathBuilt : MI := (yX7_pathBuilt, cX7_pathBuilt, 4, (some .int))
theorem kj_X7_pathBuilt : KJ j_X7_pathBuilt 1 := ⟨bg_in 709 (by decide +kernel) rfl, bg_in 1 (by decide +kernel) rfl, by decide, by decide +kernel, by decide +kernel, by decide +kernel⟩
theorem kv_X7_pathBuilt : Cond.instanceMethod j_X7_pathBuilt.1 ∈ big ∧ Cond.selects j_X7_pathBuilt.1.cls j_X7_pathBuilt.1 j_X7_pathBuilt.1 ∈ big := ⟨bg_in 708 (by decide +kernel) rfl, pv_in 13 (by decide +kernel) rfl⟩
def j_X7_power : MI := (yX7_power, cX7_power, 6, (some .long))
theorem kj_X7_power : KJ j_X7_power 2 := ⟨bg_in 755 (by decide +kernel) rfl, bg_in 1 (by decide +kernel) rfl, by decide, by decide +kernel, by decide +kernel, by decide +kernel⟩
theorem ks_X7_power : Cond.static j_X7_power.1 ∈ big := bg_in 754 (by decide +kernel) rfl
def j_X7_put : MI := (yX7_put, cX7_put, 3, none)
theorem kj_X7_put : KJ j_X7_put 3 := ⟨bg_in 121 (by decide +kernel) rfl, bg_in 1 (by decide +kernel) rfl, by decide, by decide +kernel, by decide +kernel, by decide +kernel⟩
theorem ks_X7_put : Cond.static j_X7_put.1 ∈ big := bg_in 120 (by decide +kernel) rfl
def j_X7_refuse : MI := (yX7_refuse, cX7_refuse, 2, (some .int))
theorem kj_X7_refuse : KJ j_X7_refuse 1 := ⟨bg_in 288 (by decide +kernel) rfl, bg_in 1 (by decide +kernel) rfl, by decide, by decide +kernel, by decide +kernel, by decide +kernel⟩
theorem kv_X7_refuse : Cond.instanceMethod j_X7_refuse.1 ∈ big ∧ Cond.selects j_X7_refuse.1.cls j_X7_refuse.1 j_X7_refuse.1 ∈ big := ⟨bg_in 287 (by decide +kernel) rfl, pv_in 2 (by decide +kernel) rfl⟩
def j_X7_refuseLong : MI := (yX7_refuseLong, cX7_refuseLong, 2, (some .long))
theorem kj_X7_refuseLong : KJ j_X7_refuseLong 1 := ⟨bg_in 751 (by decide +kernel) rfl, bg_in 1 (by decide +kernel) rfl, by decide, by decide +kernel, by decide +kernel, by decide +kernel⟩
theorem kv_X7_refuseLong : Cond.instanceMethod j_X7_refuseLong.1 ∈ big ∧ Cond.selects j_X7_refuseLong.1.cls j_X7_refuseLong.1 j_X7_refuseLong.1 ∈ big := ⟨bg_in 750 (by decide +kernel) rfl, pv_in 16 (by decide +kernel) rfl⟩
def j_X7_route : MI := (yX7_route, cX7_route, 4, (some .int))
theorem kj_X7_route : KJ j_X7_route 2 := ⟨bg_in 488 (by decide +kernel) rfl, bg_in 1 (by decide +kernel) rfl, by decide, by decide +kernel, by decide +kernel, by decide +kernel⟩
theorem kv_X7_route : Cond.instanceMethod j_X7_route.1 ∈ big ∧ Cond.selects j_X7_route.1.cls j_X7_route.1 j_X7_route.1 ∈ big := ⟨bg_in 486 (by decide +kernel) rfl, bg_in 487 (by decide +kernel) rfl⟩
def j_X7_row : MI := (yX7_row, cX7_row, 2, (some .int))
theorem kj_X7_row : KJ j_X7_row 1 := ⟨bg_in 779 (by decide +kernel) rfl, bg_in 1 (by decide +kernel) rfl, by decide, by decide +kernel, by decide +kernel, by decide +kernel⟩
theorem kv_X7_row : Cond.instanceMethod j_X7_row.1 ∈ big ∧ Cond.selects j_X7_row.1.cls j_X7_row.1 j_X7_row.1 ∈ big := ⟨bg_in 777 (by decide +kernel) rfl, bg_in 778 (by decide +kernel) rfl⟩
def j_X7_segment : MI := (yX7_segment, cX7_segment, 3, (some .int))
theorem kj_X7_segment : KJ j_X7_segment 2 := ⟨bg_in 498 (by decide +kernel) rfl, bg_in 1 (by decide +kernel) rfl, by decide, by decide +kernel, by decide +kernel, by decide +kernel⟩
theorem kv_X7_segment : Cond.instanceMethod j_X7_segment.1 ∈ big ∧ Cond.selects j_X7_segment.1.cls j_X7_segment.1 j_X7_segment.1 ∈ big := ⟨bg_in 496 (by decide +kernel) rfl, bg_in 497 (by decide +kernel) rfl⟩
def j_X7_served : MI := (yX7_served, cX7_served, 1, (some .int))
theorem kj_X7_served : KJ j_X7_served 1 := ⟨bg_in 441 (by decide +kernel) rfl, bg_in 1 (by decide +kernel) rfl, by decide, by decide +kernel, by decide +kernel, by decide +kernel⟩
theorem ks_X7_served : Cond.static j_X7_served.1 ∈ big := bg_in 440 (by decide +kernel) rfl
def j_X7_table : MI := (yX7_table, cX7_table, 2, (some .int))
theorem kj_X7_table : KJ j_X7_table 0 := ⟨bg_in 306 (by decide +kernel) rfl, bg_in 1 (by decide +kernel) rfl, by decide, by decide +kernel, by decide +kernel, by decide +kernel⟩
theorem kv_X7_table : Cond.instanceMethod j_X7_table.1 ∈ big ∧ Cond.selects j_X7_table.1.cls j_X7_table.1 j_X7_table.1 ∈ big := ⟨bg_in 304 (by decide +kernel) rfl, bg_in 305 (by decide +kernel) rfl⟩
def j_X7_verb : MI := (yX7_verb, cX7_verb, 5, (some .int))
theorem kj_X7_verb : KJ j_X7_verb 2 := ⟨bg_in 457 (by decide +kernel) rfl, bg_in 1 (by decide +kernel) rfl, by decide, by decide +kernel, by decide +kernel, by decide +kernel⟩
theorem kv_X7_verb : Cond.instanceMethod j_X7_verb.1 ∈ big ∧ Cond.selects j_X7_verb.1.cls j_X7_verb.1 j_X7_verb.1 ∈ big := ⟨bg_in 455 (by decide +kernel) rfl, bg_in 456 (by decide +kernel) rfl⟩
def j_X7_verbs : MI := (yX7_verbs, cX7_verbs, 5, (some .int))
theorem kj_X7_verbs : KJ j_X7_verbs 1 := ⟨bg_in 639 (by decide +kernel) rfl, bg_in 1 (by decide +kernel) rfl, by decide, by decide +kernel, by decide +kernel, by decide +kernel⟩
theorem kv_X7_verbs : Cond.instanceMethod j_X7_verbs.1 ∈ big ∧ Cond.selects j_X7_verbs.1.cls j_X7_verbs.1 j_X7_verbs.1 ∈ big := ⟨bg_in 637 (by decide +kernel) rfl, bg_in 638 (by decide +kernel) rfl⟩
def j_X7_whatIs : MI := (yX7_whatIs, cX7_whatIs, 8, (some .int))
theorem kj_X7_whatIs : KJ j_X7_whatIs 2 := ⟨bg_in 770 (by decide +kernel) rfl, bg_in 1 (by decide +kernel) rfl, by decide, by decide +kernel, by decide +kernel, by decide +kernel⟩
theorem kv_X7_whatIs : Cond.instanceMethod j_X7_whatIs.1 ∈ big ∧ Cond.selects j_X7_whatIs.1.cls j_X7_whatIs.1 j_X7_whatIs.1 ∈ big := ⟨bg_in 768 (by decide +kernel) rfl, bg_in 769 (by decide +kernel) rfl⟩
def j_X7_without : MI := (yX7_without, cX7_without, 4, (some .int))
theorem kj_X7_without : KJ j_X7_without 3 := ⟨bg_in 739 (by decide +kernel) rfl, bg_in 1 (by decide +kernel) rfl, by decide, by decide +kernel, by decide +kernel, by decide +kernel⟩
theorem kv_X7_without : Cond.instanceMethod j_X7_without.1 ∈ big ∧ Cond.selects j_X7_without.1.cls j_X7_without.1 j_X7_without.1 ∈ big := ⟨bg_in 737 (by decide +kernel) rfl, bg_in 738 (by decide +kernel) rfl⟩
def j_X7_witness : MI := (yX7_witness, cX7_witness, 6, (some .int))
theorem kj_X7_witness : KJ j_X7_witness 2 := ⟨bg_in 672 (by decide +kernel) rfl, bg_in 1 (by decide +kernel) rfl, by decide, by decide +kernel, by decide +kernel, by decide +kernel⟩
theorem kv_X7_witness : Cond.instanceMethod j_X7_witness.1 ∈ big ∧ Cond.selects j_X7_witness.1.cls j_X7_witness.1 j_X7_witness.1 ∈ big := ⟨bg_in 670 (by decide +kernel) rfl, bg_in 671 (by decide +kernel) rfl⟩
def j_X8_allSegments : MI := (yX8_allSegments, cX8_allSegments, 3, (some .int))
theorem kj_X8_allSegments : KJ j_X8_allSegments 0 := ⟨bg_in 1374 (by decide +kernel) rfl, bg_in 9 (by decide +kernel) rfl, by decide, by decide +kernel, by decide +kernel, by decide +kernel⟩
theorem kv_X8_allSegments : Cond.instanceMethod j_X8_allSegments.1 ∈ big ∧ Cond.selects j_X8_allSegments.1.cls j_X8_allSegments.1 j_X8_allSegments.1 ∈ big := ⟨bg_in 1373 (by decide +kernel) rfl, pv_in 73 (by decide +kernel) rfl⟩
def j_X8_areSegments : MI := (yX8_areSegments, cX8_areSegments, 7, (some .boolean))
theorem kj_X8_areSegments : KJ j_X8_areSegments 3 := ⟨bg_in 1055 (by decide +kernel) rfl, bg_in 9 (by decide +kernel) rfl, by decide, by decide +kernel, by decide +kernel, by decide +kernel⟩
theorem kv_X8_areSegments : Cond.instanceMethod j_X8_areSegments.1 ∈ big ∧ Cond.selects j_X8_areSegments.1.cls j_X8_areSegments.1 j_X8_areSegments.1 ∈ big := ⟨bg_in 1054 (by decide +kernel) rfl, pv_in 31 (by decide +kernel) rfl⟩
def j_X8_askedFor : MI := (yX8_askedFor, cX8_askedFor, 2, (some .int))
theorem kj_X8_askedFor : KJ j_X8_askedFor 1 := ⟨bg_in 1239 (by decide +kernel) rfl, bg_in 9 (by decide +kernel) rfl, by decide, by decide +kernel, by decide +kernel, by decide +kernel⟩
theorem kv_X8_askedFor : Cond.instanceMethod j_X8_askedFor.1 ∈ big ∧ Cond.selects j_X8_askedFor.1.cls j_X8_askedFor.1 j_X8_askedFor.1 ∈ big := ⟨bg_in 1238 (by decide +kernel) rfl, pv_in 58 (by decide +kernel) rfl⟩
def j_X8_back : MI := (yX8_back, cX8_back, 6, (some .int))
theorem kj_X8_back : KJ j_X8_back 1 := ⟨bg_in 1303 (by decide +kernel) rfl, bg_in 9 (by decide +kernel) rfl, by decide, by decide +kernel, by decide +kernel, by decide +kernel⟩
theorem kv_X8_back : Cond.instanceMethod j_X8_back.1 ∈ big ∧ Cond.selects j_X8_back.1.cls j_X8_back.1 j_X8_back.1 ∈ big := ⟨bg_in 1301 (by decide +kernel) rfl, bg_in 1302 (by decide +kernel) rfl⟩
def j_X8_beginAlike : MI := (yX8_beginAlike, cX8_beginAlike, 6, (some .boolean))
theorem kj_X8_beginAlike : KJ j_X8_beginAlike 3 := ⟨bg_in 1133 (by decide +kernel) rfl, bg_in 9 (by decide +kernel) rfl, by decide, by decide +kernel, by decide +kernel, by decide +kernel⟩
theorem kv_X8_beginAlike : Cond.instanceMethod j_X8_beginAlike.1 ∈ big ∧ Cond.selects j_X8_beginAlike.1.cls j_X8_beginAlike.1 j_X8_beginAlike.1 ∈ big := ⟨bg_in 1132 (by decide +kernel) rfl, pv_in 40 (by decide +kernel) rfl⟩
def j_X8_best : MI := (yX8_best, cX8_best, 8, (some .int))
theorem kj_X8_best : KJ j_X8_best 1 := ⟨bg_in 1311 (by decide +kernel) rfl, bg_in 9 (by decide +kernel) rfl, by decide, by decide +kernel, by decide +kernel, by decide +kernel⟩
theorem kv_X8_best : Cond.instanceMethod j_X8_best.1 ∈ big ∧ Cond.selects j_X8_best.1.cls j_X8_best.1 j_X8_best.1 ∈ big := ⟨bg_in 1309 (by decide +kernel) rfl, bg_in 1310 (by decide +kernel) rfl⟩
def j_X8_beyond : MI := (yX8_beyond, cX8_beyond, 3, (some .int))
theorem kj_X8_beyond : KJ j_X8_beyond 3 := ⟨bg_in 986 (by decide +kernel) rfl, bg_in 9 (by decide +kernel) rfl, by decide, by decide +kernel, by decide +kernel, by decide +kernel⟩
theorem ks_X8_beyond : Cond.static j_X8_beyond.1 ∈ big := bg_in 985 (by decide +kernel) rfl
def j_X8_bindsBy : MI := (yX8_bindsBy, cX8_bindsBy, 5, none)
theorem kj_X8_bindsBy : KJ j_X8_bindsBy 2 := ⟨bg_in 1223 (by decide +kernel) rfl, bg_in 9 (by decide +kernel) rfl, by decide, by decide +kernel, by decide +kernel, by decide +kernel⟩
theorem kv_X8_bindsBy : Cond.instanceMethod j_X8_bindsBy.1 ∈ big ∧ Cond.selects j_X8_bindsBy.1.cls j_X8_bindsBy.1 j_X8_bindsBy.1 ∈ big := ⟨bg_in 1222 (by decide +kernel) rfl, pv_in 57 (by decide +kernel) rfl⟩
def j_X8_bits : MI := (yX8_bits, cX8_bits, 3, (some .int))
theorem kj_X8_bits : KJ j_X8_bits 1 := ⟨bg_in 1073 (by decide +kernel) rfl, bg_in 9 (by decide +kernel) rfl, by decide, by decide +kernel, by decide +kernel, by decide +kernel⟩
theorem ks_X8_bits : Cond.static j_X8_bits.1 ∈ big := bg_in 1072 (by decide +kernel) rfl
def j_X8_bound : MI := (yX8_bound, cX8_bound, 5, (some .int))
theorem kj_X8_bound : KJ j_X8_bound 3 := ⟨bg_in 1215 (by decide +kernel) rfl, bg_in 9 (by decide +kernel) rfl, by decide, by decide +kernel, by decide +kernel, by decide +kernel⟩
theorem kv_X8_bound : Cond.instanceMethod j_X8_bound.1 ∈ big ∧ Cond.selects j_X8_bound.1.cls j_X8_bound.1 j_X8_bound.1 ∈ big := ⟨bg_in 1213 (by decide +kernel) rfl, bg_in 1214 (by decide +kernel) rfl⟩
def j_X8_brought : MI := (yX8_brought, cX8_brought, 7, (some .int))
theorem kj_X8_brought : KJ j_X8_brought 2 := ⟨bg_in 1235 (by decide +kernel) rfl, bg_in 9 (by decide +kernel) rfl, by decide, by decide +kernel, by decide +kernel, by decide +kernel⟩
theorem kv_X8_brought : Cond.instanceMethod j_X8_brought.1 ∈ big ∧ Cond.selects j_X8_brought.1.cls j_X8_brought.1 j_X8_brought.1 ∈ big := ⟨bg_in 1233 (by decide +kernel) rfl, bg_in 1234 (by decide +kernel) rfl⟩
def j_X8_build : MI := (yX8_build, cX8_build, 8, (some .int))
theorem kj_X8_build : KJ j_X8_build 5 := ⟨bg_in 1279 (by decide +kernel) rfl, bg_in 9 (by decide +kernel) rfl, by decide, by decide +kernel, by decide +kernel, by decide +kernel⟩
theorem kv_X8_build : Cond.instanceMethod j_X8_build.1 ∈ big ∧ Cond.selects j_X8_build.1.cls j_X8_build.1 j_X8_build.1 ∈ big := ⟨bg_in 1277 (by decide +kernel) rfl, bg_in 1278 (by decide +kernel) rfl⟩
def j_X8_builds : MI := (yX8_builds, cX8_builds, 5, none)
theorem kj_X8_builds : KJ j_X8_builds 1 := ⟨bg_in 1295 (by decide +kernel) rfl, bg_in 9 (by decide +kernel) rfl, by decide, by decide +kernel, by decide +kernel, by decide +kernel⟩
theorem kv_X8_builds : Cond.instanceMethod j_X8_builds.1 ∈ big ∧ Cond.selects j_X8_builds.1.cls j_X8_builds.1 j_X8_builds.1 ∈ big := ⟨bg_in 1294 (by decide +kernel) rfl, pv_in 67 (by decide +kernel) rfl⟩
def j_X8_buildsWay : MI := (yX8_buildsWay, cX8_buildsWay, 4, none)
theorem kj_X8_buildsWay : KJ j_X8_buildsWay 1 := ⟨bg_in 1291 (by decide +kernel) rfl, bg_in 9 (by decide +kernel) rfl, by decide, by decide +kernel, by decide +kernel, by decide +kernel⟩
theorem kv_X8_buildsWay : Cond.instanceMethod j_X8_buildsWay.1 ∈ big ∧ Cond.selects j_X8_buildsWay.1.cls j_X8_buildsWay.1 j_X8_buildsWay.1 ∈ big := ⟨bg_in 1290 (by decide +kernel) rfl, pv_in 66 (by decide +kernel) rfl⟩
def j_X8_clash : MI := (yX8_clash, cX8_clash, 6, (some .int))
theorem kj_X8_clash : KJ j_X8_clash 1 := ⟨bg_in 1271 (by decide +kernel) rfl, bg_in 9 (by decide +kernel) rfl, by decide, by decide +kernel, by decide +kernel, by decide +kernel⟩
theorem kv_X8_clash : Cond.instanceMethod j_X8_clash.1 ∈ big ∧ Cond.selects j_X8_clash.1.cls j_X8_clash.1 j_X8_clash.1 ∈ big := ⟨bg_in 1269 (by decide +kernel) rfl, bg_in 1270 (by decide +kernel) rfl⟩
def j_X8_clear : MI := (yX8_clear, cX8_clear, 2, (some .int))
theorem kj_X8_clear : KJ j_X8_clear 0 := ⟨bg_in 1351 (by decide +kernel) rfl, bg_in 9 (by decide +kernel) rfl, by decide, by decide +kernel, by decide +kernel, by decide +kernel⟩
theorem kv_X8_clear : Cond.instanceMethod j_X8_clear.1 ∈ big ∧ Cond.selects j_X8_clear.1.cls j_X8_clear.1 j_X8_clear.1 ∈ big := ⟨bg_in 1349 (by decide +kernel) rfl, bg_in 1350 (by decide +kernel) rfl⟩
def j_X8_comesDrop : MI := (yX8_comesDrop, cX8_comesDrop, 2, (some .boolean))
theorem kj_X8_comesDrop : KJ j_X8_comesDrop 1 := ⟨bg_in 1040 (by decide +kernel) rfl, bg_in 9 (by decide +kernel) rfl, by decide, by decide +kernel, by decide +kernel, by decide +kernel⟩
theorem kv_X8_comesDrop : Cond.instanceMethod j_X8_comesDrop.1 ∈ big ∧ Cond.selects j_X8_comesDrop.1.cls j_X8_comesDrop.1 j_X8_comesDrop.1 ∈ big := ⟨bg_in 1039 (by decide +kernel) rfl, pv_in 28 (by decide +kernel) rfl⟩
def j_X8_comesKind : MI := (yX8_comesKind, cX8_comesKind, 4, (some .boolean))
theorem kj_X8_comesKind : KJ j_X8_comesKind 3 := ⟨bg_in 1033 (by decide +kernel) rfl, bg_in 9 (by decide +kernel) rfl, by decide, by decide +kernel, by decide +kernel, by decide +kernel⟩
theorem kv_X8_comesKind : Cond.instanceMethod j_X8_comesKind.1 ∈ big ∧ Cond.selects j_X8_comesKind.1.cls j_X8_comesKind.1 j_X8_comesKind.1 ∈ big := ⟨bg_in 1032 (by decide +kernel) rfl, pv_in 27 (by decide +kernel) rfl⟩
def j_X8_comesRoute : MI := (yX8_comesRoute, cX8_comesRoute, 8, (some .boolean))
theorem kj_X8_comesRoute : KJ j_X8_comesRoute 3 := ⟨bg_in 1048 (by decide +kernel) rfl, bg_in 9 (by decide +kernel) rfl, by decide, by decide +kernel, by decide +kernel, by decide +kernel⟩
theorem kv_X8_comesRoute : Cond.instanceMethod j_X8_comesRoute.1 ∈ big ∧ Cond.selects j_X8_comesRoute.1.cls j_X8_comesRoute.1 j_X8_comesRoute.1 ∈ big := ⟨bg_in 1047 (by decide +kernel) rfl, pv_in 30 (by decide +kernel) rfl⟩
def j_X8_comesTold : MI := (yX8_comesTold, cX8_comesTold, 3, (some .boolean))
theorem kj_X8_comesTold : KJ j_X8_comesTold 1 := ⟨bg_in 1029 (by decide +kernel) rfl, bg_in 9 (by decide +kernel) rfl, by decide, by decide +kernel, by decide +kernel, by decide +kernel⟩
theorem kv_X8_comesTold : Cond.instanceMethod j_X8_comesTold.1 ∈ big ∧ Cond.selects j_X8_comesTold.1.cls j_X8_comesTold.1 j_X8_comesTold.1 ∈ big := ⟨bg_in 1028 (by decide +kernel) rfl, pv_in 26 (by decide +kernel) rfl⟩
def j_X8_copies : MI := (yX8_copies, cX8_copies, 5, (some .int))
theorem kj_X8_copies : KJ j_X8_copies 2 := ⟨bg_in 1097 (by decide +kernel) rfl, bg_in 9 (by decide +kernel) rfl, by decide, by decide +kernel, by decide +kernel, by decide +kernel⟩
theorem kv_X8_copies : Cond.instanceMethod j_X8_copies.1 ∈ big ∧ Cond.selects j_X8_copies.1.cls j_X8_copies.1 j_X8_copies.1 ∈ big := ⟨bg_in 1095 (by decide +kernel) rfl, bg_in 1096 (by decide +kernel) rfl⟩
def j_X8_count : MI := (yX8_count, cX8_count, 2, (some .int))
theorem kj_X8_count : KJ j_X8_count 1 := ⟨bg_in 1366 (by decide +kernel) rfl, bg_in 9 (by decide +kernel) rfl, by decide, by decide +kernel, by decide +kernel, by decide +kernel⟩
theorem kv_X8_count : Cond.instanceMethod j_X8_count.1 ∈ big ∧ Cond.selects j_X8_count.1.cls j_X8_count.1 j_X8_count.1 ∈ big := ⟨bg_in 1364 (by decide +kernel) rfl, bg_in 1365 (by decide +kernel) rfl⟩
def j_X8_divisor : MI := (yX8_divisor, cX8_divisor, 10, (some .long))
theorem kj_X8_divisor : KJ j_X8_divisor 2 := ⟨bg_in 1326 (by decide +kernel) rfl, bg_in 9 (by decide +kernel) rfl, by decide, by decide +kernel, by decide +kernel, by decide +kernel⟩
theorem ks_X8_divisor : Cond.static j_X8_divisor.1 ∈ big := bg_in 1325 (by decide +kernel) rfl
def j_X8_doClash : MI := (yX8_doClash, cX8_doClash, 3, (some .boolean))
theorem kj_X8_doClash : KJ j_X8_doClash 2 := ⟨bg_in 1275 (by decide +kernel) rfl, bg_in 9 (by decide +kernel) rfl, by decide, by decide +kernel, by decide +kernel, by decide +kernel⟩
theorem kv_X8_doClash : Cond.instanceMethod j_X8_doClash.1 ∈ big ∧ Cond.selects j_X8_doClash.1.cls j_X8_doClash.1 j_X8_doClash.1 ∈ big := ⟨bg_in 1274 (by decide +kernel) rfl, pv_in 63 (by decide +kernel) rfl⟩
def j_X8_draw : MI := (yX8_draw, cX8_draw, 2, (some .int))
theorem kj_X8_draw : KJ j_X8_draw 1 := ⟨bg_in 1359 (by decide +kernel) rfl, bg_in 9 (by decide +kernel) rfl, by decide, by decide +kernel, by decide +kernel, by decide +kernel⟩
theorem kv_X8_draw : Cond.instanceMethod j_X8_draw.1 ∈ big ∧ Cond.selects j_X8_draw.1.cls j_X8_draw.1 j_X8_draw.1 ∈ big := ⟨bg_in 1358 (by decide +kernel) rfl, pv_in 71 (by decide +kernel) rfl⟩
def j_X8_drops : MI := (yX8_drops, cX8_drops, 2, (some .int))
theorem kj_X8_drops : KJ j_X8_drops 1 := ⟨bg_in 1093 (by decide +kernel) rfl, bg_in 9 (by decide +kernel) rfl, by decide, by decide +kernel, by decide +kernel, by decide +kernel⟩
theorem kv_X8_drops : Cond.instanceMethod j_X8_drops.1 ∈ big ∧ Cond.selects j_X8_drops.1.cls j_X8_drops.1 j_X8_drops.1 ∈ big := ⟨bg_in 1091 (by decide +kernel) rfl, bg_in 1092 (by decide +kernel) rfl⟩
def j_X8_findBound : MI := (yX8_findBound, cX8_findBound, 2, none)
theorem kj_X8_findBound : KJ j_X8_findBound 0 := ⟨bg_in 1219 (by decide +kernel) rfl, bg_in 9 (by decide +kernel) rfl, by decide, by decide +kernel, by decide +kernel, by decide +kernel⟩
theorem kv_X8_findBound : Cond.instanceMethod j_X8_findBound.1 ∈ big ∧ Cond.selects j_X8_findBound.1.cls j_X8_findBound.1 j_X8_findBound.1 ∈ big := ⟨bg_in 1218 (by decide +kernel) rfl, pv_in 56 (by decide +kernel) rfl⟩
def j_X8_findWays : MI := (yX8_findWays, cX8_findWays, 3, none)
theorem kj_X8_findWays : KJ j_X8_findWays 0 := ⟨bg_in 1287 (by decide +kernel) rfl, bg_in 9 (by decide +kernel) rfl, by decide, by decide +kernel, by decide +kernel, by decide +kernel⟩
theorem kv_X8_findWays : Cond.instanceMethod j_X8_findWays.1 ∈ big ∧ Cond.selects j_X8_findWays.1.cls j_X8_findWays.1 j_X8_findWays.1 ∈ big := ⟨bg_in 1286 (by decide +kernel) rfl, pv_in 65 (by decide +kernel) rfl⟩
def j_X8_firstWrong : MI := (yX8_firstWrong, cX8_firstWrong, 4, (some .int))
theorem kj_X8_firstWrong : KJ j_X8_firstWrong 1 := ⟨bg_in 1339 (by decide +kernel) rfl, bg_in 9 (by decide +kernel) rfl, by decide, by decide +kernel, by decide +kernel, by decide +kernel⟩
theorem kv_X8_firstWrong : Cond.instanceMethod j_X8_firstWrong.1 ∈ big ∧ Cond.selects j_X8_firstWrong.1.cls j_X8_firstWrong.1 j_X8_firstWrong.1 ∈ big := ⟨bg_in 1338 (by decide +kernel) rfl, pv_in 70 (by decide +kernel) rfl⟩
def j_X8_goesBack : MI := (yX8_goesBack, cX8_goesBack, 2, none)
theorem kj_X8_goesBack : KJ j_X8_goesBack 0 := ⟨bg_in 1177 (by decide +kernel) rfl, bg_in 9 (by decide +kernel) rfl, by decide, by decide +kernel, by decide +kernel, by decide +kernel⟩
theorem kv_X8_goesBack : Cond.instanceMethod j_X8_goesBack.1 ∈ big ∧ Cond.selects j_X8_goesBack.1.cls j_X8_goesBack.1 j_X8_goesBack.1 ∈ big := ⟨bg_in 1176 (by decide +kernel) rfl, pv_in 47 (by decide +kernel) rfl⟩
def j_X8_goesBy : MI := (yX8_goesBy, cX8_goesBy, 6, none)
theorem kj_X8_goesBy : KJ j_X8_goesBy 1 := ⟨bg_in 1207 (by decide +kernel) rfl, bg_in 9 (by decide +kernel) rfl, by decide, by decide +kernel, by decide +kernel, by decide +kernel⟩
theorem kv_X8_goesBy : Cond.instanceMethod j_X8_goesBy.1 ∈ big ∧ Cond.selects j_X8_goesBy.1.cls j_X8_goesBy.1 j_X8_goesBy.1 ∈ big := ⟨bg_in 1206 (by decide +kernel) rfl, pv_in 54 (by decide +kernel) rfl⟩
def j_X8_goesMount : MI := (yX8_goesMount, cX8_goesMount, 2, none)
theorem kj_X8_goesMount : KJ j_X8_goesMount 0 := ⟨bg_in 1185 (by decide +kernel) rfl, bg_in 9 (by decide +kernel) rfl, by decide, by decide +kernel, by decide +kernel, by decide +kernel⟩
theorem kv_X8_goesMount : Cond.instanceMethod j_X8_goesMount.1 ∈ big ∧ Cond.selects j_X8_goesMount.1.cls j_X8_goesMount.1 j_X8_goesMount.1 ∈ big := ⟨bg_in 1184 (by decide +kernel) rfl, pv_in 49 (by decide +kernel) rfl⟩
def j_X8_goesStage : MI := (yX8_goesStage, cX8_goesStage, 2, none)
theorem kj_X8_goesStage : KJ j_X8_goesStage 0 := ⟨bg_in 1168 (by decide +kernel) rfl, bg_in 9 (by decide +kernel) rfl, by decide, by decide +kernel, by decide +kernel, by decide +kernel⟩
theorem kv_X8_goesStage : Cond.instanceMethod j_X8_goesStage.1 ∈ big ∧ Cond.selects j_X8_goesStage.1.cls j_X8_goesStage.1 j_X8_goesStage.1 ∈ big := ⟨bg_in 1167 (by decide +kernel) rfl, pv_in 46 (by decide +kernel) rfl⟩
def j_X8_has : MI := (yX8_has, cX8_has, 2, (some .boolean))
theorem kj_X8_has : KJ j_X8_has 2 := ⟨bg_in 1058 (by decide +kernel) rfl, bg_in 9 (by decide +kernel) rfl, by decide, by decide +kernel, by decide +kernel, by decide +kernel⟩
theorem ks_X8_has : Cond.static j_X8_has.1 ∈ big := bg_in 1057 (by decide +kernel) rfl
def j_X8_hasRest : MI := (yX8_hasRest, cX8_hasRest, 2, (some .boolean))
theorem kj_X8_hasRest : KJ j_X8_hasRest 1 := ⟨bg_in 1109 (by decide +kernel) rfl, bg_in 9 (by decide +kernel) rfl, by decide, by decide +kernel, by decide +kernel, by decide +kernel⟩
theorem kv_X8_hasRest : Cond.instanceMethod j_X8_hasRest.1 ∈ big ∧ Cond.selects j_X8_hasRest.1.cls j_X8_hasRest.1 j_X8_hasRest.1 ∈ big := ⟨bg_in 1108 (by decide +kernel) rfl, pv_in 36 (by decide +kernel) rfl⟩
def j_X8_image : MI := (yX8_image, cX8_image, 1, (some .int))
theorem kj_X8_image : KJ j_X8_image 0 := ⟨bg_in 1066 (by decide +kernel) rfl, bg_in 9 (by decide +kernel) rfl, by decide, by decide +kernel, by decide +kernel, by decide +kernel⟩
theorem kv_X8_image : Cond.instanceMethod j_X8_image.1 ∈ big ∧ Cond.selects j_X8_image.1.cls j_X8_image.1 j_X8_image.1 ∈ big := ⟨bg_in 1064 (by decide +kernel) rfl, bg_in 1065 (by decide +kernel) rfl⟩
def j_X8_init : MI := (yX8_init, cX8_init, 1, none)
theorem kj_X8_init : KJ j_X8_init 0 := ⟨bg_in 821 (by decide +kernel) rfl, bg_in 9 (by decide +kernel) rfl, by decide, by decide +kernel, by decide +kernel, by decide +kernel⟩
theorem ki_X8_init : Cond.instanceMethod j_X8_init.1 ∈ big := bg_in 820 (by decide +kernel) rfl
def j_X8_isBrought : MI := (yX8_isBrought, cX8_isBrought, 3, (some .boolean))
theorem kj_X8_isBrought : KJ j_X8_isBrought 1 := ⟨bg_in 1247 (by decide +kernel) rfl, bg_in 9 (by decide +kernel) rfl, by decide, by decide +kernel, by decide +kernel, by decide +kernel⟩
theorem kv_X8_isBrought : Cond.instanceMethod j_X8_isBrought.1 ∈ big ∧ Cond.selects j_X8_isBrought.1.cls j_X8_isBrought.1 j_X8_isBrought.1 ∈ big := ⟨bg_in 1246 (by decide +kernel) rfl, pv_in 59 (by decide +kernel) rfl⟩
def j_X8_isIn : MI := (yX8_isIn, cX8_isIn, 3, (some .boolean))
theorem kj_X8_isIn : KJ j_X8_isIn 3 := ⟨bg_in 1009 (by decide +kernel) rfl, bg_in 9 (by decide +kernel) rfl, by decide, by decide +kernel, by decide +kernel, by decide +kernel⟩
theorem ks_X8_isIn : Cond.static j_X8_isIn.1 ∈ big := bg_in 1008 (by decide +kernel) rfl
def j_X8_isMore : MI := (yX8_isMore, cX8_isMore, 5, none)
theorem kj_X8_isMore : KJ j_X8_isMore 4 := ⟨bg_in 1062 (by decide +kernel) rfl, bg_in 9 (by decide +kernel) rfl, by decide, by decide +kernel, by decide +kernel, by decide +kernel⟩
theorem kv_X8_isMore : Cond.instanceMethod j_X8_isMore.1 ∈ big ∧ Cond.selects j_X8_isMore.1.cls j_X8_isMore.1 j_X8_isMore.1 ∈ big := ⟨bg_in 1061 (by decide +kernel) rfl, pv_in 32 (by decide +kernel) rfl⟩
def j_X8_isMount : MI := (yX8_isMount, cX8_isMount, 2, (some .boolean))
theorem kj_X8_isMount : KJ j_X8_isMount 1 := ⟨bg_in 1089 (by decide +kernel) rfl, bg_in 9 (by decide +kernel) rfl, by decide, by decide +kernel, by decide +kernel, by decide +kernel⟩
theorem kv_X8_isMount : Cond.instanceMethod j_X8_isMount.1 ∈ big ∧ Cond.selects j_X8_isMount.1.cls j_X8_isMount.1 j_X8_isMount.1 ∈ big := ⟨bg_in 1088 (by decide +kernel) rfl, pv_in 34 (by decide +kernel) rfl⟩
def j_X8_isNewNode : MI := (yX8_isNewNode, cX8_isNewNode, 4, (some .boolean))
theorem kj_X8_isNewNode : KJ j_X8_isNewNode 2 := ⟨bg_in 1129 (by decide +kernel) rfl, bg_in 9 (by decide +kernel) rfl, by decide, by decide +kernel, by decide +kernel, by decide +kernel⟩
theorem kv_X8_isNewNode : Cond.instanceMethod j_X8_isNewNode.1 ∈ big ∧ Cond.selects j_X8_isNewNode.1.cls j_X8_isNewNode.1 j_X8_isNewNode.1 ∈ big := ⟨bg_in 1128 (by decide +kernel) rfl, pv_in 39 (by decide +kernel) rfl⟩
def j_X8_isPath : MI := (yX8_isPath, cX8_isPath, 1, (some .boolean))
theorem kj_X8_isPath : KJ j_X8_isPath 1 := ⟨bg_in 1140 (by decide +kernel) rfl, bg_in 9 (by decide +kernel) rfl, by decide, by decide +kernel, by decide +kernel, by decide +kernel⟩
theorem ks_X8_isPath : Cond.static j_X8_isPath.1 ∈ big := bg_in 1139 (by decide +kernel) rfl
def j_X8_isRoute : MI := (yX8_isRoute, cX8_isRoute, 2, (some .boolean))
theorem kj_X8_isRoute : KJ j_X8_isRoute 1 := ⟨bg_in 1044 (by decide +kernel) rfl, bg_in 9 (by decide +kernel) rfl, by decide, by decide +kernel, by decide +kernel, by decide +kernel⟩
theorem kv_X8_isRoute : Cond.instanceMethod j_X8_isRoute.1 ∈ big ∧ Cond.selects j_X8_isRoute.1.cls j_X8_isRoute.1 j_X8_isRoute.1 ∈ big := ⟨bg_in 1043 (by decide +kernel) rfl, pv_in 29 (by decide +kernel) rfl⟩
def j_X8_isRouter : MI := (yX8_isRouter, cX8_isRouter, 1, (some .boolean))
theorem kj_X8_isRouter : KJ j_X8_isRouter 1 := ⟨bg_in 1036 (by decide +kernel) rfl, bg_in 9 (by decide +kernel) rfl, by decide, by decide +kernel, by decide +kernel, by decide +kernel⟩
theorem ks_X8_isRouter : Cond.static j_X8_isRouter.1 ∈ big := bg_in 1035 (by decide +kernel) rfl
def j_X8_isStrict : MI := (yX8_isStrict, cX8_isStrict, 2, (some .boolean))
theorem kj_X8_isStrict : KJ j_X8_isStrict 1 := ⟨bg_in 1181 (by decide +kernel) rfl, bg_in 9 (by decide +kernel) rfl, by decide, by decide +kernel, by decide +kernel, by decide +kernel⟩
theorem kv_X8_isStrict : Cond.instanceMethod j_X8_isStrict.1 ∈ big ∧ Cond.selects j_X8_isStrict.1.cls j_X8_isStrict.1 j_X8_isStrict.1 ∈ big := ⟨bg_in 1180 (by decide +kernel) rfl, pv_in 48 (by decide +kernel) rfl⟩
def j_X8_isVerb : MI := (yX8_isVerb, cX8_isVerb, 1, (some .boolean))
theorem kj_X8_isVerb : KJ j_X8_isVerb 1 := ⟨bg_in 1051 (by decide +kernel) rfl, bg_in 9 (by decide +kernel) rfl, by decide, by decide +kernel, by decide +kernel, by decide +kernel⟩
theorem ks_X8_isVerb : Cond.static j_X8_isVerb.1 ∈ big := bg_in 1050 (by decide +kernel) rfl
def j_X8_judge : MI := (yX8_judge, cX8_judge, 3, (some .int))
theorem kj_X8_judge : KJ j_X8_judge 1 := ⟨bg_in 1347 (by decide +kernel) rfl, bg_in 9 (by decide +kernel) rfl, by decide, by decide +kernel, by decide +kernel, by decide +kernel⟩
theorem kv_X8_judge : Cond.instanceMethod j_X8_judge.1 ∈ big ∧ Cond.selects j_X8_judge.1.cls j_X8_judge.1 j_X8_judge.1 ∈ big := ⟨bg_in 1345 (by decide +kernel) rfl, bg_in 1346 (by decide +kernel) rfl⟩
def j_X8_kind : MI := (yX8_kind, cX8_kind, 6, (some .int))
theorem kj_X8_kind : KJ j_X8_kind 3 := ⟨bg_in 1081 (by decide +kernel) rfl, bg_in 9 (by decide +kernel) rfl, by decide, by decide +kernel, by decide +kernel, by decide +kernel⟩
theorem kv_X8_kind : Cond.instanceMethod j_X8_kind.1 ∈ big ∧ Cond.selects j_X8_kind.1.cls j_X8_kind.1 j_X8_kind.1 ∈ big := ⟨bg_in 1079 (by decide +kernel) rfl, bg_in 1080 (by decide +kernel) rfl⟩
def j_X8_leastEnd : MI := (yX8_leastEnd, cX8_leastEnd, 4, (some .int))
theorem kj_X8_leastEnd : KJ j_X8_leastEnd 2 := ⟨bg_in 1193 (by decide +kernel) rfl, bg_in 9 (by decide +kernel) rfl, by decide, by decide +kernel, by decide +kernel, by decide +kernel⟩
theorem kv_X8_leastEnd : Cond.instanceMethod j_X8_leastEnd.1 ∈ big ∧ Cond.selects j_X8_leastEnd.1.cls j_X8_leastEnd.1 j_X8_leastEnd.1 ∈ big := ⟨bg_in 1192 (by decide +kernel) rfl, pv_in 51 (by decide +kernel) rfl⟩
def j_X8_leastRest : MI := (yX8_leastRest, cX8_leastRest, 4, (some .int))
theorem kj_X8_leastRest : KJ j_X8_leastRest 2 := ⟨bg_in 1203 (by decide +kernel) rfl, bg_in 9 (by decide +kernel) rfl, by decide, by decide +kernel, by decide +kernel, by decide +kernel⟩
theorem kv_X8_leastRest : Cond.instanceMethod j_X8_leastRest.1 ∈ big ∧ Cond.selects j_X8_leastRest.1.cls j_X8_leastRest.1 j_X8_leastRest.1 ∈ big := ⟨bg_in 1202 (by decide +kernel) rfl, pv_in 53 (by decide +kernel) rfl⟩
def j_X8_letter : MI := (yX8_letter, cX8_letter, 3, (some .int))
theorem kj_X8_letter : KJ j_X8_letter 1 := ⟨bg_in 983 (by decide +kernel) rfl, bg_in 9 (by decide +kernel) rfl, by decide, by decide +kernel, by decide +kernel, by decide +kernel⟩
theorem kv_X8_letter : Cond.instanceMethod j_X8_letter.1 ∈ big ∧ Cond.selects j_X8_letter.1.cls j_X8_letter.1 j_X8_letter.1 ∈ big := ⟨bg_in 981 (by decide +kernel) rfl, bg_in 982 (by decide +kernel) rfl⟩
def j_X8_letterOf : MI := (yX8_letterOf, cX8_letterOf, 3, (some .int))
theorem kj_X8_letterOf : KJ j_X8_letterOf 2 := ⟨bg_in 1137 (by decide +kernel) rfl, bg_in 9 (by decide +kernel) rfl, by decide, by decide +kernel, by decide +kernel, by decide +kernel⟩
theorem kv_X8_letterOf : Cond.instanceMethod j_X8_letterOf.1 ∈ big ∧ Cond.selects j_X8_letterOf.1.cls j_X8_letterOf.1 j_X8_letterOf.1 ∈ big := ⟨bg_in 1135 (by decide +kernel) rfl, bg_in 1136 (by decide +kernel) rfl⟩
def j_X8_looked : MI := (yX8_looked, cX8_looked, 4, (some .int))
theorem kj_X8_looked : KJ j_X8_looked 2 := ⟨bg_in 1227 (by decide +kernel) rfl, bg_in 9 (by decide +kernel) rfl, by decide, by decide +kernel, by decide +kernel, by decide +kernel⟩
theorem kv_X8_looked : Cond.instanceMethod j_X8_looked.1 ∈ big ∧ Cond.selects j_X8_looked.1.cls j_X8_looked.1 j_X8_looked.1 ∈ big := ⟨bg_in 1225 (by decide +kernel) rfl, bg_in 1226 (by decide +kernel) rfl⟩
def j_X8_looksAt : MI := (yX8_looksAt, cX8_looksAt, 8, none)
theorem kj_X8_looksAt : KJ j_X8_looksAt 7 := ⟨bg_in 1164 (by decide +kernel) rfl, bg_in 9 (by decide +kernel) rfl, by decide, by decide +kernel, by decide +kernel, by decide +kernel⟩
theorem kv_X8_looksAt : Cond.instanceMethod j_X8_looksAt.1 ∈ big ∧ Cond.selects j_X8_looksAt.1.cls j_X8_looksAt.1 j_X8_looksAt.1 ∈ big := ⟨bg_in 1163 (by decide +kernel) rfl, pv_in 45 (by decide +kernel) rfl⟩
def j_X8_lost : MI := (yX8_lost, cX8_lost, 15, (some .long))
theorem kj_X8_lost : KJ j_X8_lost 4 := ⟨bg_in 1315 (by decide +kernel) rfl, bg_in 9 (by decide +kernel) rfl, by decide, by decide +kernel, by decide +kernel, by decide +kernel⟩
theorem kv_X8_lost : Cond.instanceMethod j_X8_lost.1 ∈ big ∧ Cond.selects j_X8_lost.1.cls j_X8_lost.1 j_X8_lost.1 ∈ big := ⟨bg_in 1313 (by decide +kernel) rfl, bg_in 1314 (by decide +kernel) rfl⟩
def j_X8_lots : MI := (yX8_lots, cX8_lots, 9, (some .int))
theorem kj_X8_lots : KJ j_X8_lots 3 := ⟨bg_in 1355 (by decide +kernel) rfl, bg_in 9 (by decide +kernel) rfl, by decide, by decide +kernel, by decide +kernel, by decide +kernel⟩
theorem kv_X8_lots : Cond.instanceMethod j_X8_lots.1 ∈ big ∧ Cond.selects j_X8_lots.1.cls j_X8_lots.1 j_X8_lots.1 ∈ big := ⟨bg_in 1353 (by decide +kernel) rfl, bg_in 1354 (by decide +kernel) rfl⟩
def j_X8_lowestOf : MI := (yX8_lowestOf, cX8_lowestOf, 2, (some .long))
theorem kj_X8_lowestOf : KJ j_X8_lowestOf 1 := ⟨bg_in 1319 (by decide +kernel) rfl, bg_in 9 (by decide +kernel) rfl, by decide, by decide +kernel, by decide +kernel, by decide +kernel⟩
theorem kv_X8_lowestOf : Cond.instanceMethod j_X8_lowestOf.1 ∈ big ∧ Cond.selects j_X8_lowestOf.1.cls j_X8_lowestOf.1 j_X8_lowestOf.1 ∈ big := ⟨bg_in 1318 (by decide +kernel) rfl, pv_in 69 (by decide +kernel) rfl⟩
def j_X8_match : MI := (yX8_match, cX8_match, 4, (some .int))
theorem kj_X8_match : KJ j_X8_match 2 := ⟨bg_in 1148 (by decide +kernel) rfl, bg_in 9 (by decide +kernel) rfl, by decide, by decide +kernel, by decide +kernel, by decide +kernel⟩
theorem kv_X8_match : Cond.instanceMethod j_X8_match.1 ∈ big ∧ Cond.selects j_X8_match.1.cls j_X8_match.1 j_X8_match.1 ∈ big := ⟨bg_in 1146 (by decide +kernel) rfl, bg_in 1147 (by decide +kernel) rfl⟩
def j_X8_matchOf : MI := (yX8_matchOf, cX8_matchOf, 3, (some .int))
theorem kj_X8_matchOf : KJ j_X8_matchOf 2 := ⟨bg_in 1156 (by decide +kernel) rfl, bg_in 9 (by decide +kernel) rfl, by decide, by decide +kernel, by decide +kernel, by decide +kernel⟩
theorem kv_X8_matchOf : Cond.instanceMethod j_X8_matchOf.1 ∈ big ∧ Cond.selects j_X8_matchOf.1.cls j_X8_matchOf.1 j_X8_matchOf.1 ∈ big := ⟨bg_in 1155 (by decide +kernel) rfl, pv_in 43 (by decide +kernel) rfl⟩
def j_X8_matched : MI := (yX8_matched, cX8_matched, 2, (some .int))
theorem kj_X8_matched : KJ j_X8_matched 1 := ⟨bg_in 1251 (by decide +kernel) rfl, bg_in 9 (by decide +kernel) rfl, by decide, by decide +kernel, by decide +kernel, by decide +kernel⟩
theorem kv_X8_matched : Cond.instanceMethod j_X8_matched.1 ∈ big ∧ Cond.selects j_X8_matched.1.cls j_X8_matched.1 j_X8_matched.1 ∈ big := ⟨bg_in 1249 (by decide +kernel) rfl, bg_in 1250 (by decide +kernel) rfl⟩
def j_X8_matchedBy : MI := (yX8_matchedBy, cX8_matchedBy, 4, (some .int))
theorem kj_X8_matchedBy : KJ j_X8_matchedBy 1 := ⟨bg_in 1255 (by decide +kernel) rfl, bg_in 9 (by decide +kernel) rfl, by decide, by decide +kernel, by decide +kernel, by decide +kernel⟩
theorem kv_X8_matchedBy : Cond.instanceMethod j_X8_matchedBy.1 ∈ big ∧ Cond.selects j_X8_matchedBy.1.cls j_X8_matchedBy.1 j_X8_matchedBy.1 ∈ big := ⟨bg_in 1254 (by decide +kernel) rfl, pv_in 60 (by decide +kernel) rfl⟩
def j_X8_mean : MI := (yX8_mean, cX8_mean, 3, (some .long))
theorem kj_X8_mean : KJ j_X8_mean 2 := ⟨bg_in 1330 (by decide +kernel) rfl, bg_in 9 (by decide +kernel) rfl, by decide, by decide +kernel, by decide +kernel, by decide +kernel⟩
theorem kv_X8_mean : Cond.instanceMethod j_X8_mean.1 ∈ big ∧ Cond.selects j_X8_mean.1.cls j_X8_mean.1 j_X8_mean.1 ∈ big := ⟨bg_in 1328 (by decide +kernel) rfl, bg_in 1329 (by decide +kernel) rfl⟩
def j_X8_mountFrom : MI := (yX8_mountFrom, cX8_mountFrom, 5, (some .int))
theorem kj_X8_mountFrom : KJ j_X8_mountFrom 3 := ⟨bg_in 1189 (by decide +kernel) rfl, bg_in 9 (by decide +kernel) rfl, by decide, by decide +kernel, by decide +kernel, by decide +kernel⟩
theorem kv_X8_mountFrom : Cond.instanceMethod j_X8_mountFrom.1 ∈ big ∧ Cond.selects j_X8_mountFrom.1.cls j_X8_mountFrom.1 j_X8_mountFrom.1 ∈ big := ⟨bg_in 1188 (by decide +kernel) rfl, pv_in 50 (by decide +kernel) rfl⟩
def j_X8_never : MI := (yX8_never, cX8_never, 3, (some .int))
theorem kj_X8_never : KJ j_X8_never 0 := ⟨bg_in 1243 (by decide +kernel) rfl, bg_in 9 (by decide +kernel) rfl, by decide, by decide +kernel, by decide +kernel, by decide +kernel⟩
theorem kv_X8_never : Cond.instanceMethod j_X8_never.1 ∈ big ∧ Cond.selects j_X8_never.1.cls j_X8_never.1 j_X8_never.1 ∈ big := ⟨bg_in 1241 (by decide +kernel) rfl, bg_in 1242 (by decide +kernel) rfl⟩
def j_X8_no : MI := (yX8_no, cX8_no, 2, (some .int))
theorem kj_X8_no : KJ j_X8_no 1 := ⟨bg_in 990 (by decide +kernel) rfl, bg_in 9 (by decide +kernel) rfl, by decide, by decide +kernel, by decide +kernel, by decide +kernel⟩
theorem kv_X8_no : Cond.instanceMethod j_X8_no.1 ∈ big ∧ Cond.selects j_X8_no.1.cls j_X8_no.1 j_X8_no.1 ∈ big := ⟨bg_in 989 (by decide +kernel) rfl, pv_in 18 (by decide +kernel) rfl⟩
def j_X8_nodes : MI := (yX8_nodes, cX8_nodes, 2, (some .int))
theorem kj_X8_nodes : KJ j_X8_nodes 1 := ⟨bg_in 1121 (by decide +kernel) rfl, bg_in 9 (by decide +kernel) rfl, by decide, by decide +kernel, by decide +kernel, by decide +kernel⟩
theorem kv_X8_nodes : Cond.instanceMethod j_X8_nodes.1 ∈ big ∧ Cond.selects j_X8_nodes.1.cls j_X8_nodes.1 j_X8_nodes.1 ∈ big := ⟨bg_in 1119 (by decide +kernel) rfl, bg_in 1120 (by decide +kernel) rfl⟩
def j_X8_nodesOf : MI := (yX8_nodesOf, cX8_nodesOf, 5, (some .int))
theorem kj_X8_nodesOf : KJ j_X8_nodesOf 1 := ⟨bg_in 1125 (by decide +kernel) rfl, bg_in 9 (by decide +kernel) rfl, by decide, by decide +kernel, by decide +kernel, by decide +kernel⟩
theorem kv_X8_nodesOf : Cond.instanceMethod j_X8_nodesOf.1 ∈ big ∧ Cond.selects j_X8_nodesOf.1.cls j_X8_nodesOf.1 j_X8_nodesOf.1 ∈ big := ⟨bg_in 1124 (by decide +kernel) rfl, pv_in 38 (by decide +kernel) rfl⟩
def j_X8_notAsked : MI := (yX8_notAsked, cX8_notAsked, 3, (some .int))
theorem kj_X8_notAsked : KJ j_X8_notAsked 2 := ⟨bg_in 1152 (by decide +kernel) rfl, bg_in 9 (by decide +kernel) rfl, by decide, by decide +kernel, by decide +kernel, by decide +kernel⟩
theorem kv_X8_notAsked : Cond.instanceMethod j_X8_notAsked.1 ∈ big ∧ Cond.selects j_X8_notAsked.1.cls j_X8_notAsked.1 j_X8_notAsked.1 ∈ big := ⟨bg_in 1151 (by decide +kernel) rfl, pv_in 42 (by decide +kernel) rfl⟩
def j_X8_numberOf : MI := (yX8_numberOf, cX8_numberOf, 7, (some .int))
theorem kj_X8_numberOf : KJ j_X8_numberOf 2 := ⟨bg_in 1299 (by decide +kernel) rfl, bg_in 9 (by decide +kernel) rfl, by decide, by decide +kernel, by decide +kernel, by decide +kernel⟩
theorem kv_X8_numberOf : Cond.instanceMethod j_X8_numberOf.1 ∈ big ∧ Cond.selects j_X8_numberOf.1.cls j_X8_numberOf.1 j_X8_numberOf.1 ∈ big := ⟨bg_in 1298 (by decide +kernel) rfl, pv_in 68 (by decide +kernel) rfl⟩
def j_X8_on : MI := (yX8_on, cX8_on, 1, (some .int))
theorem kj_X8_on : KJ j_X8_on 0 := ⟨bg_in 1077 (by decide +kernel) rfl, bg_in 9 (by decide +kernel) rfl, by decide, by decide +kernel, by decide +kernel, by decide +kernel⟩
theorem kv_X8_on : Cond.instanceMethod j_X8_on.1 ∈ big ∧ Cond.selects j_X8_on.1.cls j_X8_on.1 j_X8_on.1 ∈ big := ⟨bg_in 1075 (by decide +kernel) rfl, bg_in 1076 (by decide +kernel) rfl⟩
def j_X8_opens : MI := (yX8_opens, cX8_opens, 5, none)
theorem kj_X8_opens : KJ j_X8_opens 1 := ⟨bg_in 1144 (by decide +kernel) rfl, bg_in 9 (by decide +kernel) rfl, by decide, by decide +kernel, by decide +kernel, by decide +kernel⟩
theorem kv_X8_opens : Cond.instanceMethod j_X8_opens.1 ∈ big ∧ Cond.selects j_X8_opens.1.cls j_X8_opens.1 j_X8_opens.1 ∈ big := ⟨bg_in 1143 (by decide +kernel) rfl, pv_in 41 (by decide +kernel) rfl⟩
def j_X8_orderOf : MI := (yX8_orderOf, cX8_orderOf, 1, (some .int))
theorem kj_X8_orderOf : KJ j_X8_orderOf 1 := ⟨bg_in 1173 (by decide +kernel) rfl, bg_in 9 (by decide +kernel) rfl, by decide, by decide +kernel, by decide +kernel, by decide +kernel⟩
theorem ks_X8_orderOf : Cond.static j_X8_orderOf.1 ∈ big := bg_in 1172 (by decide +kernel) rfl
def j_X8_parametersOf : MI := (yX8_parametersOf, cX8_parametersOf, 5, (some .int))
theorem kj_X8_parametersOf : KJ j_X8_parametersOf 1 := ⟨bg_in 1105 (by decide +kernel) rfl, bg_in 9 (by decide +kernel) rfl, by decide, by decide +kernel, by decide +kernel, by decide +kernel⟩
theorem kv_X8_parametersOf : Cond.instanceMethod j_X8_parametersOf.1 ∈ big ∧ Cond.selects j_X8_parametersOf.1.cls j_X8_parametersOf.1 j_X8_parametersOf.1 ∈ big := ⟨bg_in 1104 (by decide +kernel) rfl, pv_in 35 (by decide +kernel) rfl⟩
def j_X8_partOf : MI := (yX8_partOf, cX8_partOf, 5, (some .long))
theorem kj_X8_partOf : KJ j_X8_partOf 3 := ⟨bg_in 1323 (by decide +kernel) rfl, bg_in 9 (by decide +kernel) rfl, by decide, by decide +kernel, by decide +kernel, by decide +kernel⟩
theorem ks_X8_partOf : Cond.static j_X8_partOf.1 ∈ big := bg_in 1322 (by decide +kernel) rfl
def j_X8_passes : MI := (yX8_passes, cX8_passes, 3, none)
theorem kj_X8_passes : KJ j_X8_passes 1 := ⟨bg_in 1025 (by decide +kernel) rfl, bg_in 9 (by decide +kernel) rfl, by decide, by decide +kernel, by decide +kernel, by decide +kernel⟩
theorem kv_X8_passes : Cond.instanceMethod j_X8_passes.1 ∈ big ∧ Cond.selects j_X8_passes.1.cls j_X8_passes.1 j_X8_passes.1 ∈ big := ⟨bg_in 1024 (by decide +kernel) rfl, pv_in 25 (by decide +kernel) rfl⟩
def j_X8_passesAll : MI := (yX8_passesAll, cX8_passesAll, 3, none)
theorem kj_X8_passesAll : KJ j_X8_passesAll 2 := ⟨bg_in 1021 (by decide +kernel) rfl, bg_in 9 (by decide +kernel) rfl, by decide, by decide +kernel, by decide +kernel, by decide +kernel⟩
theorem kv_X8_passesAll : Cond.instanceMethod j_X8_passesAll.1 ∈ big ∧ Cond.selects j_X8_passesAll.1.cls j_X8_passesAll.1 j_X8_passesAll.1 ∈ big := ⟨bg_in 1020 (by decide +kernel) rfl, pv_in 24 (by decide +kernel) rfl⟩
def j_X8_pathOf : MI := (yX8_pathOf, cX8_pathOf, 2, (some .int))
theorem kj_X8_pathOf : KJ j_X8_pathOf 1 := ⟨bg_in 1283 (by decide +kernel) rfl, bg_in 9 (by decide +kernel) rfl, by decide, by decide +kernel, by decide +kernel, by decide +kernel⟩
theorem kv_X8_pathOf : Cond.instanceMethod j_X8_pathOf.1 ∈ big ∧ Cond.selects j_X8_pathOf.1.cls j_X8_pathOf.1 j_X8_pathOf.1 ∈ big := ⟨bg_in 1282 (by decide +kernel) rfl, pv_in 64 (by decide +kernel) rfl⟩
def j_X8_readsDigit : MI := (yX8_readsDigit, cX8_readsDigit, 1, (some .boolean))
theorem kj_X8_readsDigit : KJ j_X8_readsDigit 0 := ⟨bg_in 1006 (by decide +kernel) rfl, bg_in 9 (by decide +kernel) rfl, by decide, by decide +kernel, by decide +kernel, by decide +kernel⟩
theorem kv_X8_readsDigit : Cond.instanceMethod j_X8_readsDigit.1 ∈ big ∧ Cond.selects j_X8_readsDigit.1.cls j_X8_readsDigit.1 j_X8_readsDigit.1 ∈ big := ⟨bg_in 1005 (by decide +kernel) rfl, pv_in 21 (by decide +kernel) rfl⟩
def j_X8_readsSegment : MI := (yX8_readsSegment, cX8_readsSegment, 3, (some .boolean))
theorem kj_X8_readsSegment : KJ j_X8_readsSegment 0 := ⟨bg_in 1017 (by decide +kernel) rfl, bg_in 9 (by decide +kernel) rfl, by decide, by decide +kernel, by decide +kernel, by decide +kernel⟩
theorem kv_X8_readsSegment : Cond.instanceMethod j_X8_readsSegment.1 ∈ big ∧ Cond.selects j_X8_readsSegment.1.cls j_X8_readsSegment.1 j_X8_readsSegment.1 ∈ big := ⟨bg_in 1016 (by decide +kernel) rfl, pv_in 23 (by decide +kernel) rfl⟩
def j_X8_readsSegments : MI := (yX8_readsSegments, cX8_readsSegments, 1, (some .boolean))
theorem kj_X8_readsSegments : KJ j_X8_readsSegments 0 := ⟨bg_in 1013 (by decide +kernel) rfl, bg_in 9 (by decide +kernel) rfl, by decide, by decide +kernel, by decide +kernel, by decide +kernel⟩
theorem kv_X8_readsSegments : Cond.instanceMethod j_X8_readsSegments.1 ∈ big ∧ Cond.selects j_X8_readsSegments.1.cls j_X8_readsSegments.1 j_X8_readsSegments.1 ∈ big := ⟨bg_in 1012 (by decide +kernel) rfl, pv_in 22 (by decide +kernel) rfl⟩
def j_X8_route : MI := (yX8_route, cX8_route, 3, (some .int))
theorem kj_X8_route : KJ j_X8_route 2 := ⟨bg_in 1101 (by decide +kernel) rfl, bg_in 9 (by decide +kernel) rfl, by decide, by decide +kernel, by decide +kernel, by decide +kernel⟩
theorem kv_X8_route : Cond.instanceMethod j_X8_route.1 ∈ big ∧ Cond.selects j_X8_route.1.cls j_X8_route.1 j_X8_route.1 ∈ big := ⟨bg_in 1099 (by decide +kernel) rfl, bg_in 1100 (by decide +kernel) rfl⟩
def j_X8_row : MI := (yX8_row, cX8_row, 3, (some .int))
theorem kj_X8_row : KJ j_X8_row 1 := ⟨bg_in 1343 (by decide +kernel) rfl, bg_in 9 (by decide +kernel) rfl, by decide, by decide +kernel, by decide +kernel, by decide +kernel⟩
theorem kv_X8_row : Cond.instanceMethod j_X8_row.1 ∈ big ∧ Cond.selects j_X8_row.1.cls j_X8_row.1 j_X8_row.1 ∈ big := ⟨bg_in 1341 (by decide +kernel) rfl, bg_in 1342 (by decide +kernel) rfl⟩
def j_X8_segment : MI := (yX8_segment, cX8_segment, 3, (some .int))
theorem kj_X8_segment : KJ j_X8_segment 2 := ⟨bg_in 1117 (by decide +kernel) rfl, bg_in 9 (by decide +kernel) rfl, by decide, by decide +kernel, by decide +kernel, by decide +kernel⟩
theorem kv_X8_segment : Cond.instanceMethod j_X8_segment.1 ∈ big ∧ Cond.selects j_X8_segment.1.cls j_X8_segment.1 j_X8_segment.1 ∈ big := ⟨bg_in 1115 (by decide +kernel) rfl, bg_in 1116 (by decide +kernel) rfl⟩
def j_X8_serves : MI := (yX8_serves, cX8_serves, 3, (some .boolean))
theorem kj_X8_serves : KJ j_X8_serves 2 := ⟨bg_in 1197 (by decide +kernel) rfl, bg_in 9 (by decide +kernel) rfl, by decide, by decide +kernel, by decide +kernel, by decide +kernel⟩
theorem kv_X8_serves : Cond.instanceMethod j_X8_serves.1 ∈ big ∧ Cond.selects j_X8_serves.1.cls j_X8_serves.1 j_X8_serves.1 ∈ big := ⟨bg_in 1196 (by decide +kernel) rfl, pv_in 52 (by decide +kernel) rfl⟩
def j_X8_setBy : MI := (yX8_setBy, cX8_setBy, 6, (some .int))
theorem kj_X8_setBy : KJ j_X8_setBy 3 := ⟨bg_in 1211 (by decide +kernel) rfl, bg_in 9 (by decide +kernel) rfl, by decide, by decide +kernel, by decide +kernel, by decide +kernel⟩
theorem kv_X8_setBy : Cond.instanceMethod j_X8_setBy.1 ∈ big ∧ Cond.selects j_X8_setBy.1.cls j_X8_setBy.1 j_X8_setBy.1 ∈ big := ⟨bg_in 1210 (by decide +kernel) rfl, pv_in 55 (by decide +kernel) rfl⟩
def j_X8_setMounts : MI := (yX8_setMounts, cX8_setMounts, 3, (some .int))
theorem kj_X8_setMounts : KJ j_X8_setMounts 0 := ⟨bg_in 1370 (by decide +kernel) rfl, bg_in 9 (by decide +kernel) rfl, by decide, by decide +kernel, by decide +kernel, by decide +kernel⟩
theorem kv_X8_setMounts : Cond.instanceMethod j_X8_setMounts.1 ∈ big ∧ Cond.selects j_X8_setMounts.1.cls j_X8_setMounts.1 j_X8_setMounts.1 ∈ big := ⟨bg_in 1369 (by decide +kernel) rfl, pv_in 72 (by decide +kernel) rfl⟩
def j_X8_setOf : MI := (yX8_setOf, cX8_setOf, 4, (some .int))
theorem kj_X8_setOf : KJ j_X8_setOf 1 := ⟨bg_in 1160 (by decide +kernel) rfl, bg_in 9 (by decide +kernel) rfl, by decide, by decide +kernel, by decide +kernel, by decide +kernel⟩
theorem kv_X8_setOf : Cond.instanceMethod j_X8_setOf.1 ∈ big ∧ Cond.selects j_X8_setOf.1.cls j_X8_setOf.1 j_X8_setOf.1 ∈ big := ⟨bg_in 1159 (by decide +kernel) rfl, pv_in 44 (by decide +kernel) rfl⟩
def j_X8_setThere : MI := (yX8_setThere, cX8_setThere, 3, (some .int))
theorem kj_X8_setThere : KJ j_X8_setThere 0 := ⟨bg_in 1070 (by decide +kernel) rfl, bg_in 9 (by decide +kernel) rfl, by decide, by decide +kernel, by decide +kernel, by decide +kernel⟩
theorem kv_X8_setThere : Cond.instanceMethod j_X8_setThere.1 ∈ big ∧ Cond.selects j_X8_setThere.1.cls j_X8_setThere.1 j_X8_setThere.1 ∈ big := ⟨bg_in 1069 (by decide +kernel) rfl, pv_in 33 (by decide +kernel) rfl⟩
def j_X8_sign : MI := (yX8_sign, cX8_sign, 1, (some .int))
theorem kj_X8_sign : KJ j_X8_sign 0 := ⟨bg_in 1002 (by decide +kernel) rfl, bg_in 9 (by decide +kernel) rfl, by decide, by decide +kernel, by decide +kernel, by decide +kernel⟩
theorem kv_X8_sign : Cond.instanceMethod j_X8_sign.1 ∈ big ∧ Cond.selects j_X8_sign.1.cls j_X8_sign.1 j_X8_sign.1 ∈ big := ⟨bg_in 1001 (by decide +kernel) rfl, pv_in 20 (by decide +kernel) rfl⟩
def j_X8_statement : MI := (yX8_statement, cX8_statement, 2, (some .boolean))
theorem kj_X8_statement : KJ j_X8_statement 0 := ⟨bg_in 998 (by decide +kernel) rfl, bg_in 9 (by decide +kernel) rfl, by decide, by decide +kernel, by decide +kernel, by decide +kernel⟩
theorem kv_X8_statement : Cond.instanceMethod j_X8_statement.1 ∈ big ∧ Cond.selects j_X8_statement.1.cls j_X8_statement.1 j_X8_statement.1 ∈ big := ⟨bg_in 997 (by decide +kernel) rfl, pv_in 19 (by decide +kernel) rfl⟩
def j_X8_table : MI := (yX8_table, cX8_table, 3, (some .int))
theorem kj_X8_table : KJ j_X8_table 0 := ⟨bg_in 994 (by decide +kernel) rfl, bg_in 9 (by decide +kernel) rfl, by decide, by decide +kernel, by decide +kernel, by decide +kernel⟩
theorem kv_X8_table : Cond.instanceMethod j_X8_table.1 ∈ big ∧ Cond.selects j_X8_table.1.cls j_X8_table.1 j_X8_table.1 ∈ big := ⟨bg_in 992 (by decide +kernel) rfl, bg_in 993 (by decide +kernel) rfl⟩
def j_X8_takes : MI := (yX8_takes, cX8_takes, 5, (some .boolean))
theorem kj_X8_takes : KJ j_X8_takes 1 := ⟨bg_in 1263 (by decide +kernel) rfl, bg_in 9 (by decide +kernel) rfl, by decide, by decide +kernel, by decide +kernel, by decide +kernel⟩
theorem kv_X8_takes : Cond.instanceMethod j_X8_takes.1 ∈ big ∧ Cond.selects j_X8_takes.1.cls j_X8_takes.1 j_X8_takes.1 ∈ big := ⟨bg_in 1262 (by decide +kernel) rfl, pv_in 61 (by decide +kernel) rfl⟩
def j_X8_takesLetter : MI := (yX8_takesLetter, cX8_takesLetter, 3, (some .boolean))
theorem kj_X8_takesLetter : KJ j_X8_takesLetter 2 := ⟨bg_in 1267 (by decide +kernel) rfl, bg_in 9 (by decide +kernel) rfl, by decide, by decide +kernel, by decide +kernel, by decide +kernel⟩
theorem kv_X8_takesLetter : Cond.instanceMethod j_X8_takesLetter.1 ∈ big ∧ Cond.selects j_X8_takesLetter.1.cls j_X8_takesLetter.1 j_X8_takesLetter.1 ∈ big := ⟨bg_in 1266 (by decide +kernel) rfl, pv_in 62 (by decide +kernel) rfl⟩
def j_X8_typeOf : MI := (yX8_typeOf, cX8_typeOf, 4, (some .int))
theorem kj_X8_typeOf : KJ j_X8_typeOf 2 := ⟨bg_in 1113 (by decide +kernel) rfl, bg_in 9 (by decide +kernel) rfl, by decide, by decide +kernel, by decide +kernel, by decide +kernel⟩
theorem kv_X8_typeOf : Cond.instanceMethod j_X8_typeOf.1 ∈ big ∧ Cond.selects j_X8_typeOf.1.cls j_X8_typeOf.1 j_X8_typeOf.1 ∈ big := ⟨bg_in 1112 (by decide +kernel) rfl, pv_in 37 (by decide +kernel) rfl⟩
def j_X8_verb : MI := (yX8_verb, cX8_verb, 5, (some .int))
theorem kj_X8_verb : KJ j_X8_verb 2 := ⟨bg_in 1085 (by decide +kernel) rfl, bg_in 9 (by decide +kernel) rfl, by decide, by decide +kernel, by decide +kernel, by decide +kernel⟩
theorem kv_X8_verb : Cond.instanceMethod j_X8_verb.1 ∈ big ∧ Cond.selects j_X8_verb.1.cls j_X8_verb.1 j_X8_verb.1 ∈ big := ⟨bg_in 1083 (by decide +kernel) rfl, bg_in 1084 (by decide +kernel) rfl⟩
def j_X8_verbs : MI := (yX8_verbs, cX8_verbs, 4, (some .int))
theorem kj_X8_verbs : KJ j_X8_verbs 1 := ⟨bg_in 1231 (by decide +kernel) rfl, bg_in 9 (by decide +kernel) rfl, by decide, by decide +kernel, by decide +kernel, by decide +kernel⟩
theorem kv_X8_verbs : Cond.instanceMethod j_X8_verbs.1 ∈ big ∧ Cond.selects j_X8_verbs.1.cls j_X8_verbs.1 j_X8_verbs.1 ∈ big := ⟨bg_in 1229 (by decide +kernel) rfl, bg_in 1230 (by decide +kernel) rfl⟩
def j_X8_whatIs : MI := (yX8_whatIs, cX8_whatIs, 8, (some .int))
theorem kj_X8_whatIs : KJ j_X8_whatIs 2 := ⟨bg_in 1335 (by decide +kernel) rfl, bg_in 9 (by decide +kernel) rfl, by decide, by decide +kernel, by decide +kernel, by decide +kernel⟩
theorem kv_X8_whatIs : Cond.instanceMethod j_X8_whatIs.1 ∈ big ∧ Cond.selects j_X8_whatIs.1.cls j_X8_whatIs.1 j_X8_whatIs.1 ∈ big := ⟨bg_in 1333 (by decide +kernel) rfl, bg_in 1334 (by decide +kernel) rfl⟩
def j_X8_without : MI := (yX8_without, cX8_without, 6, (some .int))
theorem kj_X8_without : KJ j_X8_without 3 := ⟨bg_in 1307 (by decide +kernel) rfl, bg_in 9 (by decide +kernel) rfl, by decide, by decide +kernel, by decide +kernel, by decide +kernel⟩
theorem kv_X8_without : Cond.instanceMethod j_X8_without.1 ∈ big ∧ Cond.selects j_X8_without.1.cls j_X8_without.1 j_X8_without.1 ∈ big := ⟨bg_in 1305 (by decide +kernel) rfl, bg_in 1306 (by decide +kernel) rfl⟩
def j_X8_witness : MI := (yX8_witness, cX8_witness, 4, (some .int))
theorem kj_X8_witness : KJ j_X8_witness 2 := ⟨bg_in 1259 (by decide +kernel) rfl, bg_in 9 (by decide +kernel) rfl, by decide, by decide +kernel, by decide +kernel, by decide +kernel⟩
theorem kv_X8_witness : Cond.instanceMethod j_X8_witness.1 ∈ big ∧ Cond.selects j_X8_witness.1.cls j_X8_witness.1 j_X8_witness.1 ∈ big := ⟨bg_in 1257 (by decide +kernel) rfl, bg_in 1258 (by decide +kernel) rfl⟩
theorem ml_RJ0_335 : ML RJ0 335 j_J0_coder_7d493 := Or.inl (bg_in 552 (by decide +kernel) rfl)
theorem ml_RJ0_492 : ML RJ0 492 j_J0_isLatin1_aae02 := Or.inl (bg_in 562 (by decide +kernel) rfl)
theorem ml_RJ0_495 : ML RJ0 495 j_J1_charAt_3b067 := Or.inl (bg_in 566 (by decide +kernel) rfl)
theorem ml_RJ0_1059 : ML RJ0 1059 j_J3_checkIndex_8e157 := Or.inl (bg_in 574 (by decide +kernel) rfl)
theorem ml_RJ1_9 : ML RJ1 9 j_J0_checkIndex_df160 := Or.inl (bg_in 569 (by decide +kernel) rfl)
theorem ml_RL_9 : ML RL 9 j_X7_init := Or.inl (bg_in 18 (by decide +kernel) rfl)
theorem ml_RL_12 : ML RL 12 j_X8_init := Or.inl (bg_in 819 (by decide +kernel) rfl)
theorem ml_RL_13 : ML RL 13 j_X7_letter := Or.inl (bg_in 281 (by decide +kernel) rfl)
theorem ml_RL_17 : ML RL 17 j_X8_letter := Or.inl (bg_in 980 (by decide +kernel) rfl)
theorem ml_RL_18 : ML RL 18 j_X7_table := Or.inl (bg_in 303 (by decide +kernel) rfl)
theorem ml_RL_22 : ML RL 22 j_X8_table := Or.inl (bg_in 991 (by decide +kernel) rfl)
theorem ml_RL_23 : ML RL 23 j_X7_kind := Or.inl (bg_in 449 (by decide +kernel) rfl)
theorem ml_RL_27 : ML RL 27 j_X8_kind := Or.inl (bg_in 1078 (by decide +kernel) rfl)
theorem ml_RL_28 : ML RL 28 j_X7_verb := Or.inl (bg_in 454 (by decide +kernel) rfl)
theorem ml_RL_32 : ML RL 32 j_X8_verb := Or.inl (bg_in 1082 (by decide +kernel) rfl)
theorem ml_RL_33 : ML RL 33 j_X7_drops := Or.inl (bg_in 462 (by decide +kernel) rfl)
theorem ml_RL_36 : ML RL 36 j_X8_drops := Or.inl (bg_in 1090 (by decide +kernel) rfl)
theorem ml_RL_37 : ML RL 37 j_X7_copies := Or.inl (bg_in 477 (by decide +kernel) rfl)
theorem ml_RL_40 : ML RL 40 j_X8_copies := Or.inl (bg_in 1094 (by decide +kernel) rfl)
theorem ml_RL_41 : ML RL 41 j_X7_route := Or.inl (bg_in 485 (by decide +kernel) rfl)
theorem ml_RL_44 : ML RL 44 j_X8_route := Or.inl (bg_in 1098 (by decide +kernel) rfl)
theorem ml_RL_45 : ML RL 45 j_X7_segment := Or.inl (bg_in 495 (by decide +kernel) rfl)
theorem ml_RL_48 : ML RL 48 j_X8_segment := Or.inl (bg_in 1114 (by decide +kernel) rfl)
theorem ml_RL_49 : ML RL 49 j_X7_nodes := Or.inl (bg_in 500 (by decide +kernel) rfl)
theorem ml_RL_52 : ML RL 52 j_X8_nodes := Or.inl (bg_in 1118 (by decide +kernel) rfl)
theorem ml_RL_53 : ML RL 53 j_X7_letterOf := Or.inl (bg_in 508 (by decide +kernel) rfl)
theorem ml_RL_56 : ML RL 56 j_X8_letterOf := Or.inl (bg_in 1134 (by decide +kernel) rfl)
theorem ml_RL_57 : ML RL 57 j_X7_match := Or.inl (bg_in 527 (by decide +kernel) rfl)
theorem ml_RL_60 : ML RL 60 j_X8_match := Or.inl (bg_in 1145 (by decide +kernel) rfl)
theorem ml_RL_61 : ML RL 61 j_X7_bound := Or.inl (bg_in 623 (by decide +kernel) rfl)
theorem ml_RL_64 : ML RL 64 j_X8_bound := Or.inl (bg_in 1212 (by decide +kernel) rfl)
theorem ml_RL_65 : ML RL 65 j_X7_looked := Or.inl (bg_in 632 (by decide +kernel) rfl)
theorem ml_RL_68 : ML RL 68 j_X8_looked := Or.inl (bg_in 1224 (by decide +kernel) rfl)
theorem ml_RL_69 : ML RL 69 j_X7_verbs := Or.inl (bg_in 636 (by decide +kernel) rfl)
theorem ml_RL_72 : ML RL 72 j_X8_verbs := Or.inl (bg_in 1228 (by decide +kernel) rfl)
theorem ml_RL_73 : ML RL 73 j_X7_brought := Or.inl (bg_in 640 (by decide +kernel) rfl)
theorem ml_RL_76 : ML RL 76 j_X8_brought := Or.inl (bg_in 1232 (by decide +kernel) rfl)
theorem ml_RL_77 : ML RL 77 j_X7_never := Or.inl (bg_in 651 (by decide +kernel) rfl)
theorem ml_RL_80 : ML RL 80 j_X8_never := Or.inl (bg_in 1240 (by decide +kernel) rfl)
theorem ml_RL_81 : ML RL 81 j_X7_matched := Or.inl (bg_in 660 (by decide +kernel) rfl)
theorem ml_RL_84 : ML RL 84 j_X8_matched := Or.inl (bg_in 1248 (by decide +kernel) rfl)
theorem ml_RL_85 : ML RL 85 j_X7_witness := Or.inl (bg_in 669 (by decide +kernel) rfl)
theorem ml_RL_88 : ML RL 88 j_X8_witness := Or.inl (bg_in 1256 (by decide +kernel) rfl)
theorem ml_RL_89 : ML RL 89 j_X7_clash := Or.inl (bg_in 681 (by decide +kernel) rfl)
theorem ml_RL_92 : ML RL 92 j_X8_clash := Or.inl (bg_in 1268 (by decide +kernel) rfl)
theorem ml_RL_93 : ML RL 93 j_X7_build := Or.inl (bg_in 695 (by decide +kernel) rfl)
theorem ml_RL_97 : ML RL 97 j_X8_build := Or.inl (bg_in 1276 (by decide +kernel) rfl)
theorem ml_RL_98 : ML RL 98 j_X7_back := Or.inl (bg_in 732 (by decide +kernel) rfl)
theorem ml_RL_101 : ML RL 101 j_X8_back := Or.inl (bg_in 1300 (by decide +kernel) rfl)
theorem ml_RL_102 : ML RL 102 j_X7_without := Or.inl (bg_in 736 (by decide +kernel) rfl)
theorem ml_RL_105 : ML RL 105 j_X8_without := Or.inl (bg_in 1304 (by decide +kernel) rfl)
theorem ml_RL_106 : ML RL 106 j_X7_best := Or.inl (bg_in 740 (by decide +kernel) rfl)
theorem ml_RL_109 : ML RL 109 j_X8_best := Or.inl (bg_in 1308 (by decide +kernel) rfl)
theorem ml_RL_110 : ML RL 110 j_X7_lost := Or.inl (bg_in 744 (by decide +kernel) rfl)
theorem ml_RL_114 : ML RL 114 j_X8_lost := Or.inl (bg_in 1312 (by decide +kernel) rfl)
theorem ml_RL_115 : ML RL 115 j_X7_mean := Or.inl (bg_in 762 (by decide +kernel) rfl)
theorem ml_RL_119 : ML RL 119 j_X8_mean := Or.inl (bg_in 1327 (by decide +kernel) rfl)
theorem ml_RL_120 : ML RL 120 j_X7_whatIs := Or.inl (bg_in 767 (by decide +kernel) rfl)
theorem ml_RL_123 : ML RL 123 j_X8_whatIs := Or.inl (bg_in 1332 (by decide +kernel) rfl)
theorem ml_RL_124 : ML RL 124 j_X7_row := Or.inl (bg_in 776 (by decide +kernel) rfl)
theorem ml_RL_127 : ML RL 127 j_X8_row := Or.inl (bg_in 1340 (by decide +kernel) rfl)
theorem ml_RL_128 : ML RL 128 j_X7_judge := Or.inl (bg_in 780 (by decide +kernel) rfl)
theorem ml_RL_131 : ML RL 131 j_X8_judge := Or.inl (bg_in 1344 (by decide +kernel) rfl)
theorem ml_RL_132 : ML RL 132 j_X7_clear := Or.inl (bg_in 784 (by decide +kernel) rfl)
theorem ml_RL_135 : ML RL 135 j_X8_clear := Or.inl (bg_in 1348 (by decide +kernel) rfl)
theorem ml_RL_136 : ML RL 136 j_X7_lots := Or.inl (bg_in 788 (by decide +kernel) rfl)
theorem ml_RL_139 : ML RL 139 j_X8_lots := Or.inl (bg_in 1352 (by decide +kernel) rfl)
theorem ml_RL_140 : ML RL 140 j_X7_image := Or.inl (bg_in 801 (by decide +kernel) rfl)
theorem ml_RL_143 : ML RL 143 j_X8_image := Or.inl (bg_in 1063 (by decide +kernel) rfl)
theorem ml_RL_144 : ML RL 144 j_X7_on := Or.inl (bg_in 805 (by decide +kernel) rfl)
theorem ml_RL_147 : ML RL 147 j_X8_on := Or.inl (bg_in 1074 (by decide +kernel) rfl)
theorem ml_RL_148 : ML RL 148 j_X7_count := Or.inl (bg_in 809 (by decide +kernel) rfl)
theorem ml_RL_151 : ML RL 151 j_X8_count := Or.inl (bg_in 1363 (by decide +kernel) rfl)
theorem ml_RX0_3 : Cond.methodLink RX0 3 objectInit ∈ big := bg_in 29 (by decide +kernel) rfl
theorem ml_RX0_24 : ML RX0 24 j_X4_init := Or.inr ⟨"RoutesByTries", tb_in 33 (by decide +kernel)⟩
theorem ml_RX0_29 : ML RX0 29 j_X7_numberAt := Or.inr ⟨"RoutesByTries", tb_in 311 (by decide +kernel)⟩
theorem ml_RX0_33 : ML RX0 33 j_X7_put := Or.inr ⟨"RoutesByTries", tb_in 312 (by decide +kernel)⟩
theorem ml_RX0_37 : ML RX0 37 j_X0_at := Or.inl (bg_in 313 (by decide +kernel) rfl)
theorem ml_RX0_41 : ML RX0 41 j_X4_copyFrom := Or.inl (bg_in 317 (by decide +kernel) rfl)
theorem ml_RX0_53 : ML RX0 53 j_X0_isFull := Or.inl (bg_in 403 (by decide +kernel) rfl)
theorem ml_RX0_57 : ML RX0 57 j_X0_isThere := Or.inl (bg_in 470 (by decide +kernel) rfl)
theorem ml_RX0_61 : ML RX0 61 j_X4_isMount := Or.inl (bg_in 659 (by decide +kernel) rfl)
theorem ml_RX1_3 : Cond.methodLink RX1 3 objectInit ∈ big := bg_in 176 (by decide +kernel) rfl
theorem ml_RX1_22 : ML RX1 22 j_X7_numberAt := Or.inr ⟨"RoutesByTries", tb_in 521 (by decide +kernel)⟩
theorem ml_RX1_26 : ML RX1 26 j_X7_put := Or.inr ⟨"RoutesByTries", tb_in 522 (by decide +kernel)⟩
theorem ml_RX1_30 : ML RX1 30 j_X1_isFull := Or.inl (bg_in 727 (by decide +kernel) rfl)
theorem ml_RX2_3 : Cond.methodLink RX2 3 objectInit ∈ big := bg_in 235 (by decide +kernel) rfl
theorem ml_RX2_9 : ML RX2 9 j_J9_max_7cf53 := Or.inl (bg_in 236 (by decide +kernel) rfl)
theorem ml_RX2_25 : ML RX2 25 j_X2_isFull := Or.inl (bg_in 301 (by decide +kernel) rfl)
theorem ml_RX2_29 : ML RX2 29 j_X7_put := Or.inr ⟨"RoutesByTries", tb_in 302 (by decide +kernel)⟩
theorem ml_RX3_9 : ML RX3 9 j_X3_placeOfFormFault := Or.inl (bg_in 325 (by decide +kernel) rfl)
theorem ml_RX3_21 : ML RX3 21 j_X2_at := Or.inl (bg_in 328 (by decide +kernel) rfl)
theorem ml_RX3_25 : ML RX3 25 j_X3_obey := Or.inl (bg_in 347 (by decide +kernel) rfl)
theorem ml_RX3_29 : ML RX3 29 j_X3_stateBehind := Or.inl (bg_in 332 (by decide +kernel) rfl)
theorem ml_RX3_33 : ML RX3 33 j_X3_stateBehindFirst := Or.inl (bg_in 335 (by decide +kernel) rfl)
theorem ml_RX3_36 : ML RX3 36 j_X3_isDigit := Or.inl (bg_in 338 (by decide +kernel) rfl)
theorem ml_RX3_40 : ML RX3 40 j_X3_stateBehindClose := Or.inl (bg_in 341 (by decide +kernel) rfl)
theorem ml_RX3_43 : ML RX3 43 j_X3_isNamed := Or.inl (bg_in 344 (by decide +kernel) rfl)
theorem ml_RX3_46 : ML RX3 46 j_X7_isVerb := Or.inr ⟨"RoutesByTries", tb_in 350 (by decide +kernel)⟩
theorem ml_RX3_49 : ML RX3 49 j_X3_addRoute := Or.inl (bg_in 353 (by decide +kernel) rfl)
theorem ml_RX3_52 : ML RX3 52 j_X7_isRouter := Or.inr ⟨"RoutesByTries", tb_in 356 (by decide +kernel)⟩
theorem ml_RX3_55 : ML RX3 55 j_X3_turn := Or.inl (bg_in 404 (by decide +kernel) rfl)
theorem ml_RX3_59 : ML RX3 59 j_X3_drop := Or.inl (bg_in 408 (by decide +kernel) rfl)
theorem ml_RX3_63 : ML RX3 63 j_X0_isFull := Or.inl (bg_in 359 (by decide +kernel) rfl)
theorem ml_RX3_69 : ML RX3 69 j_X0_draft := Or.inl (bg_in 363 (by decide +kernel) rfl)
theorem ml_RX3_84 : ML RX3 84 j_X3_readSegments := Or.inl (bg_in 367 (by decide +kernel) rfl)
theorem ml_RX3_88 : ML RX3 88 j_X4_hasRest := Or.inl (bg_in 386 (by decide +kernel) rfl)
theorem ml_RX3_91 : ML RX3 91 j_X0_addDraft := Or.inl (bg_in 399 (by decide +kernel) rfl)
theorem ml_RX3_94 : ML RX3 94 j_X4_empty := Or.inl (bg_in 370 (by decide +kernel) rfl)
theorem ml_RX3_97 : ML RX3 97 j_X4_placeOf := Or.inl (bg_in 374 (by decide +kernel) rfl)
theorem ml_RX3_100 : ML RX3 100 j_X4_isFull := Or.inl (bg_in 382 (by decide +kernel) rfl)
theorem ml_RX3_101 : ML RX3 101 j_X3_segmentOf := Or.inl (bg_in 390 (by decide +kernel) rfl)
theorem ml_RX3_104 : ML RX3 104 j_X4_add := Or.inl (bg_in 393 (by decide +kernel) rfl)
theorem ml_RX3_112 : ML RX3 112 j_X7_put := Or.inr ⟨"RoutesByTries", tb_in 407 (by decide +kernel)⟩
theorem ml_RX3_119 : ML RX3 119 j_X0_isThere := Or.inl (bg_in 411 (by decide +kernel) rfl)
theorem ml_RX3_122 : ML RX3 122 j_X0_at := Or.inl (bg_in 415 (by decide +kernel) rfl)
theorem ml_RX4_3 : Cond.methodLink RX4 3 objectInit ∈ big := bg_in 36 (by decide +kernel) rfl
theorem ml_RX4_22 : ML RX4 22 j_X7_numberAt := Or.inr ⟨"RoutesByTries", tb_in 321 (by decide +kernel)⟩
theorem ml_RX4_39 : ML RX4 39 j_X4_isFull := Or.inl (bg_in 397 (by decide +kernel) rfl)
theorem ml_RX4_43 : ML RX4 43 j_X7_put := Or.inr ⟨"RoutesByTries", tb_in 398 (by decide +kernel)⟩
theorem ml_RX4_47 : ML RX4 47 j_X4_segmentAt := Or.inl (bg_in 378 (by decide +kernel) rfl)
theorem ml_RX4_51 : ML RX4 51 j_X4_placeOf := Or.inl (bg_in 493 (by decide +kernel) rfl)
theorem ml_RX4_54 : ML RX4 54 j_X5_edgeOf := Or.inl (bg_in 693 (by decide +kernel) rfl)
theorem ml_RX4_59 : ML RX4 59 j_X4_hasRest := Or.inl (bg_in 677 (by decide +kernel) rfl)
theorem ml_RX4_62 : ML RX4 62 j_X4_isMount := Or.inl (bg_in 678 (by decide +kernel) rfl)
theorem ml_RX4_68 : ML RX4 68 j_X1_at := Or.inl (bg_in 679 (by decide +kernel) rfl)
theorem ml_RX4_71 : ML RX4 71 j_X7_fits := Or.inr ⟨"RoutesByTries", tb_in 680 (by decide +kernel)⟩
theorem ml_RX5_3 : Cond.methodLink RX5 3 objectInit ∈ big := bg_in 110 (by decide +kernel) rfl
theorem ml_RX5_45 : ML RX5 45 j_X5_empty := Or.inl (bg_in 111 (by decide +kernel) rfl)
theorem ml_RX5_52 : ML RX5 52 j_X5_addNode := Or.inl (bg_in 115 (by decide +kernel) rfl)
theorem ml_RX5_56 : ML RX5 56 j_X7_put := Or.inr ⟨"RoutesByTries", tb_in 119 (by decide +kernel)⟩
theorem ml_RX5_63 : ML RX5 63 j_X7_numberAt := Or.inr ⟨"RoutesByTries", tb_in 420 (by decide +kernel)⟩
theorem ml_RX5_68 : ML RX5 68 j_X0_isThere := Or.inl (bg_in 421 (by decide +kernel) rfl)
theorem ml_RX5_72 : ML RX5 72 j_X0_at := Or.inl (bg_in 422 (by decide +kernel) rfl)
theorem ml_RX5_76 : ML RX5 76 j_X5_plant := Or.inl (bg_in 423 (by decide +kernel) rfl)
theorem ml_RX5_80 : ML RX5 80 j_X5_findWays := Or.inl (bg_in 445 (by decide +kernel) rfl)
theorem ml_RX5_92 : ML RX5 92 j_X4_segmentAt := Or.inl (bg_in 427 (by decide +kernel) rfl)
theorem ml_RX5_95 : ML RX5 95 j_X5_edgeOf := Or.inl (bg_in 428 (by decide +kernel) rfl)
theorem ml_RX5_98 : ML RX5 98 j_X5_mark := Or.inl (bg_in 431 (by decide +kernel) rfl)
theorem ml_RX5_101 : ML RX5 101 j_X4_isMount := Or.inl (bg_in 434 (by decide +kernel) rfl)
theorem ml_RX5_107 : ML RX5 107 j_X4_hasRest := Or.inl (bg_in 438 (by decide +kernel) rfl)
theorem ml_RX5_113 : ML RX5 113 j_X7_served := Or.inr ⟨"RoutesByTries", tb_in 439 (by decide +kernel)⟩
theorem ml_RX5_116 : ML RX5 116 j_X7_has := Or.inr ⟨"RoutesByTries", tb_in 442 (by decide +kernel)⟩
theorem ml_RX6_3 : Cond.methodLink RX6 3 objectInit ∈ big := bg_in 104 (by decide +kernel) rfl
theorem ml_RX6_11 : ML RX6 11 j_X5_init := Or.inl (bg_in 107 (by decide +kernel) rfl)
theorem ml_RX6_20 : ML RX6 20 j_X1_init := Or.inr ⟨"RoutesByTries", tb_in 173 (by decide +kernel)⟩
theorem ml_RX6_32 : ML RX6 32 j_X1_read := Or.inl (bg_in 535 (by decide +kernel) rfl)
theorem ml_RX6_46 : ML RX6 46 j_X6_look := Or.inl (bg_in 536 (by decide +kernel) rfl)
theorem ml_RX6_56 : ML RX6 56 j_X6_bring := Or.inl (bg_in 668 (by decide +kernel) rfl)
theorem ml_RX6_63 : ML RX6 63 j_X7_numberAt := Or.inr ⟨"RoutesByTries", tb_in 540 (by decide +kernel)⟩
theorem ml_RX6_76 : ML RX6 76 j_X6_orderOf := Or.inl (bg_in 541 (by decide +kernel) rfl)
theorem ml_RX6_80 : ML RX6 80 j_J0_length_8abf5 := Or.inl (bg_in 548 (by decide +kernel) rfl)
theorem ml_RX6_86 : ML RX6 86 j_J0_charAt_5068e := Or.inl (bg_in 558 (by decide +kernel) rfl)
theorem ml_RX6_90 : ML RX6 90 j_X6_nextBy := Or.inl (bg_in 596 (by decide +kernel) rfl)
theorem ml_RX6_93 : ML RX6 93 j_X6_lookAtMounts := Or.inl (bg_in 608 (by decide +kernel) rfl)
theorem ml_RX6_96 : ML RX6 96 j_X6_endBy := Or.inl (bg_in 614 (by decide +kernel) rfl)
theorem ml_RX6_107 : ML RX6 107 j_X1_at := Or.inl (bg_in 600 (by decide +kernel) rfl)
theorem ml_RX6_111 : ML RX6 111 j_X5_nodeBehind := Or.inl (bg_in 601 (by decide +kernel) rfl)
theorem ml_RX6_114 : ML RX6 114 j_X7_fits := Or.inr ⟨"RoutesByTries", tb_in 605 (by decide +kernel)⟩
theorem ml_RX6_121 : ML RX6 121 j_X7_has := Or.inr ⟨"RoutesByTries", tb_in 612 (by decide +kernel)⟩
theorem ml_RX6_124 : ML RX6 124 j_X7_put := Or.inr ⟨"RoutesByTries", tb_in 613 (by decide +kernel)⟩
theorem ml_RX6_140 : ML RX6 140 j_X7_leastOf := Or.inr ⟨"RoutesByTries", tb_in 618 (by decide +kernel)⟩
theorem ml_RX7_1 : Cond.methodLink RX7 1 objectInit ∈ big := bg_in 21 (by decide +kernel) rfl
theorem ml_RX7_9 : ML RX7 9 j_X0_init := Or.inl (bg_in 26 (by decide +kernel) rfl)
theorem ml_RX7_24 : ML RX7 24 j_X6_init := Or.inr ⟨"RoutesByTries", tb_in 101 (by decide +kernel)⟩
theorem ml_RX7_31 : ML RX7 31 j_X2_init := Or.inl (bg_in 232 (by decide +kernel) rfl)
theorem ml_RX7_43 : ML RX7 43 j_X1_init := Or.inr ⟨"RoutesByTries", tb_in 249 (by decide +kernel)⟩
theorem ml_RX7_55 : ML RX7 55 j_X7_refuse := Or.inl (bg_in 285 (by decide +kernel) rfl)
theorem ml_RX7_59 : ML RX7 59 j_X2_isFull := Or.inl (bg_in 293 (by decide +kernel) rfl)
theorem ml_RX7_63 : ML RX7 63 j_X2_add := Or.inl (bg_in 297 (by decide +kernel) rfl)
theorem ml_RX7_70 : ML RX7 70 j_X0_copyFrom := Or.inl (bg_in 307 (by decide +kernel) rfl)
theorem ml_RX7_74 : ML RX7 74 j_X3_read := Or.inl (bg_in 322 (by decide +kernel) rfl)
theorem ml_RX7_84 : ML RX7 84 j_X5_grow := Or.inl (bg_in 416 (by decide +kernel) rfl)
theorem ml_RX7_89 : ML RX7 89 j_X7_isRouter := Or.inl (bg_in 453 (by decide +kernel) rfl)
theorem ml_RX7_96 : ML RX7 96 j_X7_numberAt := Or.inl (bg_in 289 (by decide +kernel) rfl)
theorem ml_RX7_103 : ML RX7 103 j_X7_put := Or.inl (bg_in 292 (by decide +kernel) rfl)
theorem ml_RX7_107 : ML RX7 107 j_X0_isThere := Or.inl (bg_in 458 (by decide +kernel) rfl)
theorem ml_RX7_110 : ML RX7 110 j_X0_at := Or.inl (bg_in 459 (by decide +kernel) rfl)
theorem ml_RX7_114 : ML RX7 114 j_X4_isMount := Or.inl (bg_in 460 (by decide +kernel) rfl)
theorem ml_RX7_119 : ML RX7 119 j_X7_isVerb := Or.inl (bg_in 461 (by decide +kernel) rfl)
theorem ml_RX7_129 : ML RX7 129 j_X0_thereBits := Or.inl (bg_in 466 (by decide +kernel) rfl)
theorem ml_RX7_133 : ML RX7 133 j_J6_bitCount_0f7a4 := Or.inl (bg_in 471 (by decide +kernel) rfl)
theorem ml_RX7_141 : ML RX7 141 j_X0_isFull := Or.inl (bg_in 481 (by decide +kernel) rfl)
theorem ml_RX7_142 : ML RX7 142 j_X0_draft := Or.inl (bg_in 482 (by decide +kernel) rfl)
theorem ml_RX7_146 : ML RX7 146 j_X4_copyFrom := Or.inl (bg_in 483 (by decide +kernel) rfl)
theorem ml_RX7_152 : ML RX7 152 j_X0_addDraft := Or.inl (bg_in 484 (by decide +kernel) rfl)
theorem ml_RX7_159 : ML RX7 159 j_X4_parameterBits := Or.inl (bg_in 489 (by decide +kernel) rfl)
theorem ml_RX7_162 : ML RX7 162 j_X4_hasRest := Or.inl (bg_in 494 (by decide +kernel) rfl)
theorem ml_RX7_165 : ML RX7 165 j_X4_segmentAt := Or.inl (bg_in 499 (by decide +kernel) rfl)
theorem ml_RX7_168 : ML RX7 168 j_X5_nodesOf := Or.inl (bg_in 504 (by decide +kernel) rfl)
theorem ml_RX7_171 : ML RX7 171 j_X7_isPath := Or.inl (bg_in 512 (by decide +kernel) rfl)
theorem ml_RX7_177 : ML RX7 177 j_X1_read := Or.inl (bg_in 515 (by decide +kernel) rfl)
theorem ml_RX7_180 : ML RX7 180 j_X1_at := Or.inl (bg_in 523 (by decide +kernel) rfl)
theorem ml_RX7_182 : ML RX7 182 j_X6_bring := Or.inl (bg_in 531 (by decide +kernel) rfl)
theorem ml_RX7_192 : ML RX7 192 j_X7_letterBound := Or.inl (bg_in 627 (by decide +kernel) rfl)
theorem ml_RX7_199 : ML RX7 199 j_X7_isOneOfTwo := Or.inl (bg_in 644 (by decide +kernel) rfl)
theorem ml_RX7_202 : ML RX7 202 j_X7_askedVerb := Or.inl (bg_in 647 (by decide +kernel) rfl)
theorem ml_RX7_205 : ML RX7 205 j_X0_mountBits := Or.inl (bg_in 655 (by decide +kernel) rfl)
theorem ml_RX7_208 : ML RX7 208 j_X6_bringAll := Or.inl (bg_in 664 (by decide +kernel) rfl)
theorem ml_RX7_215 : ML RX7 215 j_X4_takes := Or.inl (bg_in 673 (by decide +kernel) rfl)
theorem ml_RX7_219 : ML RX7 219 j_X7_clashing := Or.inl (bg_in 685 (by decide +kernel) rfl)
theorem ml_RX7_223 : ML RX7 223 j_X7_isLetter := Or.inl (bg_in 699 (by decide +kernel) rfl)
theorem ml_RX7_226 : ML RX7 226 j_X7_give := Or.inl (bg_in 702 (by decide +kernel) rfl)
theorem ml_RX7_230 : ML RX7 230 j_X7_pathBuilt := Or.inl (bg_in 706 (by decide +kernel) rfl)
theorem ml_RX7_237 : ML RX7 237 j_X7_refuseLong := Or.inl (bg_in 748 (by decide +kernel) rfl)
theorem ml_RX7_241 : ML RX7 241 j_X7_power := Or.inl (bg_in 753 (by decide +kernel) rfl)
theorem ml_RX7_245 : ML RX7 245 j_X7_partOfFraction := Or.inl (bg_in 756 (by decide +kernel) rfl)
theorem ml_RX7_252 : ML RX7 252 j_X7_firstNotSo := Or.inl (bg_in 771 (by decide +kernel) rfl)
theorem ml_RX7_255 : ML RX7 255 j_X7_nextSeed := Or.inl (bg_in 792 (by decide +kernel) rfl)
theorem ml_RX7_258 : ML RX7 258 j_X7_drawn := Or.inl (bg_in 797 (by decide +kernel) rfl)
theorem ml_RX7_264 : ML RX7 264 j_X0_segmentsThere := Or.inl (bg_in 813 (by decide +kernel) rfl)
theorem ml_RX7_273 : ML RX7 273 j_X4_placeOf := Or.inl (bg_in 631 (by decide +kernel) rfl)
theorem ml_RX7_279 : ML RX7 279 j_X4_isAlike := Or.inl (bg_in 689 (by decide +kernel) rfl)
theorem ml_RX7_283 : ML RX7 283 j_X7_served := Or.inl (bg_in 694 (by decide +kernel) rfl)
theorem ml_RX7_286 : ML RX7 286 j_X7_layWay := Or.inl (bg_in 710 (by decide +kernel) rfl)
theorem ml_RX7_289 : ML RX7 289 j_X7_lay := Or.inl (bg_in 714 (by decide +kernel) rfl)
theorem ml_RX7_292 : ML RX7 292 j_X1_number := Or.inl (bg_in 728 (by decide +kernel) rfl)
theorem ml_RX7_301 : ML RX7 301 j_X7_fits := Or.inl (bg_in 718 (by decide +kernel) rfl)
theorem ml_RX7_304 : ML RX7 304 j_X1_isFull := Or.inl (bg_in 719 (by decide +kernel) rfl)
theorem ml_RX7_305 : ML RX7 305 j_X1_add := Or.inl (bg_in 723 (by decide +kernel) rfl)
theorem ml_RX7_306 : ML RX7 306 j_X2_at := Or.inl (bg_in 775 (by decide +kernel) rfl)
theorem ml_RX7_307 : ML RX7 307 j_X7_has := Or.inl (bg_in 621 (by decide +kernel) rfl)
theorem ml_RX7_310 : ML RX7 310 j_X7_greatestDivisor := Or.inl (bg_in 759 (by decide +kernel) rfl)
theorem ml_RX8_1 : Cond.methodLink RX8 1 objectInit ∈ big := bg_in 822 (by decide +kernel) rfl
theorem ml_RX8_115 : ML RX8 115 j_X8_isIn := Or.inl (bg_in 1007 (by decide +kernel) rfl)
theorem ml_RX8_119 : ML RX8 119 j_X8_typeOf := Or.inl (bg_in 1110 (by decide +kernel) rfl)
theorem ml_RX8_123 : ML RX8 123 j_X8_has := Or.inl (bg_in 1056 (by decide +kernel) rfl)
theorem ml_RX8_127 : ML RX8 127 j_X8_isMount := Or.inl (bg_in 1086 (by decide +kernel) rfl)
theorem ml_RX8_146 : ML RX8 146 j_X8_serves := Or.inl (bg_in 1194 (by decide +kernel) rfl)
theorem ml_RX8_149 : ML RX8 149 j_X8_hasRest := Or.inl (bg_in 1106 (by decide +kernel) rfl)
theorem ml_RX8_152 : ML RX8 152 j_X8_setBy := Or.inl (bg_in 1208 (by decide +kernel) rfl)
theorem ml_RX8_156 : ML RX8 156 j_X8_looksAt := Or.inl (bg_in 1161 (by decide +kernel) rfl)
theorem ml_RX8_160 : ML RX8 160 j_X8_mountFrom := Or.inl (bg_in 1186 (by decide +kernel) rfl)
theorem ml_RX8_163 : ML RX8 163 j_X8_setOf := Or.inl (bg_in 1157 (by decide +kernel) rfl)
theorem ml_RX8_167 : ML RX8 167 j_X8_isStrict := Or.inl (bg_in 1178 (by decide +kernel) rfl)
theorem ml_RX8_173 : ML RX8 173 j_X8_orderOf := Or.inl (bg_in 1171 (by decide +kernel) rfl)
theorem ml_RX8_176 : ML RX8 176 j_X8_goesBack := Or.inl (bg_in 1174 (by decide +kernel) rfl)
theorem ml_RX8_179 : ML RX8 179 j_X8_goesMount := Or.inl (bg_in 1182 (by decide +kernel) rfl)
theorem ml_RX8_182 : ML RX8 182 j_X8_leastEnd := Or.inl (bg_in 1190 (by decide +kernel) rfl)
theorem ml_RX8_188 : ML RX8 188 j_X8_leastRest := Or.inl (bg_in 1200 (by decide +kernel) rfl)
theorem ml_RX8_191 : ML RX8 191 j_X8_goesBy := Or.inl (bg_in 1204 (by decide +kernel) rfl)
theorem ml_RX8_195 : ML RX8 195 j_X8_opens := Or.inl (bg_in 1141 (by decide +kernel) rfl)
theorem ml_RX8_198 : ML RX8 198 j_X8_goesStage := Or.inl (bg_in 1165 (by decide +kernel) rfl)
theorem ml_RX8_201 : ML RX8 201 j_X8_bindsBy := Or.inl (bg_in 1220 (by decide +kernel) rfl)
theorem ml_RX8_205 : ML RX8 205 j_X8_beyond := Or.inl (bg_in 984 (by decide +kernel) rfl)
theorem ml_RX8_211 : ML RX8 211 j_X8_no := Or.inl (bg_in 987 (by decide +kernel) rfl)
theorem ml_RX8_217 : ML RX8 217 j_X8_sign := Or.inl (bg_in 999 (by decide +kernel) rfl)
theorem ml_RX8_230 : ML RX8 230 j_X8_readsSegment := Or.inl (bg_in 1014 (by decide +kernel) rfl)
theorem ml_RX8_234 : ML RX8 234 j_X8_readsDigit := Or.inl (bg_in 1003 (by decide +kernel) rfl)
theorem ml_RX8_237 : ML RX8 237 j_X8_readsSegments := Or.inl (bg_in 1010 (by decide +kernel) rfl)
theorem ml_RX8_240 : ML RX8 240 j_X8_isRouter := Or.inl (bg_in 1034 (by decide +kernel) rfl)
theorem ml_RX8_243 : ML RX8 243 j_X8_isVerb := Or.inl (bg_in 1049 (by decide +kernel) rfl)
theorem ml_RX8_246 : ML RX8 246 j_X8_areSegments := Or.inl (bg_in 1052 (by decide +kernel) rfl)
theorem ml_RX8_250 : ML RX8 250 j_X8_isMore := Or.inl (bg_in 1059 (by decide +kernel) rfl)
theorem ml_RX8_254 : ML RX8 254 j_X8_isRoute := Or.inl (bg_in 1041 (by decide +kernel) rfl)
theorem ml_RX8_257 : ML RX8 257 j_X8_comesKind := Or.inl (bg_in 1030 (by decide +kernel) rfl)
theorem ml_RX8_260 : ML RX8 260 j_X8_comesDrop := Or.inl (bg_in 1037 (by decide +kernel) rfl)
theorem ml_RX8_263 : ML RX8 263 j_X8_comesRoute := Or.inl (bg_in 1045 (by decide +kernel) rfl)
theorem ml_RX8_266 : ML RX8 266 j_X8_statement := Or.inl (bg_in 995 (by decide +kernel) rfl)
theorem ml_RX8_269 : ML RX8 269 j_X8_passesAll := Or.inl (bg_in 1018 (by decide +kernel) rfl)
theorem ml_RX8_273 : ML RX8 273 j_X8_comesTold := Or.inl (bg_in 1026 (by decide +kernel) rfl)
theorem ml_RX8_283 : ML RX8 283 j_X8_passes := Or.inl (bg_in 1022 (by decide +kernel) rfl)
theorem ml_RX8_290 : ML RX8 290 j_X8_setThere := Or.inl (bg_in 1067 (by decide +kernel) rfl)
theorem ml_RX8_293 : ML RX8 293 j_X8_bits := Or.inl (bg_in 1071 (by decide +kernel) rfl)
theorem ml_RX8_296 : ML RX8 296 j_X8_parametersOf := Or.inl (bg_in 1102 (by decide +kernel) rfl)
theorem ml_RX8_299 : ML RX8 299 j_X8_beginAlike := Or.inl (bg_in 1130 (by decide +kernel) rfl)
theorem ml_RX8_302 : ML RX8 302 j_X8_isNewNode := Or.inl (bg_in 1126 (by decide +kernel) rfl)
theorem ml_RX8_305 : ML RX8 305 j_X8_nodesOf := Or.inl (bg_in 1122 (by decide +kernel) rfl)
theorem ml_RX8_308 : ML RX8 308 j_X8_isPath := Or.inl (bg_in 1138 (by decide +kernel) rfl)
theorem ml_RX8_311 : ML RX8 311 j_X8_notAsked := Or.inl (bg_in 1149 (by decide +kernel) rfl)
theorem ml_RX8_314 : ML RX8 314 j_X8_matchOf := Or.inl (bg_in 1153 (by decide +kernel) rfl)
theorem ml_RX8_317 : ML RX8 317 j_X8_findBound := Or.inl (bg_in 1216 (by decide +kernel) rfl)
theorem ml_RX8_320 : ML RX8 320 j_X8_askedFor := Or.inl (bg_in 1236 (by decide +kernel) rfl)
theorem ml_RX8_323 : ML RX8 323 j_X8_isBrought := Or.inl (bg_in 1244 (by decide +kernel) rfl)
theorem ml_RX8_329 : ML RX8 329 j_X8_matchedBy := Or.inl (bg_in 1252 (by decide +kernel) rfl)
theorem ml_RX8_332 : ML RX8 332 j_X8_takesLetter := Or.inl (bg_in 1264 (by decide +kernel) rfl)
theorem ml_RX8_335 : ML RX8 335 j_X8_takes := Or.inl (bg_in 1260 (by decide +kernel) rfl)
theorem ml_RX8_338 : ML RX8 338 j_X8_doClash := Or.inl (bg_in 1272 (by decide +kernel) rfl)
theorem ml_RX8_347 : ML RX8 347 j_X8_builds := Or.inl (bg_in 1292 (by decide +kernel) rfl)
theorem ml_RX8_350 : ML RX8 350 j_X8_findWays := Or.inl (bg_in 1284 (by decide +kernel) rfl)
theorem ml_RX8_353 : ML RX8 353 j_X8_buildsWay := Or.inl (bg_in 1288 (by decide +kernel) rfl)
theorem ml_RX8_356 : ML RX8 356 j_X8_numberOf := Or.inl (bg_in 1296 (by decide +kernel) rfl)
theorem ml_RX8_360 : ML RX8 360 j_X8_pathOf := Or.inl (bg_in 1280 (by decide +kernel) rfl)
theorem ml_RX8_363 : ML RX8 363 j_X8_divisor := Or.inl (bg_in 1324 (by decide +kernel) rfl)
theorem ml_RX8_367 : ML RX8 367 j_X8_lowestOf := Or.inl (bg_in 1316 (by decide +kernel) rfl)
theorem ml_RX8_371 : ML RX8 371 j_X8_partOf := Or.inl (bg_in 1321 (by decide +kernel) rfl)
theorem ml_RX8_380 : ML RX8 380 j_X8_firstWrong := Or.inl (bg_in 1336 (by decide +kernel) rfl)
theorem ml_RX8_389 : ML RX8 389 j_X8_draw := Or.inl (bg_in 1356 (by decide +kernel) rfl)
theorem ml_RX8_392 : ML RX8 392 j_X8_setMounts := Or.inl (bg_in 1367 (by decide +kernel) rfl)
theorem ml_RX8_395 : ML RX8 395 j_X8_allSegments := Or.inl (bg_in 1371 (by decide +kernel) rfl)
theorem oi_1 : Cond.instanceMethod objectInit ∈ big := bg_in 22 (by decide +kernel) rfl
theorem oi_2 : Cond.code objectInit ⟨#[0xb1]⟩ 1 none ∈ big := bg_in 23 (by decide +kernel) rfl
theorem ac_int : Cond.arrayClass .int ∈ big := bg_in 75 (by decide +kernel) rfl
theorem ct_RJ6_265 : Cond.constant RJ6 265 (1431655765 : Int32) ∈ big := bg_in 474 (by decide +kernel) rfl
theorem ct_RJ6_266 : Cond.constant RJ6 266 (858993459 : Int32) ∈ big := bg_in 475 (by decide +kernel) rfl
theorem ct_RJ6_267 : Cond.constant RJ6 267 (252645135 : Int32) ∈ big := bg_in 476 (by decide +kernel) rfl
theorem ct_RX7_268 : Cond.constantLong RX7 268 (4000000000000000000 : Int64) ∈ big := bg_in 752 (by decide +kernel) rfl
theorem ct_RX7_249 : Cond.constantLong RX7 249 (341 : Int64) ∈ big := bg_in 766 (by decide +kernel) rfl
theorem ct_RX7_314 : Cond.constant RX7 314 (1664525 : Int32) ∈ big := bg_in 795 (by decide +kernel) rfl
theorem ct_RX7_315 : Cond.constant RX7 315 (1013904223 : Int32) ∈ big := bg_in 796 (by decide +kernel) rfl
theorem ct_RX7_316 : Cond.constant RX7 316 (2147483647 : Int32) ∈ big := bg_in 800 (by decide +kernel) rfl
theorem ct_RX8_113 : Cond.constantLong RX8 113 (4000000000000000000 : Int64) ∈ big := bg_in 1320 (by decide +kernel) rfl
theorem ct_RX8_375 : Cond.constantLong RX8 375 (341 : Int64) ∈ big := bg_in 1331 (by decide +kernel) rfl
theorem ct_RX8_386 : Cond.constant RX8 386 (1664525 : Int32) ∈ big := bg_in 1360 (by decide +kernel) rfl
theorem ct_RX8_387 : Cond.constant RX8 387 (1013904223 : Int32) ∈ big := bg_in 1361 (by decide +kernel) rfl
theorem ct_RX8_388 : Cond.constant RX8 388 (2147483647 : Int32) ∈ big := bg_in 1362 (by decide +kernel) rfl
theorem cl_RL_7 : Cond.classLink RL 7 RX7 ∈ big := bg_in 16 (by decide +kernel) rfl
theorem cl_RX7_7 : Cond.classLink RX7 7 RX0 ∈ big := bg_in 24 (by decide +kernel) rfl
theorem cl_RX0_18 : Cond.classLink RX0 18 RX4 ∈ big := bg_in 30 (by decide +kernel) rfl
theorem cl_RX7_22 : Cond.classLink RX7 22 RX6 ∈ big := bg_in 99 (by decide +kernel) rfl
theorem cl_RX6_9 : Cond.classLink RX6 9 RX5 ∈ big := bg_in 105 (by decide +kernel) rfl
theorem cl_RX6_18 : Cond.classLink RX6 18 RX1 ∈ big := bg_in 171 (by decide +kernel) rfl
theorem cl_RX7_29 : Cond.classLink RX7 29 RX2 ∈ big := bg_in 230 (by decide +kernel) rfl
theorem cl_RX7_41 : Cond.classLink RX7 41 RX1 ∈ big := bg_in 248 (by decide +kernel) rfl
theorem cl_RL_10 : Cond.classLink RL 10 RX8 ∈ big := bg_in 817 (by decide +kernel) rfl
theorem in_RX0 : Cond.instantiable RX0 5 ∈ big ∧ Cond.initialized RX0 ∈ big := ⟨bg_in 25 (by decide +kernel) rfl, bg_in 2 (by decide +kernel) rfl⟩
theorem in_RX1 : Cond.instantiable RX1 2 ∈ big ∧ Cond.initialized RX1 ∈ big := ⟨bg_in 172 (by decide +kernel) rfl, bg_in 6 (by decide +kernel) rfl⟩
theorem in_RX2 : Cond.instantiable RX2 2 ∈ big ∧ Cond.initialized RX2 ∈ big := ⟨bg_in 231 (by decide +kernel) rfl, bg_in 7 (by decide +kernel) rfl⟩
theorem in_RX4 : Cond.instantiable RX4 7 ∈ big ∧ Cond.initialized RX4 ∈ big := ⟨bg_in 32 (by decide +kernel) rfl, bg_in 3 (by decide +kernel) rfl⟩
theorem in_RX5 : Cond.instantiable RX5 12 ∈ big ∧ Cond.initialized RX5 ∈ big := ⟨bg_in 106 (by decide +kernel) rfl, bg_in 5 (by decide +kernel) rfl⟩
theorem in_RX6 : Cond.instantiable RX6 11 ∈ big ∧ Cond.initialized RX6 ∈ big := ⟨bg_in 100 (by decide +kernel) rfl, bg_in 4 (by decide +kernel) rfl⟩
theorem in_RX7 : Cond.instantiable RX7 10 ∈ big ∧ Cond.initialized RX7 ∈ big := ⟨bg_in 17 (by decide +kernel) rfl, bg_in 1 (by decide +kernel) rfl⟩
theorem in_RX8 : Cond.instantiable RX8 52 ∈ big ∧ Cond.initialized RX8 ∈ big := ⟨bg_in 818 (by decide +kernel) rfl, bg_in 9 (by decide +kernel) rfl⟩
theorem gs_RX1_19 : Cond.fieldLink RX1 19 RX1 "FIRST_OF_SIZE" "[I" ∈ big := bg_in 519 (by decide +kernel) rfl
theorem gs_RJ0_38 : Cond.fieldLink RJ0 38 RJ0 "COMPACT_STRINGS" "Z" ∈ big := bg_in 556 (by decide +kernel) rfl
theorem gs_RJ0_1053 : Cond.fieldLink RJ0 1053 RJ3 "SIOOBE_FORMATTER" "Ljava/util/function/BiFunction;" ∈ big := bg_in 572 (by decide +kernel) rfl
theorem gs_RX8_170 : Cond.fieldLink RX8 170 RX8 "ORDERS" "[I" ∈ big := bg_in 1169 (by decide +kernel) rfl
theorem gs_RX8_131 : Cond.fieldLink RX8 131 RX8 "SERVED" "[I" ∈ big := bg_in 1198 (by decide +kernel) rfl
theorem gs_RJ0_9 : Cond.fieldLink RJ0 9 RJ0 "value" "[B" ∈ big := bg_in 1375 (by decide +kernel) rfl
theorem gs_RJ0_15 : Cond.fieldLink RJ0 15 RJ0 "coder" "B" ∈ big := bg_in 1376 (by decide +kernel) rfl
end
section
/-! THE WORLD BEHIND THE CONSTRUCTORS; calls with one answer -/
def ptT : List (List (Option Nat)) := [[some 1, some 27, some 53, some 79, some 96, some 98, some 100, some 102, some 103, none], [some 2, some 3, some 4, some 5, none], [], [], [some 7, some 9, some 11, some 13, some 15, some 17, some 19, some 21, some 23, some 25], [some 6, none, none, none, none, none, none], [], [some 8, none, none, none, none, none, none], [], [some 10, none, none, none, none, none, none], [], [some 12, none, none, none, none, none, none], [], [some 14, none, none, none, none, none, none], [], [some 16, none, none, none, none, none, none], [], [some 18, none, none, none, none, none, none], [], [some 20, none, none, none, none, none, none], [], [some 22, none, none, none, none, none, none], [], [some 24, none, none, none, none, none, none], [], [some 26, none, none, none, none, none, none], [], [some 28, some 29, some 30, some 31, none], [], [], [some 33, some 35, some 37, some 39, some 41, some 43, some 45, some 47, some 49, some 51], [some 32, none, none, none, none, none, none], [], [some 34, none, none, none, none, none, none], [], [some 36, none, none, none, none, none, none], [], [some 38, none, none, none, none, none, none], [], [some 40, none, none, none, none, none, none], [], [some 42, none, none, none, none, none, none], [], [some 44, none, none, none, none, none, none], [], [some 46, none, none, none, none, none, none], [], [some 48, none, none, none, none, none, none], [], [some 50, none, none, none, none, none, none], [], [some 52, none, none, none, none, none, none], [], [some 54, some 55, some 56, some 57, none], [], [], [some 59, some 61, some 63, some 65, some 67, some 69, some 71, some 73, some 75, some 77], [some 58, none, none, none, none, none, none], [], [some 60, none, none, none, none, none, none], [], [some 62, none, none, none, none, none, none], [], [some 64, none, none, none, none, none, none], [], [some 66, none, none, none, none, none, none], [], [some 68, none, none, none, none, none, none], [], [some 70, none, none, none, none, none, none], [], [some 72, none, none, none, none, none, none], [], [some 74, none, none, none, none, none, none], [], [some 76, none, none, none, none, none, none], [], [some 78, none, none, none, none, none, none], [], [some 80, some 92, some 94, some 95, none, none, none, none, none, none, none], [some 81, some 82, some 83, some 84, some 85, some 86, some 87, some 88, some 89, some 90, some 91, none], [], [], [], [], [], [], [], [], [], [], [], [some 93, none], [], [], [], [some 97, none], [], [some 99, none], [], [some 101, none], [], [], [], [some 105, some 106, some 107, some 108, some 109, some 110, some 111, some 112, some 113, none, some 114, none, some 115, some 116, some 117, some 118, some 119, some 120, some 121, some 122, some 123, none, none, none, none, some 124, some 125, some 126, some 127, some 128, some 129, some 130, some 131, none, none, none, none, none, some 132, none, none, none, none, some 133, some 134, some 135, none, none, some 136, some 137, none, none], [], [], [], [], [], [], [], [], [], [], [], [], [], [], [], [], [], [], [], [], [], [], [], [], [], [], [], [], [], [], [], [], []]
def P0 : Ptr := fun a k => (ptT.getD a []).getD k none
abbrev wd (D : Mem) : Wd := (138, P0, D)
def b2i (p : Bool) : Int32 := if p = true then 1 else 0
theorem b2i_01 (p : Bool) : b2i p = 0 ∨ b2i p = 1 := by cases p <;> first | exact Or.inl rfl | exact Or.inr rfl
theorem b2i_t {p : Bool} : ¬ b2i p = 0 ↔ p = true := by cases p <;> decide
theorem b2i_f {p : Bool} : b2i p = 0 ↔ p = false := by cases p <;> decide
abbrev Ei (d : Nat) (j : MI) (vs : List Value) (D : Mem) (v : Int32) (D' : Mem) : Prop := E d 138 j vs (wd D) (fun r σ => r = [.int v] ∧ σ = wd D')
abbrev El (d : Nat) (j : MI) (vs : List Value) (D : Mem) (v : Int64) (D' : Mem) : Prop := E d 138 j vs (wd D) (fun r σ => r = [.long v] ∧ σ = wd D')
abbrev Er (d : Nat) (j : MI) (vs : List Value) (D : Mem) (v : Nat) (D' : Mem) : Prop := E d 138 j vs (wd D) (fun r σ => r = [.ref v] ∧ σ = wd D')
abbrev Ev (d : Nat) (j : MI) (vs : List Value) (D : Mem) (D' : Mem) : Prop := E d 138 j vs (wd D) (fun r σ => r = [] ∧ σ = wd D')
def isB (b : Nat) : Prop := b = 1 ∨ b = 27 ∨ b = 53
def isR (r : Nat) : Prop := r < 138 ∧ (lay r).1 = 3
theorem isR_all : (List.range 138).all (fun r => !((lay r).1 == 3) || (decide (P0 r 0 = some (r + 1)) && decide (r + 1 < 138) && decide ((lay (r + 1)).1 = 8) && decide ((lay (r + 1)).2 = 4))) = true := by decide +kernel
theorem isR.facts {r : Nat} (h : isR r) : r < 138 ∧ (lay r).1 = 3 ∧ P0 r 0 = some (r + 1) ∧ r + 1 < 138 ∧ (lay (r + 1)).1 = 8 ∧ (lay (r + 1)).2 = 4 := by
  have h1 := List.all_eq_true.mp isR_all r (List.mem_range.mpr h.1)
  simp only [h.2, Bool.or_eq_true, Bool.and_eq_true, decide_eq_true_eq] at h1
  rcases h1 with h1 | ⟨⟨⟨h1, h2⟩, h3⟩, h4⟩
  · simp at h1
  · exact ⟨h.1, h.2, h1, h2, h3, h4⟩
def rt (b i : Nat) : Nat := b + 6 + 2 * i
theorem isB.facts {b : Nat} (h : isB b) : (b < 138 ∧ (lay b).1 = 0) ∧ (P0 b 0 = some (b + 1) ∧ P0 b 1 = some (b + 2) ∧ P0 b 2 = some (b + 3) ∧ P0 b 3 = some (b + 4)) ∧ (b + 1 < 138 ∧ (lay (b + 1)).1 = 8 ∧ (lay (b + 1)).2 = 3) ∧ (b + 2 < 138 ∧ (lay (b + 2)).1 = 8 ∧ (lay (b + 2)).2 = 3) ∧ (b + 3 < 138 ∧ (lay (b + 3)).1 = 9 ∧ (lay (b + 3)).2 = 10) ∧ isR (b + 4) ∧ ∀ i, i < 10 → P0 (b + 3) i = some (rt b i) ∧ isR (rt b i) := by
  rcases h with rfl | rfl | rfl
  · refine ⟨by decide, by decide, by decide, by decide, by decide, ⟨by decide, by decide⟩, ?_⟩
    exact show ∀ i, i < 10 → (P0 (1 + 3) i = some (rt 1 i) ∧ (rt 1 i < 138 ∧ (lay (rt 1 i)).1 = 3)) by decide +kernel
  · refine ⟨by decide, by decide, by decide, by decide, by decide, ⟨by decide, by decide⟩, ?_⟩
    exact show ∀ i, i < 10 → (P0 (27 + 3) i = some (rt 27 i) ∧ (rt 27 i < 138 ∧ (lay (rt 27 i)).1 = 3)) by decide +kernel
  · refine ⟨by decide, by decide, by decide, by decide, by decide, ⟨by decide, by decide⟩, ?_⟩
    exact show ∀ i, i < 10 → (P0 (53 + 3) i = some (rt 53 i) ∧ (rt 53 i < 138 ∧ (lay (rt 53 i)).1 = 3)) by decide +kernel
section YROWS
variable {d d' pc nx idx : Nat} {j j' : MI} {ls : List (Option Value)} {rest st : List Value} {D D' : Mem} {Q : List Value → Wd → Prop}
theorem E.start {k : Nat} {vs : List Value} {σ : Wd} {ls : List (Option Value)} (n : Nat) (hpl : plainName j.1.cls = true) (hfit : (lg_sl vs).length ≤ j.2.2.1) (hls : ls = ent vs ++ List.replicate n none) (hσ : σ.1 ≤ k) (hk : k ≤ 138) (hX : X d k j 0 ls [] σ Q) : E d k j vs σ Q := E.of hpl hfit hσ hk hls hX
theorem Y_reti {v v0 : Int32} {D0 : Mem} (hd : decode j.2.1 pc = .ok (.ireturn, 1)) (ht : j.2.2.2 = some .int ∨ (j.2.2.2 = some .boolean ∧ (v = 0 ∨ v = 1))) (hv : v = v0) (hD : D = D0) : X d 138 j pc ls [.int v] (138, P0, D) (fun r σ => r = [.int v0] ∧ σ = wd D0) := by
  subst hv; subst hD
  refine X_ret ⟨?_, hd⟩ rfl ⟨rfl, rfl⟩
  rcases ht with ht | ⟨ht, hv | hv⟩
  · exact ⟨_, ht, rfl⟩
  · subst hv; exact ⟨_, ht, rfl⟩
  · subst hv; exact ⟨_, ht, rfl⟩
theorem Y_retl {v v0 : Int64} {D0 : Mem} (hd : decode j.2.1 pc = .ok (.lreturn, 1)) (ht : j.2.2.2 = some .long) (hv : v = v0) (hD : D = D0) : X d 138 j pc ls [.long v] (138, P0, D) (fun r σ => r = [.long v0] ∧ σ = wd D0) := by
  subst hv; subst hD
  exact X_ret ⟨ht, hd⟩ rfl ⟨rfl, rfl⟩
theorem Y_reta {v v0 : Nat} {D0 : Mem} (hd : decode j.2.1 pc = .ok (.areturn, 1)) (ht : ∃ n, j.2.2.2 = some (.object n)) (hv : v = v0) (hD : D = D0) : X d 138 j pc ls [.ref v] (138, P0, D) (fun r σ => r = [.ref v0] ∧ σ = wd D0) := by
  subst hv; subst hD
  exact X_ret ⟨ht, hd⟩ rfl ⟨rfl, rfl⟩
theorem Y_retv {D0 : Mem} (hd : decode j.2.1 pc = .ok (.return_, 1)) (ht : j.2.2.2 = none) (hD : D = D0) : X d 138 j pc ls [] (138, P0, D) (fun r σ => r = [] ∧ σ = wd D0) := by
  subst hD
  exact X_ret ⟨ht, hd⟩ rfl ⟨rfl, rfl⟩
theorem M_getI {idx ci kf a n : Nat} {P : Ptr} (hd : decode j.2.1 pc = .ok (.getfield idx, 3)) (hn : pc + 3 = nx) (hf : FL j.1.cls idx ci kf) (hp : isP ci kf = false) (ha : a < n) (hc : (lay a).1 = ci) (kk : X d 138 j nx ls (.int (D a kf) :: st) (n, P, D) Q) : X d 138 j pc ls (.ref a :: st) (n, P, D) Q := X_getI (σ := (n, P, D)) hd hn hf hp ha hc kk
theorem M_getP {idx ci kf a b n : Nat} {P : Ptr} (hd : decode j.2.1 pc = .ok (.getfield idx, 3)) (hn : pc + 3 = nx) (hf : FL j.1.cls idx ci kf) (hp : isP ci kf = true) (hv : P a kf = some b) (ha : a < n) (hc : (lay a).1 = ci) (kk : X d 138 j nx ls (.ref b :: st) (n, P, D) Q) : X d 138 j pc ls (.ref a :: st) (n, P, D) Q := X_getP (σ := (n, P, D)) hd hn hf hp hv ha hc kk
theorem M_putI {idx ci kf a n : Nat} {P : Ptr} {x : Int32} (hd : decode j.2.1 pc = .ok (.putfield idx, 3)) (hn : pc + 3 = nx) (hf : FL j.1.cls idx ci kf) (hp : isP ci kf = false) (hz : isZ ci kf = false) (ha : a < n) (hc : (lay a).1 = ci) (kk : X d 138 j nx ls st (n, P, up2 D a kf x) Q) : X d 138 j pc ls (.int x :: .ref a :: st) (n, P, D) Q := X_putI (σ := (n, P, D)) hd hn hf hp hz ha hc kk
theorem M_putZ {idx ci kf a n : Nat} {P : Ptr} {x : Int32} (hd : decode j.2.1 pc = .ok (.putfield idx, 3)) (hn : pc + 3 = nx) (hf : FL j.1.cls idx ci kf) (hp : isP ci kf = false) (hz : isZ ci kf = true) (hx : x = 0 ∨ x = 1) (ha : a < n) (hc : (lay a).1 = ci) (kk : X d 138 j nx ls st (n, P, up2 D a kf x) Q) : X d 138 j pc ls (.int x :: .ref a :: st) (n, P, D) Q := X_putZ (σ := (n, P, D)) hd hn hf hp hz hx ha hc kk
theorem M_iald {a n : Nat} {P : Ptr} {i : Int32} (hd : decode j.2.1 pc = .ok (.iaload, 1)) (hn : pc + 1 = nx) (ha : a < n) (hc : (lay a).1 = 8) (hin : vp_in i (lay a).2) (kk : X d 138 j nx ls (.int (D a i.toNatClampNeg) :: st) (n, P, D) Q) : X d 138 j pc ls (.int i :: .ref a :: st) (n, P, D) Q := X_iald (σ := (n, P, D)) hd hn ha hc hin kk
theorem M_iast {a n : Nat} {P : Ptr} {i x : Int32} (hd : decode j.2.1 pc = .ok (.iastore, 1)) (hn : pc + 1 = nx) (ha : a < n) (hc : (lay a).1 = 8) (hin : vp_in i (lay a).2) (kk : X d 138 j nx ls st (n, P, up2 D a i.toNatClampNeg x) Q) : X d 138 j pc ls (.int x :: .int i :: .ref a :: st) (n, P, D) Q := X_iast (σ := (n, P, D)) hd hn ha hc hin kk
theorem M_aald {a b n : Nat} {P : Ptr} {i : Int32} (hd : decode j.2.1 pc = .ok (.aaload, 1)) (hn : pc + 1 = nx) (ha : a < n) (hc : (lay a).1 = 9) (hin : vp_in i (lay a).2) (hv : P a i.toNatClampNeg = some b) (kk : X d 138 j nx ls (.ref b :: st) (n, P, D) Q) : X d 138 j pc ls (.int i :: .ref a :: st) (n, P, D) Q := X_aald (σ := (n, P, D)) hd hn ha hc hin hv kk
theorem M_alen {a n : Nat} {P : Ptr} (hd : decode j.2.1 pc = .ok (.arraylength, 1)) (hn : pc + 1 = nx) (ha : a < n) (hc : (lay a).1 = 8 ∨ (lay a).1 = 9) (kk : X d 138 j nx ls (.int (nI (lay a).2) :: st) (n, P, D) Q) : X d 138 j pc ls (.ref a :: st) (n, P, D) Q := X_alen (σ := (n, P, D)) hd hn ha hc kk
theorem M_xld {n : Nat} {P : Ptr} {i : Int32} (hd : decode j.2.1 pc = .ok (.iaload, 1)) (hn : pc + 1 = nx) (hin : vp_in i (D 2004 0).toNatClampNeg) (kk : X d 138 j nx ls (.int (D 2003 i.toNatClampNeg) :: st) (n, P, D) Q) : X d 138 j pc ls (.int i :: .ref 2003 :: st) (n, P, D) Q := X_xld (σ := (n, P, D)) hd hn hin kk
theorem M_xlen {n : Nat} {P : Ptr} (hd : decode j.2.1 pc = .ok (.arraylength, 1)) (hn : pc + 1 = nx) (kk : X d 138 j nx ls (.int (D 2004 0) :: st) (n, P, D) Q) : X d 138 j pc ls (.ref 2003 :: st) (n, P, D) Q := X_xlen (σ := (n, P, D)) hd hn kk
theorem Y_Si1 {v1 : Value} {u : Int32} (hd : decode j.2.1 pc = .ok (.invokestatic idx, 3)) (hn : pc + 3 = nx) (hl0 : ML j.1.cls idx j') (hj : KJ j' 1) (hv : Cond.static j'.1 ∈ big) (hE : Ei d' j' [v1] D u D') (hd' : d' < d) (hcat : (rest.map fun v => v.category).sum ≤ 8) (kk : X d 138 j nx ls (.int u :: rest) (138, P0, D') Q) : X d 138 j pc ls (v1 :: rest) (138, P0, D) Q := X_callS hd hn hl0 hj hv hE rfl hd' rfl hcat (Nat.le_refl _) (Nat.le_refl _) (Or.inl rfl) (fun _ _ e => by obtain ⟨e1, e2⟩ := e; subst e1; subst e2; exact kk)
theorem Y_Si2 {v1 v2 : Value} {u : Int32} (hd : decode j.2.1 pc = .ok (.invokestatic idx, 3)) (hn : pc + 3 = nx) (hl0 : ML j.1.cls idx j') (hj : KJ j' 2) (hv : Cond.static j'.1 ∈ big) (hE : Ei d' j' [v1, v2] D u D') (hd' : d' < d) (hcat : (rest.map fun v => v.category).sum ≤ 8) (kk : X d 138 j nx ls (.int u :: rest) (138, P0, D') Q) : X d 138 j pc ls (v2 :: v1 :: rest) (138, P0, D) Q := X_callS hd hn hl0 hj hv hE rfl hd' rfl hcat (Nat.le_refl _) (Nat.le_refl _) (Or.inl rfl) (fun _ _ e => by obtain ⟨e1, e2⟩ := e; subst e1; subst e2; exact kk)
theorem Y_Si3 {v1 v2 v3 : Value} {u : Int32} (hd : decode j.2.1 pc = .ok (.invokestatic idx, 3)) (hn : pc + 3 = nx) (hl0 : ML j.1.cls idx j') (hj : KJ j' 3) (hv : Cond.static j'.1 ∈ big) (hE : Ei d' j' [v1, v2, v3] D u D') (hd' : d' < d) (hcat : (rest.map fun v => v.category).sum ≤ 8) (kk : X d 138 j nx ls (.int u :: rest) (138, P0, D') Q) : X d 138 j pc ls (v3 :: v2 :: v1 :: rest) (138, P0, D) Q := X_callS hd hn hl0 hj hv hE rfl hd' rfl hcat (Nat.le_refl _) (Nat.le_refl _) (Or.inl rfl) (fun _ _ e => by obtain ⟨e1, e2⟩ := e; subst e1; subst e2; exact kk)
theorem Y_Si4 {v1 v2 v3 v4 : Value} {u : Int32} (hd : decode j.2.1 pc = .ok (.invokestatic idx, 3)) (hn : pc + 3 = nx) (hl0 : ML j.1.cls idx j') (hj : KJ j' 4) (hv : Cond.static j'.1 ∈ big) (hE : Ei d' j' [v1, v2, v3, v4] D u D') (hd' : d' < d) (hcat : (rest.map fun v => v.category).sum ≤ 8) (kk : X d 138 j nx ls (.int u :: rest) (138, P0, D') Q) : X d 138 j pc ls (v4 :: v3 :: v2 :: v1 :: rest) (138, P0, D) Q := X_callS hd hn hl0 hj hv hE rfl hd' rfl hcat (Nat.le_refl _) (Nat.le_refl _) (Or.inl rfl) (fun _ _ e => by obtain ⟨e1, e2⟩ := e; subst e1; subst e2; exact kk)
theorem Y_Sl2 {v1 v2 : Value} {u : Int64} (hd : decode j.2.1 pc = .ok (.invokestatic idx, 3)) (hn : pc + 3 = nx) (hl0 : ML j.1.cls idx j') (hj : KJ j' 2) (hv : Cond.static j'.1 ∈ big) (hE : El d' j' [v1, v2] D u D') (hd' : d' < d) (hcat : (rest.map fun v => v.category).sum ≤ 8) (kk : X d 138 j nx ls (.long u :: rest) (138, P0, D') Q) : X d 138 j pc ls (v2 :: v1 :: rest) (138, P0, D) Q := X_callS hd hn hl0 hj hv hE rfl hd' rfl hcat (Nat.le_refl _) (Nat.le_refl _) (Or.inl rfl) (fun _ _ e => by obtain ⟨e1, e2⟩ := e; subst e1; subst e2; exact kk)
theorem Y_Sl3 {v1 v2 v3 : Value} {u : Int64} (hd : decode j.2.1 pc = .ok (.invokestatic idx, 3)) (hn : pc + 3 = nx) (hl0 : ML j.1.cls idx j') (hj : KJ j' 3) (hv : Cond.static j'.1 ∈ big) (hE : El d' j' [v1, v2, v3] D u D') (hd' : d' < d) (hcat : (rest.map fun v => v.category).sum ≤ 8) (kk : X d 138 j nx ls (.long u :: rest) (138, P0, D') Q) : X d 138 j pc ls (v3 :: v2 :: v1 :: rest) (138, P0, D) Q := X_callS hd hn hl0 hj hv hE rfl hd' rfl hcat (Nat.le_refl _) (Nat.le_refl _) (Or.inl rfl) (fun _ _ e => by obtain ⟨e1, e2⟩ := e; subst e1; subst e2; exact kk)
theorem Y_Sr1 {v1 : Value} {u : Nat} (hd : decode j.2.1 pc = .ok (.invokestatic idx, 3)) (hn : pc + 3 = nx) (hl0 : ML j.1.cls idx j') (hj : KJ j' 1) (hv : Cond.static j'.1 ∈ big) (hE : Er d' j' [v1] D u D') (hd' : d' < d) (hcat : (rest.map fun v => v.category).sum ≤ 8) (kk : X d 138 j nx ls (.ref u :: rest) (138, P0, D') Q) : X d 138 j pc ls (v1 :: rest) (138, P0, D) Q := X_callS hd hn hl0 hj hv hE rfl hd' rfl hcat (Nat.le_refl _) (Nat.le_refl _) (Or.inl rfl) (fun _ _ e => by obtain ⟨e1, e2⟩ := e; subst e1; subst e2; exact kk)
theorem Y_Sv2 {v1 v2 : Value} (hd : decode j.2.1 pc = .ok (.invokestatic idx, 3)) (hn : pc + 3 = nx) (hl0 : ML j.1.cls idx j') (hj : KJ j' 2) (hv : Cond.static j'.1 ∈ big) (hE : Ev d' j' [v1, v2] D D') (hd' : d' < d) (hcat : (rest.map fun v => v.category).sum ≤ 8) (kk : X d 138 j nx ls (rest) (138, P0, D') Q) : X d 138 j pc ls (v2 :: v1 :: rest) (138, P0, D) Q := X_callS hd hn hl0 hj hv hE rfl hd' rfl hcat (Nat.le_refl _) (Nat.le_refl _) (Or.inl rfl) (fun _ _ e => by obtain ⟨e1, e2⟩ := e; subst e1; subst e2; exact kk)
theorem Y_Sv3 {v1 v2 v3 : Value} (hd : decode j.2.1 pc = .ok (.invokestatic idx, 3)) (hn : pc + 3 = nx) (hl0 : ML j.1.cls idx j') (hj : KJ j' 3) (hv : Cond.static j'.1 ∈ big) (hE : Ev d' j' [v1, v2, v3] D D') (hd' : d' < d) (hcat : (rest.map fun v => v.category).sum ≤ 8) (kk : X d 138 j nx ls (rest) (138, P0, D') Q) : X d 138 j pc ls (v3 :: v2 :: v1 :: rest) (138, P0, D) Q := X_callS hd hn hl0 hj hv hE rfl hd' rfl hcat (Nat.le_refl _) (Nat.le_refl _) (Or.inl rfl) (fun _ _ e => by obtain ⟨e1, e2⟩ := e; subst e1; subst e2; exact kk)
theorem Y_Ti0 {i : Nat} {u : Int32} (hd : decode j.2.1 pc = .ok (.invokevirtual idx, 3)) (hn : pc + 3 = nx) (hl0 : ML j.1.cls idx j') (hj : KJ j' 0) (hv : Cond.instanceMethod j'.1 ∈ big ∧ Cond.selects j'.1.cls j'.1 j'.1 ∈ big) (hE : Ei d' j' (.ref (2010 + i) :: []) D u D') (hi : i < 4) (hcl : j'.1.cls = "java/lang/String") (hd' : d' < d) (hcat : (rest.map fun v => v.category).sum ≤ 8) (kk : X d 138 j nx ls (.int u :: rest) (138, P0, D') Q) : X d 138 j pc ls (.ref (2010 + i) :: rest) (138, P0, D) Q := X_callT hd hn hl0 hj hv hi hcl hE rfl hd' rfl hcat (Nat.le_refl _) (Nat.le_refl _) (Or.inl rfl) (fun _ _ e => by obtain ⟨e1, e2⟩ := e; subst e1; subst e2; exact kk)
theorem Y_Ti1 {i : Nat} {v1 : Value} {u : Int32} (hd : decode j.2.1 pc = .ok (.invokevirtual idx, 3)) (hn : pc + 3 = nx) (hl0 : ML j.1.cls idx j') (hj : KJ j' 1) (hv : Cond.instanceMethod j'.1 ∈ big ∧ Cond.selects j'.1.cls j'.1 j'.1 ∈ big) (hE : Ei d' j' (.ref (2010 + i) :: [v1]) D u D') (hi : i < 4) (hcl : j'.1.cls = "java/lang/String") (hd' : d' < d) (hcat : (rest.map fun v => v.category).sum ≤ 8) (kk : X d 138 j nx ls (.int u :: rest) (138, P0, D') Q) : X d 138 j pc ls (v1 :: .ref (2010 + i) :: rest) (138, P0, D) Q := X_callT hd hn hl0 hj hv hi hcl hE rfl hd' rfl hcat (Nat.le_refl _) (Nat.le_refl _) (Or.inl rfl) (fun _ _ e => by obtain ⟨e1, e2⟩ := e; subst e1; subst e2; exact kk)
theorem Y_Vi0 {a ci : Nat} {T : u_T} {N : Nat} {u : Int32} (hd : decode j.2.1 pc = .ok (.invokevirtual idx, 3)) (hn : pc + 3 = nx) (hl0 : ML j.1.cls idx j') (hj : KJ j' 0) (hv : Cond.instanceMethod j'.1 ∈ big ∧ Cond.selects j'.1.cls j'.1 j'.1 ∈ big) (hE : Ei d' j' (.ref a :: []) D u D') (ha : a < 138) (hc : (lay a).1 = ci) (hc8 : ci < 8) (hcl : vwCl[ci]? = some (j'.1.cls, T, N)) (hd' : d' < d) (hcat : (rest.map fun v => v.category).sum ≤ 8) (kk : X d 138 j nx ls (.int u :: rest) (138, P0, D') Q) : X d 138 j pc ls (.ref a :: rest) (138, P0, D) Q := X_callV hd hn hl0 hj hv ha hc hc8 hcl hE rfl hd' rfl hcat (Nat.le_refl _) (Nat.le_refl _) (Or.inl rfl) (fun _ _ e => by obtain ⟨e1, e2⟩ := e; subst e1; subst e2; exact kk)
theorem Y_Vi1 {a ci : Nat} {T : u_T} {N : Nat} {v1 : Value} {u : Int32} (hd : decode j.2.1 pc = .ok (.invokevirtual idx, 3)) (hn : pc + 3 = nx) (hl0 : ML j.1.cls idx j') (hj : KJ j' 1) (hv : Cond.instanceMethod j'.1 ∈ big ∧ Cond.selects j'.1.cls j'.1 j'.1 ∈ big) (hE : Ei d' j' (.ref a :: [v1]) D u D') (ha : a < 138) (hc : (lay a).1 = ci) (hc8 : ci < 8) (hcl : vwCl[ci]? = some (j'.1.cls, T, N)) (hd' : d' < d) (hcat : (rest.map fun v => v.category).sum ≤ 8) (kk : X d 138 j nx ls (.int u :: rest) (138, P0, D') Q) : X d 138 j pc ls (v1 :: .ref a :: rest) (138, P0, D) Q := X_callV hd hn hl0 hj hv ha hc hc8 hcl hE rfl hd' rfl hcat (Nat.le_refl _) (Nat.le_refl _) (Or.inl rfl) (fun _ _ e => by obtain ⟨e1, e2⟩ := e; subst e1; subst e2; exact kk)
theorem Y_Vi2 {a ci : Nat} {T : u_T} {N : Nat} {v1 v2 : Value} {u : Int32} (hd : decode j.2.1 pc = .ok (.invokevirtual idx, 3)) (hn : pc + 3 = nx) (hl0 : ML j.1.cls idx j') (hj : KJ j' 2) (hv : Cond.instanceMethod j'.1 ∈ big ∧ Cond.selects j'.1.cls j'.1 j'.1 ∈ big) (hE : Ei d' j' (.ref a :: [v1, v2]) D u D') (ha : a < 138) (hc : (lay a).1 = ci) (hc8 : ci < 8) (hcl : vwCl[ci]? = some (j'.1.cls, T, N)) (hd' : d' < d) (hcat : (rest.map fun v => v.category).sum ≤ 8) (kk : X d 138 j nx ls (.int u :: rest) (138, P0, D') Q) : X d 138 j pc ls (v2 :: v1 :: .ref a :: rest) (138, P0, D) Q := X_callV hd hn hl0 hj hv ha hc hc8 hcl hE rfl hd' rfl hcat (Nat.le_refl _) (Nat.le_refl _) (Or.inl rfl) (fun _ _ e => by obtain ⟨e1, e2⟩ := e; subst e1; subst e2; exact kk)
theorem Y_Vi3 {a ci : Nat} {T : u_T} {N : Nat} {v1 v2 v3 : Value} {u : Int32} (hd : decode j.2.1 pc = .ok (.invokevirtual idx, 3)) (hn : pc + 3 = nx) (hl0 : ML j.1.cls idx j') (hj : KJ j' 3) (hv : Cond.instanceMethod j'.1 ∈ big ∧ Cond.selects j'.1.cls j'.1 j'.1 ∈ big) (hE : Ei d' j' (.ref a :: [v1, v2, v3]) D u D') (ha : a < 138) (hc : (lay a).1 = ci) (hc8 : ci < 8) (hcl : vwCl[ci]? = some (j'.1.cls, T, N)) (hd' : d' < d) (hcat : (rest.map fun v => v.category).sum ≤ 8) (kk : X d 138 j nx ls (.int u :: rest) (138, P0, D') Q) : X d 138 j pc ls (v3 :: v2 :: v1 :: .ref a :: rest) (138, P0, D) Q := X_callV hd hn hl0 hj hv ha hc hc8 hcl hE rfl hd' rfl hcat (Nat.le_refl _) (Nat.le_refl _) (Or.inl rfl) (fun _ _ e => by obtain ⟨e1, e2⟩ := e; subst e1; subst e2; exact kk)
theorem Y_Vi4 {a ci : Nat} {T : u_T} {N : Nat} {v1 v2 v3 v4 : Value} {u : Int32} (hd : decode j.2.1 pc = .ok (.invokevirtual idx, 3)) (hn : pc + 3 = nx) (hl0 : ML j.1.cls idx j') (hj : KJ j' 4) (hv : Cond.instanceMethod j'.1 ∈ big ∧ Cond.selects j'.1.cls j'.1 j'.1 ∈ big) (hE : Ei d' j' (.ref a :: [v1, v2, v3, v4]) D u D') (ha : a < 138) (hc : (lay a).1 = ci) (hc8 : ci < 8) (hcl : vwCl[ci]? = some (j'.1.cls, T, N)) (hd' : d' < d) (hcat : (rest.map fun v => v.category).sum ≤ 8) (kk : X d 138 j nx ls (.int u :: rest) (138, P0, D') Q) : X d 138 j pc ls (v4 :: v3 :: v2 :: v1 :: .ref a :: rest) (138, P0, D) Q := X_callV hd hn hl0 hj hv ha hc hc8 hcl hE rfl hd' rfl hcat (Nat.le_refl _) (Nat.le_refl _) (Or.inl rfl) (fun _ _ e => by obtain ⟨e1, e2⟩ := e; subst e1; subst e2; exact kk)
theorem Y_Vi5 {a ci : Nat} {T : u_T} {N : Nat} {v1 v2 v3 v4 v5 : Value} {u : Int32} (hd : decode j.2.1 pc = .ok (.invokevirtual idx, 3)) (hn : pc + 3 = nx) (hl0 : ML j.1.cls idx j') (hj : KJ j' 5) (hv : Cond.instanceMethod j'.1 ∈ big ∧ Cond.selects j'.1.cls j'.1 j'.1 ∈ big) (hE : Ei d' j' (.ref a :: [v1, v2, v3, v4, v5]) D u D') (ha : a < 138) (hc : (lay a).1 = ci) (hc8 : ci < 8) (hcl : vwCl[ci]? = some (j'.1.cls, T, N)) (hd' : d' < d) (hcat : (rest.map fun v => v.category).sum ≤ 8) (kk : X d 138 j nx ls (.int u :: rest) (138, P0, D') Q) : X d 138 j pc ls (v5 :: v4 :: v3 :: v2 :: v1 :: .ref a :: rest) (138, P0, D) Q := X_callV hd hn hl0 hj hv ha hc hc8 hcl hE rfl hd' rfl hcat (Nat.le_refl _) (Nat.le_refl _) (Or.inl rfl) (fun _ _ e => by obtain ⟨e1, e2⟩ := e; subst e1; subst e2; exact kk)
theorem Y_Vl1 {a ci : Nat} {T : u_T} {N : Nat} {v1 : Value} {u : Int64} (hd : decode j.2.1 pc = .ok (.invokevirtual idx, 3)) (hn : pc + 3 = nx) (hl0 : ML j.1.cls idx j') (hj : KJ j' 1) (hv : Cond.instanceMethod j'.1 ∈ big ∧ Cond.selects j'.1.cls j'.1 j'.1 ∈ big) (hE : El d' j' (.ref a :: [v1]) D u D') (ha : a < 138) (hc : (lay a).1 = ci) (hc8 : ci < 8) (hcl : vwCl[ci]? = some (j'.1.cls, T, N)) (hd' : d' < d) (hcat : (rest.map fun v => v.category).sum ≤ 8) (kk : X d 138 j nx ls (.long u :: rest) (138, P0, D') Q) : X d 138 j pc ls (v1 :: .ref a :: rest) (138, P0, D) Q := X_callV hd hn hl0 hj hv ha hc hc8 hcl hE rfl hd' rfl hcat (Nat.le_refl _) (Nat.le_refl _) (Or.inl rfl) (fun _ _ e => by obtain ⟨e1, e2⟩ := e; subst e1; subst e2; exact kk)
theorem Y_Vl2 {a ci : Nat} {T : u_T} {N : Nat} {v1 v2 : Value} {u : Int64} (hd : decode j.2.1 pc = .ok (.invokevirtual idx, 3)) (hn : pc + 3 = nx) (hl0 : ML j.1.cls idx j') (hj : KJ j' 2) (hv : Cond.instanceMethod j'.1 ∈ big ∧ Cond.selects j'.1.cls j'.1 j'.1 ∈ big) (hE : El d' j' (.ref a :: [v1, v2]) D u D') (ha : a < 138) (hc : (lay a).1 = ci) (hc8 : ci < 8) (hcl : vwCl[ci]? = some (j'.1.cls, T, N)) (hd' : d' < d) (hcat : (rest.map fun v => v.category).sum ≤ 8) (kk : X d 138 j nx ls (.long u :: rest) (138, P0, D') Q) : X d 138 j pc ls (v2 :: v1 :: .ref a :: rest) (138, P0, D) Q := X_callV hd hn hl0 hj hv ha hc hc8 hcl hE rfl hd' rfl hcat (Nat.le_refl _) (Nat.le_refl _) (Or.inl rfl) (fun _ _ e => by obtain ⟨e1, e2⟩ := e; subst e1; subst e2; exact kk)
theorem Y_Vl4 {a ci : Nat} {T : u_T} {N : Nat} {v1 v2 v3 v4 : Value} {u : Int64} (hd : decode j.2.1 pc = .ok (.invokevirtual idx, 3)) (hn : pc + 3 = nx) (hl0 : ML j.1.cls idx j') (hj : KJ j' 4) (hv : Cond.instanceMethod j'.1 ∈ big ∧ Cond.selects j'.1.cls j'.1 j'.1 ∈ big) (hE : El d' j' (.ref a :: [v1, v2, v3, v4]) D u D') (ha : a < 138) (hc : (lay a).1 = ci) (hc8 : ci < 8) (hcl : vwCl[ci]? = some (j'.1.cls, T, N)) (hd' : d' < d) (hcat : (rest.map fun v => v.category).sum ≤ 8) (kk : X d 138 j nx ls (.long u :: rest) (138, P0, D') Q) : X d 138 j pc ls (v4 :: v3 :: v2 :: v1 :: .ref a :: rest) (138, P0, D) Q := X_callV hd hn hl0 hj hv ha hc hc8 hcl hE rfl hd' rfl hcat (Nat.le_refl _) (Nat.le_refl _) (Or.inl rfl) (fun _ _ e => by obtain ⟨e1, e2⟩ := e; subst e1; subst e2; exact kk)
theorem Y_Vr0 {a ci : Nat} {T : u_T} {N : Nat} {u : Nat} (hd : decode j.2.1 pc = .ok (.invokevirtual idx, 3)) (hn : pc + 3 = nx) (hl0 : ML j.1.cls idx j') (hj : KJ j' 0) (hv : Cond.instanceMethod j'.1 ∈ big ∧ Cond.selects j'.1.cls j'.1 j'.1 ∈ big) (hE : Er d' j' (.ref a :: []) D u D') (ha : a < 138) (hc : (lay a).1 = ci) (hc8 : ci < 8) (hcl : vwCl[ci]? = some (j'.1.cls, T, N)) (hd' : d' < d) (hcat : (rest.map fun v => v.category).sum ≤ 8) (kk : X d 138 j nx ls (.ref u :: rest) (138, P0, D') Q) : X d 138 j pc ls (.ref a :: rest) (138, P0, D) Q := X_callV hd hn hl0 hj hv ha hc hc8 hcl hE rfl hd' rfl hcat (Nat.le_refl _) (Nat.le_refl _) (Or.inl rfl) (fun _ _ e => by obtain ⟨e1, e2⟩ := e; subst e1; subst e2; exact kk)
theorem Y_Vr1 {a ci : Nat} {T : u_T} {N : Nat} {v1 : Value} {u : Nat} (hd : decode j.2.1 pc = .ok (.invokevirtual idx, 3)) (hn : pc + 3 = nx) (hl0 : ML j.1.cls idx j') (hj : KJ j' 1) (hv : Cond.instanceMethod j'.1 ∈ big ∧ Cond.selects j'.1.cls j'.1 j'.1 ∈ big) (hE : Er d' j' (.ref a :: [v1]) D u D') (ha : a < 138) (hc : (lay a).1 = ci) (hc8 : ci < 8) (hcl : vwCl[ci]? = some (j'.1.cls, T, N)) (hd' : d' < d) (hcat : (rest.map fun v => v.category).sum ≤ 8) (kk : X d 138 j nx ls (.ref u :: rest) (138, P0, D') Q) : X d 138 j pc ls (v1 :: .ref a :: rest) (138, P0, D) Q := X_callV hd hn hl0 hj hv ha hc hc8 hcl hE rfl hd' rfl hcat (Nat.le_refl _) (Nat.le_refl _) (Or.inl rfl) (fun _ _ e => by obtain ⟨e1, e2⟩ := e; subst e1; subst e2; exact kk)
theorem Y_Vv0 {a ci : Nat} {T : u_T} {N : Nat} (hd : decode j.2.1 pc = .ok (.invokevirtual idx, 3)) (hn : pc + 3 = nx) (hl0 : ML j.1.cls idx j') (hj : KJ j' 0) (hv : Cond.instanceMethod j'.1 ∈ big ∧ Cond.selects j'.1.cls j'.1 j'.1 ∈ big) (hE : Ev d' j' (.ref a :: []) D D') (ha : a < 138) (hc : (lay a).1 = ci) (hc8 : ci < 8) (hcl : vwCl[ci]? = some (j'.1.cls, T, N)) (hd' : d' < d) (hcat : (rest.map fun v => v.category).sum ≤ 8) (kk : X d 138 j nx ls (rest) (138, P0, D') Q) : X d 138 j pc ls (.ref a :: rest) (138, P0, D) Q := X_callV hd hn hl0 hj hv ha hc hc8 hcl hE rfl hd' rfl hcat (Nat.le_refl _) (Nat.le_refl _) (Or.inl rfl) (fun _ _ e => by obtain ⟨e1, e2⟩ := e; subst e1; subst e2; exact kk)
theorem Y_Vv1 {a ci : Nat} {T : u_T} {N : Nat} {v1 : Value} (hd : decode j.2.1 pc = .ok (.invokevirtual idx, 3)) (hn : pc + 3 = nx) (hl0 : ML j.1.cls idx j') (hj : KJ j' 1) (hv : Cond.instanceMethod j'.1 ∈ big ∧ Cond.selects j'.1.cls j'.1 j'.1 ∈ big) (hE : Ev d' j' (.ref a :: [v1]) D D') (ha : a < 138) (hc : (lay a).1 = ci) (hc8 : ci < 8) (hcl : vwCl[ci]? = some (j'.1.cls, T, N)) (hd' : d' < d) (hcat : (rest.map fun v => v.category).sum ≤ 8) (kk : X d 138 j nx ls (rest) (138, P0, D') Q) : X d 138 j pc ls (v1 :: .ref a :: rest) (138, P0, D) Q := X_callV hd hn hl0 hj hv ha hc hc8 hcl hE rfl hd' rfl hcat (Nat.le_refl _) (Nat.le_refl _) (Or.inl rfl) (fun _ _ e => by obtain ⟨e1, e2⟩ := e; subst e1; subst e2; exact kk)
theorem Y_Vv2 {a ci : Nat} {T : u_T} {N : Nat} {v1 v2 : Value} (hd : decode j.2.1 pc = .ok (.invokevirtual idx, 3)) (hn : pc + 3 = nx) (hl0 : ML j.1.cls idx j') (hj : KJ j' 2) (hv : Cond.instanceMethod j'.1 ∈ big ∧ Cond.selects j'.1.cls j'.1 j'.1 ∈ big) (hE : Ev d' j' (.ref a :: [v1, v2]) D D') (ha : a < 138) (hc : (lay a).1 = ci) (hc8 : ci < 8) (hcl : vwCl[ci]? = some (j'.1.cls, T, N)) (hd' : d' < d) (hcat : (rest.map fun v => v.category).sum ≤ 8) (kk : X d 138 j nx ls (rest) (138, P0, D') Q) : X d 138 j pc ls (v2 :: v1 :: .ref a :: rest) (138, P0, D) Q := X_callV hd hn hl0 hj hv ha hc hc8 hcl hE rfl hd' rfl hcat (Nat.le_refl _) (Nat.le_refl _) (Or.inl rfl) (fun _ _ e => by obtain ⟨e1, e2⟩ := e; subst e1; subst e2; exact kk)
theorem Y_Vv4 {a ci : Nat} {T : u_T} {N : Nat} {v1 v2 v3 v4 : Value} (hd : decode j.2.1 pc = .ok (.invokevirtual idx, 3)) (hn : pc + 3 = nx) (hl0 : ML j.1.cls idx j') (hj : KJ j' 4) (hv : Cond.instanceMethod j'.1 ∈ big ∧ Cond.selects j'.1.cls j'.1 j'.1 ∈ big) (hE : Ev d' j' (.ref a :: [v1, v2, v3, v4]) D D') (ha : a < 138) (hc : (lay a).1 = ci) (hc8 : ci < 8) (hcl : vwCl[ci]? = some (j'.1.cls, T, N)) (hd' : d' < d) (hcat : (rest.map fun v => v.category).sum ≤ 8) (kk : X d 138 j nx ls (rest) (138, P0, D') Q) : X d 138 j pc ls (v4 :: v3 :: v2 :: v1 :: .ref a :: rest) (138, P0, D) Q := X_callV hd hn hl0 hj hv ha hc hc8 hcl hE rfl hd' rfl hcat (Nat.le_refl _) (Nat.le_refl _) (Or.inl rfl) (fun _ _ e => by obtain ⟨e1, e2⟩ := e; subst e1; subst e2; exact kk)
theorem Y_Vv7 {a ci : Nat} {T : u_T} {N : Nat} {v1 v2 v3 v4 v5 v6 v7 : Value} (hd : decode j.2.1 pc = .ok (.invokevirtual idx, 3)) (hn : pc + 3 = nx) (hl0 : ML j.1.cls idx j') (hj : KJ j' 7) (hv : Cond.instanceMethod j'.1 ∈ big ∧ Cond.selects j'.1.cls j'.1 j'.1 ∈ big) (hE : Ev d' j' (.ref a :: [v1, v2, v3, v4, v5, v6, v7]) D D') (ha : a < 138) (hc : (lay a).1 = ci) (hc8 : ci < 8) (hcl : vwCl[ci]? = some (j'.1.cls, T, N)) (hd' : d' < d) (hcat : (rest.map fun v => v.category).sum ≤ 8) (kk : X d 138 j nx ls (rest) (138, P0, D') Q) : X d 138 j pc ls (v7 :: v6 :: v5 :: v4 :: v3 :: v2 :: v1 :: .ref a :: rest) (138, P0, D) Q := X_callV hd hn hl0 hj hv ha hc hc8 hcl hE rfl hd' rfl hcat (Nat.le_refl _) (Nat.le_refl _) (Or.inl rfl) (fun _ _ e => by obtain ⟨e1, e2⟩ := e; subst e1; subst e2; exact kk)
end YROWS
end
section
/-! LEAVES OF THE CLASS: tests, arrays, piles, paths -/
theorem cl_t {p : Prop} [Decidable p] (h : p) : (1 : Int32) = b2i (decide p) := by rw [decide_eq_true h]; rfl
theorem cl_f {p : Prop} [Decidable p] (h : ¬ p) : (0 : Int32) = b2i (decide p) := by rw [decide_eq_false h]; rfl
theorem ge_of {x y : Int32} (h : ¬ x < y) : y ≤ x := Int32.not_lt.mp h
theorem lt_of {x y : Int32} (h : ¬ x ≤ y) : y < x := Int32.not_le.mp h
theorem vp_of {i : Int32} {n : Nat} (h0 : ¬ i < 0) (h1 : ¬ nI n ≤ i) (hn : n < 2147483648) : vp_in i n := by
  intro h
  rcases h with h | h
  · exact h0 h
  · obtain ⟨k, hk, rfl⟩ := nI_of h0
    rw [nI_clamp hk] at h
    exact h1 (nI_le h hk)
theorem nI_neg {n : Nat} (h : n < 2147483648) : ¬ nI n < 0 := nI_pos h
theorem lay_lt : (List.range 138).all (fun a => decide ((lay a).2 < 1000)) = true := by decide +kernel
theorem lay_small {a : Nat} (h : a < 138) : (lay a).2 < 1000 := of_decide_eq_true (List.all_eq_true.mp lay_lt a (List.mem_range.mpr h))
theorem dX7_isRouter_0 : decode cX7_isRouter 0 = .ok (.iload_n 0, 1) := by decide +kernel
theorem dX7_isRouter_1 : decode cX7_isRouter 1 = .ok (.ifCond .lt 12, 3) := by decide +kernel
theorem dX7_isRouter_4 : decode cX7_isRouter 4 = .ok (.iload_n 0, 1) := by decide +kernel
theorem dX7_isRouter_5 : decode cX7_isRouter 5 = .ok (.iconst 3, 1) := by decide +kernel
theorem dX7_isRouter_6 : decode cX7_isRouter 6 = .ok (.if_icmp .ge 7, 3) := by decide +kernel
theorem dX7_isRouter_9 : decode cX7_isRouter 9 = .ok (.iconst 1, 1) := by decide +kernel
theorem dX7_isRouter_10 : decode cX7_isRouter 10 = .ok (.goto 4, 3) := by decide +kernel
theorem dX7_isRouter_13 : decode cX7_isRouter 13 = .ok (.iconst 0, 1) := by decide +kernel
theorem dX7_isRouter_14 : decode cX7_isRouter 14 = .ok (.ireturn, 1) := by decide +kernel
theorem sp_X7_isRouter {x : Int32} {D : Mem} : Ei 1 j_X7_isRouter [.int x] D (b2i (decide (0 ≤ x ∧ x < 3))) (D) := by
  refine E.start 0 (ls := [some (.int x)]) (by decide +kernel) (Nat.le_of_ble_eq_true rfl) rfl (Nat.le_refl _) (Nat.le_refl _) ?_
  refine X_iload_n (nx := 1) dX7_isRouter_0 rfl rfl rfl ?_
  refine X_if_lt (tgt := 13) (nx := 4) dX7_isRouter_1 rfl rfl (fun h1 => ?_) (fun h1 => ?_)
  · skip
    refine X_iconst (v := 0) (nx := 14) dX7_isRouter_13 rfl rfl ?_
    exact Y_reti dX7_isRouter_14 (Or.inr ⟨rfl, by first | exact Or.inl rfl | exact Or.inr rfl | exact b2i_01 _ | assumption⟩) (by first | exact cl_t ⟨ge_of (by assumption), lt_of (by assumption)⟩ | exact cl_f (fun q => absurd q.1 (Int32.not_le.mpr (by assumption))) | exact cl_f (fun q => absurd q.2 (Int32.not_lt.mpr (by assumption)))) rfl
  · skip
    refine X_iload_n (nx := 5) dX7_isRouter_4 rfl rfl rfl ?_
    refine X_iconst (v := 3) (nx := 6) dX7_isRouter_5 rfl rfl ?_
    refine X_icmp_ge (tgt := 13) (nx := 9) dX7_isRouter_6 rfl rfl (fun h6 => ?_) (fun h6 => ?_)
    · skip
      refine X_iconst (v := 0) (nx := 14) dX7_isRouter_13 rfl rfl ?_
      exact Y_reti dX7_isRouter_14 (Or.inr ⟨rfl, by first | exact Or.inl rfl | exact Or.inr rfl | exact b2i_01 _ | assumption⟩) (by first | exact cl_t ⟨ge_of (by assumption), lt_of (by assumption)⟩ | exact cl_f (fun q => absurd q.1 (Int32.not_le.mpr (by assumption))) | exact cl_f (fun q => absurd q.2 (Int32.not_lt.mpr (by assumption)))) rfl
    · skip
      refine X_iconst (v := 1) (nx := 10) dX7_isRouter_9 rfl rfl ?_
      refine X_goto (tgt := 14) dX7_isRouter_10 rfl ?_
      exact Y_reti dX7_isRouter_14 (Or.inr ⟨rfl, by first | exact Or.inl rfl | exact Or.inr rfl | exact b2i_01 _ | assumption⟩) (by first | exact cl_t ⟨ge_of (by assumption), lt_of (by assumption)⟩ | exact cl_f (fun q => absurd q.1 (Int32.not_le.mpr (by assumption))) | exact cl_f (fun q => absurd q.2 (Int32.not_lt.mpr (by assumption)))) rfl
theorem dX7_isPath_0 : decode cX7_isPath 0 = .ok (.iload_n 0, 1) := by decide +kernel
theorem dX7_isPath_1 : decode cX7_isPath 1 = .ok (.ifCond .lt 14, 3) := by decide +kernel
theorem dX7_isPath_4 : decode cX7_isPath 4 = .ok (.iload_n 0, 1) := by decide +kernel
theorem dX7_isPath_5 : decode cX7_isPath 5 = .ok (.sipush 341, 3) := by decide +kernel
theorem dX7_isPath_8 : decode cX7_isPath 8 = .ok (.if_icmp .ge 7, 3) := by decide +kernel
theorem dX7_isPath_11 : decode cX7_isPath 11 = .ok (.iconst 1, 1) := by decide +kernel
theorem dX7_isPath_12 : decode cX7_isPath 12 = .ok (.goto 4, 3) := by decide +kernel
theorem dX7_isPath_15 : decode cX7_isPath 15 = .ok (.iconst 0, 1) := by decide +kernel
theorem dX7_isPath_16 : decode cX7_isPath 16 = .ok (.ireturn, 1) := by decide +kernel
theorem sp_X7_isPath {x : Int32} {D : Mem} : Ei 1 j_X7_isPath [.int x] D (b2i (decide (0 ≤ x ∧ x < 341))) (D) := by
  refine E.start 0 (ls := [some (.int x)]) (by decide +kernel) (Nat.le_of_ble_eq_true rfl) rfl (Nat.le_refl _) (Nat.le_refl _) ?_
  refine X_iload_n (nx := 1) dX7_isPath_0 rfl rfl rfl ?_
  refine X_if_lt (tgt := 15) (nx := 4) dX7_isPath_1 rfl rfl (fun h1 => ?_) (fun h1 => ?_)
  · skip
    refine X_iconst (v := 0) (nx := 16) dX7_isPath_15 rfl rfl ?_
    exact Y_reti dX7_isPath_16 (Or.inr ⟨rfl, by first | exact Or.inl rfl | exact Or.inr rfl | exact b2i_01 _ | assumption⟩) (by first | exact cl_t ⟨ge_of (by assumption), lt_of (by assumption)⟩ | exact cl_f (fun q => absurd q.1 (Int32.not_le.mpr (by assumption))) | exact cl_f (fun q => absurd q.2 (Int32.not_lt.mpr (by assumption)))) rfl
  · skip
    refine X_iload_n (nx := 5) dX7_isPath_4 rfl rfl rfl ?_
    refine X_sipush (v := 341) (nx := 8) dX7_isPath_5 rfl rfl ?_
    refine X_icmp_ge (tgt := 15) (nx := 11) dX7_isPath_8 rfl rfl (fun h8 => ?_) (fun h8 => ?_)
    · skip
      refine X_iconst (v := 0) (nx := 16) dX7_isPath_15 rfl rfl ?_
      exact Y_reti dX7_isPath_16 (Or.inr ⟨rfl, by first | exact Or.inl rfl | exact Or.inr rfl | exact b2i_01 _ | assumption⟩) (by first | exact cl_t ⟨ge_of (by assumption), lt_of (by assumption)⟩ | exact cl_f (fun q => absurd q.1 (Int32.not_le.mpr (by assumption))) | exact cl_f (fun q => absurd q.2 (Int32.not_lt.mpr (by assumption)))) rfl
    · skip
      refine X_iconst (v := 1) (nx := 12) dX7_isPath_11 rfl rfl ?_
      refine X_goto (tgt := 16) dX7_isPath_12 rfl ?_
      exact Y_reti dX7_isPath_16 (Or.inr ⟨rfl, by first | exact Or.inl rfl | exact Or.inr rfl | exact b2i_01 _ | assumption⟩) (by first | exact cl_t ⟨ge_of (by assumption), lt_of (by assumption)⟩ | exact cl_f (fun q => absurd q.1 (Int32.not_le.mpr (by assumption))) | exact cl_f (fun q => absurd q.2 (Int32.not_lt.mpr (by assumption)))) rfl
theorem dX7_isVerb_0 : decode cX7_isVerb 0 = .ok (.iload_n 0, 1) := by decide +kernel
theorem dX7_isVerb_1 : decode cX7_isVerb 1 = .ok (.ifCond .lt 12, 3) := by decide +kernel
theorem dX7_isVerb_4 : decode cX7_isVerb 4 = .ok (.iload_n 0, 1) := by decide +kernel
theorem dX7_isVerb_5 : decode cX7_isVerb 5 = .ok (.iconst 4, 1) := by decide +kernel
theorem dX7_isVerb_6 : decode cX7_isVerb 6 = .ok (.if_icmp .ge 7, 3) := by decide +kernel
theorem dX7_isVerb_9 : decode cX7_isVerb 9 = .ok (.iconst 1, 1) := by decide +kernel
theorem dX7_isVerb_10 : decode cX7_isVerb 10 = .ok (.goto 4, 3) := by decide +kernel
theorem dX7_isVerb_13 : decode cX7_isVerb 13 = .ok (.iconst 0, 1) := by decide +kernel
theorem dX7_isVerb_14 : decode cX7_isVerb 14 = .ok (.ireturn, 1) := by decide +kernel
theorem sp_X7_isVerb {x : Int32} {D : Mem} : Ei 1 j_X7_isVerb [.int x] D (b2i (decide (0 ≤ x ∧ x < 4))) (D) := by
  refine E.start 0 (ls := [some (.int x)]) (by decide +kernel) (Nat.le_of_ble_eq_true rfl) rfl (Nat.le_refl _) (Nat.le_refl _) ?_
  refine X_iload_n (nx := 1) dX7_isVerb_0 rfl rfl rfl ?_
  refine X_if_lt (tgt := 13) (nx := 4) dX7_isVerb_1 rfl rfl (fun h1 => ?_) (fun h1 => ?_)
  · skip
    refine X_iconst (v := 0) (nx := 14) dX7_isVerb_13 rfl rfl ?_
    exact Y_reti dX7_isVerb_14 (Or.inr ⟨rfl, by first | exact Or.inl rfl | exact Or.inr rfl | exact b2i_01 _ | assumption⟩) (by first | exact cl_t ⟨ge_of (by assumption), lt_of (by assumption)⟩ | exact cl_f (fun q => absurd q.1 (Int32.not_le.mpr (by assumption))) | exact cl_f (fun q => absurd q.2 (Int32.not_lt.mpr (by assumption)))) rfl
  · skip
    refine X_iload_n (nx := 5) dX7_isVerb_4 rfl rfl rfl ?_
    refine X_iconst (v := 4) (nx := 6) dX7_isVerb_5 rfl rfl ?_
    refine X_icmp_ge (tgt := 13) (nx := 9) dX7_isVerb_6 rfl rfl (fun h6 => ?_) (fun h6 => ?_)
    · skip
      refine X_iconst (v := 0) (nx := 14) dX7_isVerb_13 rfl rfl ?_
      exact Y_reti dX7_isVerb_14 (Or.inr ⟨rfl, by first | exact Or.inl rfl | exact Or.inr rfl | exact b2i_01 _ | assumption⟩) (by first | exact cl_t ⟨ge_of (by assumption), lt_of (by assumption)⟩ | exact cl_f (fun q => absurd q.1 (Int32.not_le.mpr (by assumption))) | exact cl_f (fun q => absurd q.2 (Int32.not_lt.mpr (by assumption)))) rfl
    · skip
      refine X_iconst (v := 1) (nx := 10) dX7_isVerb_9 rfl rfl ?_
      refine X_goto (tgt := 14) dX7_isVerb_10 rfl ?_
      exact Y_reti dX7_isVerb_14 (Or.inr ⟨rfl, by first | exact Or.inl rfl | exact Or.inr rfl | exact b2i_01 _ | assumption⟩) (by first | exact cl_t ⟨ge_of (by assumption), lt_of (by assumption)⟩ | exact cl_f (fun q => absurd q.1 (Int32.not_le.mpr (by assumption))) | exact cl_f (fun q => absurd q.2 (Int32.not_lt.mpr (by assumption)))) rfl
theorem dX7_isLetter_0 : decode cX7_isLetter 0 = .ok (.iload_n 0, 1) := by decide +kernel
theorem dX7_isLetter_1 : decode cX7_isLetter 1 = .ok (.ifCond .lt 12, 3) := by decide +kernel
theorem dX7_isLetter_4 : decode cX7_isLetter 4 = .ok (.iload_n 0, 1) := by decide +kernel
theorem dX7_isLetter_5 : decode cX7_isLetter 5 = .ok (.iconst 4, 1) := by decide +kernel
theorem dX7_isLetter_6 : decode cX7_isLetter 6 = .ok (.if_icmp .ge 7, 3) := by decide +kernel
theorem dX7_isLetter_9 : decode cX7_isLetter 9 = .ok (.iconst 1, 1) := by decide +kernel
theorem dX7_isLetter_10 : decode cX7_isLetter 10 = .ok (.goto 4, 3) := by decide +kernel
theorem dX7_isLetter_13 : decode cX7_isLetter 13 = .ok (.iconst 0, 1) := by decide +kernel
theorem dX7_isLetter_14 : decode cX7_isLetter 14 = .ok (.ireturn, 1) := by decide +kernel
theorem sp_X7_isLetter {x : Int32} {D : Mem} : Ei 1 j_X7_isLetter [.int x] D (b2i (decide (0 ≤ x ∧ x < 4))) (D) := by
  refine E.start 0 (ls := [some (.int x)]) (by decide +kernel) (Nat.le_of_ble_eq_true rfl) rfl (Nat.le_refl _) (Nat.le_refl _) ?_
  refine X_iload_n (nx := 1) dX7_isLetter_0 rfl rfl rfl ?_
  refine X_if_lt (tgt := 13) (nx := 4) dX7_isLetter_1 rfl rfl (fun h1 => ?_) (fun h1 => ?_)
  · skip
    refine X_iconst (v := 0) (nx := 14) dX7_isLetter_13 rfl rfl ?_
    exact Y_reti dX7_isLetter_14 (Or.inr ⟨rfl, by first | exact Or.inl rfl | exact Or.inr rfl | exact b2i_01 _ | assumption⟩) (by first | exact cl_t ⟨ge_of (by assumption), lt_of (by assumption)⟩ | exact cl_f (fun q => absurd q.1 (Int32.not_le.mpr (by assumption))) | exact cl_f (fun q => absurd q.2 (Int32.not_lt.mpr (by assumption)))) rfl
  · skip
    refine X_iload_n (nx := 5) dX7_isLetter_4 rfl rfl rfl ?_
    refine X_iconst (v := 4) (nx := 6) dX7_isLetter_5 rfl rfl ?_
    refine X_icmp_ge (tgt := 13) (nx := 9) dX7_isLetter_6 rfl rfl (fun h6 => ?_) (fun h6 => ?_)
    · skip
      refine X_iconst (v := 0) (nx := 14) dX7_isLetter_13 rfl rfl ?_
      exact Y_reti dX7_isLetter_14 (Or.inr ⟨rfl, by first | exact Or.inl rfl | exact Or.inr rfl | exact b2i_01 _ | assumption⟩) (by first | exact cl_t ⟨ge_of (by assumption), lt_of (by assumption)⟩ | exact cl_f (fun q => absurd q.1 (Int32.not_le.mpr (by assumption))) | exact cl_f (fun q => absurd q.2 (Int32.not_lt.mpr (by assumption)))) rfl
    · skip
      refine X_iconst (v := 1) (nx := 10) dX7_isLetter_9 rfl rfl ?_
      refine X_goto (tgt := 14) dX7_isLetter_10 rfl ?_
      exact Y_reti dX7_isLetter_14 (Or.inr ⟨rfl, by first | exact Or.inl rfl | exact Or.inr rfl | exact b2i_01 _ | assumption⟩) (by first | exact cl_t ⟨ge_of (by assumption), lt_of (by assumption)⟩ | exact cl_f (fun q => absurd q.1 (Int32.not_le.mpr (by assumption))) | exact cl_f (fun q => absurd q.2 (Int32.not_lt.mpr (by assumption)))) rfl
theorem dX7_isOneOfTwo_0 : decode cX7_isOneOfTwo 0 = .ok (.iload_n 0, 1) := by decide +kernel
theorem dX7_isOneOfTwo_1 : decode cX7_isOneOfTwo 1 = .ok (.ifCond .eq 8, 3) := by decide +kernel
theorem dX7_isOneOfTwo_4 : decode cX7_isOneOfTwo 4 = .ok (.iload_n 0, 1) := by decide +kernel
theorem dX7_isOneOfTwo_5 : decode cX7_isOneOfTwo 5 = .ok (.iconst 1, 1) := by decide +kernel
theorem dX7_isOneOfTwo_6 : decode cX7_isOneOfTwo 6 = .ok (.if_icmp .ne 7, 3) := by decide +kernel
theorem dX7_isOneOfTwo_9 : decode cX7_isOneOfTwo 9 = .ok (.iconst 1, 1) := by decide +kernel
theorem dX7_isOneOfTwo_10 : decode cX7_isOneOfTwo 10 = .ok (.goto 4, 3) := by decide +kernel
theorem dX7_isOneOfTwo_13 : decode cX7_isOneOfTwo 13 = .ok (.iconst 0, 1) := by decide +kernel
theorem dX7_isOneOfTwo_14 : decode cX7_isOneOfTwo 14 = .ok (.ireturn, 1) := by decide +kernel
theorem sp_X7_isOneOfTwo {x : Int32} {D : Mem} : Ei 1 j_X7_isOneOfTwo [.int x] D (b2i (decide (x = 0 ∨ x = 1))) (D) := by
  refine E.start 0 (ls := [some (.int x)]) (by decide +kernel) (Nat.le_of_ble_eq_true rfl) rfl (Nat.le_refl _) (Nat.le_refl _) ?_
  refine X_iload_n (nx := 1) dX7_isOneOfTwo_0 rfl rfl rfl ?_
  refine X_if_eq (tgt := 9) (nx := 4) dX7_isOneOfTwo_1 rfl rfl (fun h1 => ?_) (fun h1 => ?_)
  · skip
    refine X_iconst (v := 1) (nx := 10) dX7_isOneOfTwo_9 rfl rfl ?_
    refine X_goto (tgt := 14) dX7_isOneOfTwo_10 rfl ?_
    exact Y_reti dX7_isOneOfTwo_14 (Or.inr ⟨rfl, by first | exact Or.inl rfl | exact Or.inr rfl | exact b2i_01 _ | assumption⟩) (by first | exact cl_t (Or.inl (by assumption)) | exact cl_t (Or.inr (by assumption)) | exact cl_f (fun q => q.elim (by assumption) (by assumption))) rfl
  · skip
    refine X_iload_n (nx := 5) dX7_isOneOfTwo_4 rfl rfl rfl ?_
    refine X_iconst (v := 1) (nx := 6) dX7_isOneOfTwo_5 rfl rfl ?_
    refine X_icmp_ne (tgt := 13) (nx := 9) dX7_isOneOfTwo_6 rfl rfl (fun h6 => ?_) (fun h6 => ?_)
    · skip
      refine X_iconst (v := 0) (nx := 14) dX7_isOneOfTwo_13 rfl rfl ?_
      exact Y_reti dX7_isOneOfTwo_14 (Or.inr ⟨rfl, by first | exact Or.inl rfl | exact Or.inr rfl | exact b2i_01 _ | assumption⟩) (by first | exact cl_t (Or.inl (by assumption)) | exact cl_t (Or.inr (by assumption)) | exact cl_f (fun q => q.elim (by assumption) (by assumption))) rfl
    · skip
      refine X_iconst (v := 1) (nx := 10) dX7_isOneOfTwo_9 rfl rfl ?_
      refine X_goto (tgt := 14) dX7_isOneOfTwo_10 rfl ?_
      exact Y_reti dX7_isOneOfTwo_14 (Or.inr ⟨rfl, by first | exact Or.inl rfl | exact Or.inr rfl | exact b2i_01 _ | assumption⟩) (by first | exact cl_t (Or.inl (by assumption)) | exact cl_t (Or.inr (by assumption)) | exact cl_f (fun q => q.elim (by assumption) (by assumption))) rfl
theorem dX7_numberAt_0 : decode cX7_numberAt 0 = .ok (.iload_n 1, 1) := by decide +kernel
theorem dX7_numberAt_1 : decode cX7_numberAt 1 = .ok (.ifCond .lt 15, 3) := by decide +kernel
theorem dX7_numberAt_4 : decode cX7_numberAt 4 = .ok (.iload_n 1, 1) := by decide +kernel
theorem dX7_numberAt_5 : decode cX7_numberAt 5 = .ok (.aload_n 0, 1) := by decide +kernel
theorem dX7_numberAt_6 : decode cX7_numberAt 6 = .ok (.arraylength, 1) := by decide +kernel
theorem dX7_numberAt_7 : decode cX7_numberAt 7 = .ok (.if_icmp .ge 9, 3) := by decide +kernel
theorem dX7_numberAt_10 : decode cX7_numberAt 10 = .ok (.aload_n 0, 1) := by decide +kernel
theorem dX7_numberAt_11 : decode cX7_numberAt 11 = .ok (.iload_n 1, 1) := by decide +kernel
theorem dX7_numberAt_12 : decode cX7_numberAt 12 = .ok (.iaload, 1) := by decide +kernel
theorem dX7_numberAt_13 : decode cX7_numberAt 13 = .ok (.goto 4, 3) := by decide +kernel
theorem dX7_numberAt_16 : decode cX7_numberAt 16 = .ok (.iconst 0, 1) := by decide +kernel
theorem dX7_numberAt_17 : decode cX7_numberAt 17 = .ok (.ireturn, 1) := by decide +kernel
theorem sp_X7_numberAt {a i : Nat} {x : Int32} {D : Mem} (ha : a < 138) (hc : (lay a).1 = 8) (hx : x = nI i) (hi : i < (lay a).2) : Ei 1 j_X7_numberAt [.ref a, .int x] D (D a i) (D) := by
  refine E.start 0 (ls := [some (.ref a), some (.int x)]) (by decide +kernel) (Nat.le_of_ble_eq_true rfl) rfl (Nat.le_refl _) (Nat.le_refl _) ?_
  subst hx
  have hs := lay_small ha
  have hin : vp_in (nI i) (lay a).2 := vp_in_nI hi (by omega)
  refine X_iload_n (nx := 1) dX7_numberAt_0 rfl rfl rfl ?_
  refine X_if_lt (tgt := 16) (nx := 4) dX7_numberAt_1 rfl rfl (fun h1 => ?_) (fun h1 => ?_)
  · skip
    refine X_iconst (v := 0) (nx := 17) dX7_numberAt_16 rfl rfl ?_
    exact Y_reti dX7_numberAt_17 (Or.inl rfl) (by first | exact congrArg (D a) (nI_clamp (by omega)) | exact absurd (nI_lt (by assumption) (by omega)) (by assumption) | exact absurd (by assumption) (nI_neg (by omega)) | exact absurd (by assumption) (nI_ge hi (by omega))) rfl
  · skip
    refine X_iload_n (nx := 5) dX7_numberAt_4 rfl rfl rfl ?_
    refine X_aload_n (nx := 6) dX7_numberAt_5 rfl rfl rfl ?_
    refine M_alen (nx := 7) dX7_numberAt_6 rfl (by first | assumption | rfl | decide | omega) (Or.inl (by first | assumption | rfl | decide | omega)) ?_
    refine X_icmp_ge (tgt := 16) (nx := 10) dX7_numberAt_7 rfl rfl (fun h7 => ?_) (fun h7 => ?_)
    · skip
      refine X_iconst (v := 0) (nx := 17) dX7_numberAt_16 rfl rfl ?_
      exact Y_reti dX7_numberAt_17 (Or.inl rfl) (by first | exact congrArg (D a) (nI_clamp (by omega)) | exact absurd (nI_lt (by assumption) (by omega)) (by assumption) | exact absurd (by assumption) (nI_neg (by omega)) | exact absurd (by assumption) (nI_ge hi (by omega))) rfl
    · skip
      refine X_aload_n (nx := 11) dX7_numberAt_10 rfl rfl rfl ?_
      refine X_iload_n (nx := 12) dX7_numberAt_11 rfl rfl rfl ?_
      refine M_iald (nx := 13) dX7_numberAt_12 rfl (by first | assumption | rfl | decide | omega) (by first | assumption | rfl | decide | omega) (by first | assumption | rfl | decide | omega) ?_
      refine X_goto (tgt := 17) dX7_numberAt_13 rfl ?_
      exact Y_reti dX7_numberAt_17 (Or.inl rfl) (by first | exact congrArg (D a) (nI_clamp (by omega)) | exact absurd (nI_lt (by assumption) (by omega)) (by assumption) | exact absurd (by assumption) (nI_neg (by omega)) | exact absurd (by assumption) (nI_ge hi (by omega))) rfl
theorem dX7_put_0 : decode cX7_put 0 = .ok (.iload_n 1, 1) := by decide +kernel
theorem dX7_put_1 : decode cX7_put 1 = .ok (.ifCond .lt 13, 3) := by decide +kernel
theorem dX7_put_4 : decode cX7_put 4 = .ok (.iload_n 1, 1) := by decide +kernel
theorem dX7_put_5 : decode cX7_put 5 = .ok (.aload_n 0, 1) := by decide +kernel
theorem dX7_put_6 : decode cX7_put 6 = .ok (.arraylength, 1) := by decide +kernel
theorem dX7_put_7 : decode cX7_put 7 = .ok (.if_icmp .ge 7, 3) := by decide +kernel
theorem dX7_put_10 : decode cX7_put 10 = .ok (.aload_n 0, 1) := by decide +kernel
theorem dX7_put_11 : decode cX7_put 11 = .ok (.iload_n 1, 1) := by decide +kernel
theorem dX7_put_12 : decode cX7_put 12 = .ok (.iload_n 2, 1) := by decide +kernel
theorem dX7_put_13 : decode cX7_put 13 = .ok (.iastore, 1) := by decide +kernel
theorem dX7_put_14 : decode cX7_put 14 = .ok (.return_, 1) := by decide +kernel
theorem sp_X7_put {a i : Nat} {x v : Int32} {D : Mem} (ha : a < 138) (hc : (lay a).1 = 8) (hx : x = nI i) (hi : i < (lay a).2) : Ev 1 j_X7_put [.ref a, .int x, .int v] D (up2 D a i v) := by
  refine E.start 0 (ls := [some (.ref a), some (.int x), some (.int v)]) (by decide +kernel) (Nat.le_of_ble_eq_true rfl) rfl (Nat.le_refl _) (Nat.le_refl _) ?_
  subst hx
  have hs := lay_small ha
  have hin : vp_in (nI i) (lay a).2 := vp_in_nI hi (by omega)
  refine X_iload_n (nx := 1) dX7_put_0 rfl rfl rfl ?_
  refine X_if_lt (tgt := 14) (nx := 4) dX7_put_1 rfl rfl (fun h1 => ?_) (fun h1 => ?_)
  · skip
    exact Y_retv dX7_put_14 rfl (by first | (rw [nI_clamp (by omega)]; done) | exact absurd (by assumption) (nI_neg (by omega)) | exact absurd (by assumption) (nI_ge hi (by omega)))
  · skip
    refine X_iload_n (nx := 5) dX7_put_4 rfl rfl rfl ?_
    refine X_aload_n (nx := 6) dX7_put_5 rfl rfl rfl ?_
    refine M_alen (nx := 7) dX7_put_6 rfl (by first | assumption | rfl | decide | omega) (Or.inl (by first | assumption | rfl | decide | omega)) ?_
    refine X_icmp_ge (tgt := 14) (nx := 10) dX7_put_7 rfl rfl (fun h7 => ?_) (fun h7 => ?_)
    · skip
      exact Y_retv dX7_put_14 rfl (by first | (rw [nI_clamp (by omega)]; done) | exact absurd (by assumption) (nI_neg (by omega)) | exact absurd (by assumption) (nI_ge hi (by omega)))
    · skip
      refine X_aload_n (nx := 11) dX7_put_10 rfl rfl rfl ?_
      refine X_iload_n (nx := 12) dX7_put_11 rfl rfl rfl ?_
      refine X_iload_n (nx := 13) dX7_put_12 rfl rfl rfl ?_
      refine M_iast (nx := 14) dX7_put_13 rfl (by first | assumption | rfl | decide | omega) (by first | assumption | rfl | decide | omega) (by first | assumption | rfl | decide | omega) ?_
      exact Y_retv dX7_put_14 rfl (by first | (rw [nI_clamp (by omega)]; done) | exact absurd (by assumption) (nI_neg (by omega)) | exact absurd (by assumption) (nI_ge hi (by omega)))
theorem sp_X7_numberAtF {i : Nat} {x : Int32} {D : Mem} (hx : x = nI i) (hi : i < 5) : Ei 1 j_X7_numberAt [.ref 2000, .int x] D (([0, 1, 5, 21, 85] : List Int32).getD i 0) (D) := by
  refine E.start 0 (ls := [some (.ref 2000), some (.int x)]) (by decide +kernel) (Nat.le_of_ble_eq_true rfl) rfl (Nat.le_refl _) (Nat.le_refl _) ?_
  subst hx
  have hin : vp_in (nI i) 5 := vp_in_nI hi (by omega)
  refine X_iload_n (nx := 1) dX7_numberAt_0 rfl rfl rfl ?_
  refine X_if_lt (tgt := 16) (nx := 4) dX7_numberAt_1 rfl rfl (fun h1 => ?_) (fun h1 => ?_)
  · skip
    refine X_iconst (v := 0) (nx := 17) dX7_numberAt_16 rfl rfl ?_
    exact Y_reti dX7_numberAt_17 (Or.inl rfl) (by first | exact congrArg (fun k => ([0, 1, 5, 21, 85] : List Int32).getD k 0) (nI_clamp (by omega)) | exact absurd (by assumption) (nI_neg (by omega)) | exact absurd (by assumption) (nI_ge hi (by omega))) rfl
  · skip
    refine X_iload_n (nx := 5) dX7_numberAt_4 rfl rfl rfl ?_
    refine X_aload_n (nx := 6) dX7_numberAt_5 rfl rfl rfl ?_
    refine X_slen (nx := 7) dX7_numberAt_6 rfl (n := 5) (fun _ _ => rfl) ?_
    refine X_icmp_ge (tgt := 16) (nx := 10) dX7_numberAt_7 rfl rfl (fun h7 => ?_) (fun h7 => ?_)
    · skip
      refine X_iconst (v := 0) (nx := 17) dX7_numberAt_16 rfl rfl ?_
      exact Y_reti dX7_numberAt_17 (Or.inl rfl) (by first | exact congrArg (fun k => ([0, 1, 5, 21, 85] : List Int32).getD k 0) (nI_clamp (by omega)) | exact absurd (by assumption) (nI_neg (by omega)) | exact absurd (by assumption) (nI_ge hi (by omega))) rfl
    · skip
      refine X_aload_n (nx := 11) dX7_numberAt_10 rfl rfl rfl ?_
      refine X_iload_n (nx := 12) dX7_numberAt_11 rfl rfl rfl ?_
      refine X_sld (nx := 13) dX7_numberAt_12 rfl (n := 5) (fun _ _ => rfl) hin ?_
      refine X_goto (tgt := 17) dX7_numberAt_13 rfl ?_
      exact Y_reti dX7_numberAt_17 (Or.inl rfl) (by first | exact congrArg (fun k => ([0, 1, 5, 21, 85] : List Int32).getD k 0) (nI_clamp (by omega)) | exact absurd (by assumption) (nI_neg (by omega)) | exact absurd (by assumption) (nI_ge hi (by omega))) rfl
end
section
/-! THE ABSTRACT SIDE: what cells hold, in lists and numbers; calls whose answer is told by a relation -/
abbrev Rix (d : Nat) (j : MI) (vs : List Value) (D : Mem) (Φ : Int32 → Mem → Prop) : Prop := E d 138 j vs (wd D) (fun r σ => ∃ (v : Int32) (D' : Mem), r = [.int v] ∧ σ = wd D' ∧ Φ v D')
abbrev Rlx (d : Nat) (j : MI) (vs : List Value) (D : Mem) (Φ : Int64 → Mem → Prop) : Prop := E d 138 j vs (wd D) (fun r σ => ∃ (v : Int64) (D' : Mem), r = [.long v] ∧ σ = wd D' ∧ Φ v D')
abbrev Rrx (d : Nat) (j : MI) (vs : List Value) (D : Mem) (Φ : Nat → Mem → Prop) : Prop := E d 138 j vs (wd D) (fun r σ => ∃ (v : Nat) (D' : Mem), r = [.ref v] ∧ σ = wd D' ∧ Φ v D')
abbrev Rvx (d : Nat) (j : MI) (vs : List Value) (D : Mem) (Φ : Mem → Prop) : Prop := E d 138 j vs (wd D) (fun r σ => ∃ (D' : Mem), r = [] ∧ σ = wd D' ∧ Φ D')
section ZROWS
variable {d d' pc nx idx : Nat} {j j' : MI} {ls : List (Option Value)} {rest st : List Value} {D D' : Mem} {Q : List Value → Wd → Prop}
theorem Z_reti {v : Int32} {Φ : Int32 → Mem → Prop} (hd : decode j.2.1 pc = .ok (.ireturn, 1)) (ht : j.2.2.2 = some .int ∨ (j.2.2.2 = some .boolean ∧ (v = 0 ∨ v = 1))) (h : Φ v D) : X d 138 j pc ls [.int v] (138, P0, D) (fun r σ => ∃ (v : Int32) (D' : Mem), r = [.int v] ∧ σ = wd D' ∧ Φ v D') := by
  refine X_ret ⟨?_, hd⟩ rfl ⟨v, D, rfl, rfl, h⟩
  rcases ht with ht | ⟨ht, hv | hv⟩
  · exact ⟨_, ht, rfl⟩
  · subst hv; exact ⟨_, ht, rfl⟩
  · subst hv; exact ⟨_, ht, rfl⟩
theorem Z_retl {v : Int64} {Φ : Int64 → Mem → Prop} (hd : decode j.2.1 pc = .ok (.lreturn, 1)) (ht : j.2.2.2 = some .long) (h : Φ v D) : X d 138 j pc ls [.long v] (138, P0, D) (fun r σ => ∃ (v : Int64) (D' : Mem), r = [.long v] ∧ σ = wd D' ∧ Φ v D') :=
  X_ret ⟨ht, hd⟩ rfl ⟨v, D, rfl, rfl, h⟩
theorem Z_reta {v : Nat} {Φ : Nat → Mem → Prop} (hd : decode j.2.1 pc = .ok (.areturn, 1)) (ht : ∃ n, j.2.2.2 = some (.object n)) (h : Φ v D) : X d 138 j pc ls [.ref v] (138, P0, D) (fun r σ => ∃ (v : Nat) (D' : Mem), r = [.ref v] ∧ σ = wd D' ∧ Φ v D') :=
  X_ret ⟨ht, hd⟩ rfl ⟨v, D, rfl, rfl, h⟩
theorem Z_retv {Φ : Mem → Prop} (hd : decode j.2.1 pc = .ok (.return_, 1)) (ht : j.2.2.2 = none) (h : Φ D) : X d 138 j pc ls [] (138, P0, D) (fun r σ => ∃ (D' : Mem), r = [] ∧ σ = wd D' ∧ Φ D') :=
  X_ret ⟨ht, hd⟩ rfl ⟨D, rfl, rfl, h⟩
theorem Z_Si1 {v1 : Value} {Φ : Int32 → Mem → Prop} (hd : decode j.2.1 pc = .ok (.invokestatic idx, 3)) (hn : pc + 3 = nx) (hl0 : ML j.1.cls idx j') (hj : KJ j' 1) (hv : Cond.static j'.1 ∈ big) (hE : Rix d' j' [v1] D Φ) (hd' : d' < d) (hcat : (rest.map fun v => v.category).sum ≤ 8) (kk : ∀ (u : Int32) (D' : Mem), Φ u D' → X d 138 j nx ls (.int u :: rest) (138, P0, D') Q) : X d 138 j pc ls (v1 :: rest) (138, P0, D) Q := X_callS hd hn hl0 hj hv hE rfl hd' rfl hcat (Nat.le_refl _) (Nat.le_refl _) (Or.inl rfl) (fun _ _ e => by obtain ⟨u, D1, e1, e2, e3⟩ := e; subst e1; subst e2; exact kk u D1 e3)
theorem Z_Si2 {v1 v2 : Value} {Φ : Int32 → Mem → Prop} (hd : decode j.2.1 pc = .ok (.invokestatic idx, 3)) (hn : pc + 3 = nx) (hl0 : ML j.1.cls idx j') (hj : KJ j' 2) (hv : Cond.static j'.1 ∈ big) (hE : Rix d' j' [v1, v2] D Φ) (hd' : d' < d) (hcat : (rest.map fun v => v.category).sum ≤ 8) (kk : ∀ (u : Int32) (D' : Mem), Φ u D' → X d 138 j nx ls (.int u :: rest) (138, P0, D') Q) : X d 138 j pc ls (v2 :: v1 :: rest) (138, P0, D) Q := X_callS hd hn hl0 hj hv hE rfl hd' rfl hcat (Nat.le_refl _) (Nat.le_refl _) (Or.inl rfl) (fun _ _ e => by obtain ⟨u, D1, e1, e2, e3⟩ := e; subst e1; subst e2; exact kk u D1 e3)
theorem Z_Si3 {v1 v2 v3 : Value} {Φ : Int32 → Mem → Prop} (hd : decode j.2.1 pc = .ok (.invokestatic idx, 3)) (hn : pc + 3 = nx) (hl0 : ML j.1.cls idx j') (hj : KJ j' 3) (hv : Cond.static j'.1 ∈ big) (hE : Rix d' j' [v1, v2, v3] D Φ) (hd' : d' < d) (hcat : (rest.map fun v => v.category).sum ≤ 8) (kk : ∀ (u : Int32) (D' : Mem), Φ u D' → X d 138 j nx ls (.int u :: rest) (138, P0, D') Q) : X d 138 j pc ls (v3 :: v2 :: v1 :: rest) (138, P0, D) Q := X_callS hd hn hl0 hj hv hE rfl hd' rfl hcat (Nat.le_refl _) (Nat.le_refl _) (Or.inl rfl) (fun _ _ e => by obtain ⟨u, D1, e1, e2, e3⟩ := e; subst e1; subst e2; exact kk u D1 e3)
theorem Z_Si4 {v1 v2 v3 v4 : Value} {Φ : Int32 → Mem → Prop} (hd : decode j.2.1 pc = .ok (.invokestatic idx, 3)) (hn : pc + 3 = nx) (hl0 : ML j.1.cls idx j') (hj : KJ j' 4) (hv : Cond.static j'.1 ∈ big) (hE : Rix d' j' [v1, v2, v3, v4] D Φ) (hd' : d' < d) (hcat : (rest.map fun v => v.category).sum ≤ 8) (kk : ∀ (u : Int32) (D' : Mem), Φ u D' → X d 138 j nx ls (.int u :: rest) (138, P0, D') Q) : X d 138 j pc ls (v4 :: v3 :: v2 :: v1 :: rest) (138, P0, D) Q := X_callS hd hn hl0 hj hv hE rfl hd' rfl hcat (Nat.le_refl _) (Nat.le_refl _) (Or.inl rfl) (fun _ _ e => by obtain ⟨u, D1, e1, e2, e3⟩ := e; subst e1; subst e2; exact kk u D1 e3)
theorem Z_Sl2 {v1 v2 : Value} {Φ : Int64 → Mem → Prop} (hd : decode j.2.1 pc = .ok (.invokestatic idx, 3)) (hn : pc + 3 = nx) (hl0 : ML j.1.cls idx j') (hj : KJ j' 2) (hv : Cond.static j'.1 ∈ big) (hE : Rlx d' j' [v1, v2] D Φ) (hd' : d' < d) (hcat : (rest.map fun v => v.category).sum ≤ 8) (kk : ∀ (u : Int64) (D' : Mem), Φ u D' → X d 138 j nx ls (.long u :: rest) (138, P0, D') Q) : X d 138 j pc ls (v2 :: v1 :: rest) (138, P0, D) Q := X_callS hd hn hl0 hj hv hE rfl hd' rfl hcat (Nat.le_refl _) (Nat.le_refl _) (Or.inl rfl) (fun _ _ e => by obtain ⟨u, D1, e1, e2, e3⟩ := e; subst e1; subst e2; exact kk u D1 e3)
theorem Z_Sl3 {v1 v2 v3 : Value} {Φ : Int64 → Mem → Prop} (hd : decode j.2.1 pc = .ok (.invokestatic idx, 3)) (hn : pc + 3 = nx) (hl0 : ML j.1.cls idx j') (hj : KJ j' 3) (hv : Cond.static j'.1 ∈ big) (hE : Rlx d' j' [v1, v2, v3] D Φ) (hd' : d' < d) (hcat : (rest.map fun v => v.category).sum ≤ 8) (kk : ∀ (u : Int64) (D' : Mem), Φ u D' → X d 138 j nx ls (.long u :: rest) (138, P0, D') Q) : X d 138 j pc ls (v3 :: v2 :: v1 :: rest) (138, P0, D) Q := X_callS hd hn hl0 hj hv hE rfl hd' rfl hcat (Nat.le_refl _) (Nat.le_refl _) (Or.inl rfl) (fun _ _ e => by obtain ⟨u, D1, e1, e2, e3⟩ := e; subst e1; subst e2; exact kk u D1 e3)
theorem Z_Sr1 {v1 : Value} {Φ : Nat → Mem → Prop} (hd : decode j.2.1 pc = .ok (.invokestatic idx, 3)) (hn : pc + 3 = nx) (hl0 : ML j.1.cls idx j') (hj : KJ j' 1) (hv : Cond.static j'.1 ∈ big) (hE : Rrx d' j' [v1] D Φ) (hd' : d' < d) (hcat : (rest.map fun v => v.category).sum ≤ 8) (kk : ∀ (u : Nat) (D' : Mem), Φ u D' → X d 138 j nx ls (.ref u :: rest) (138, P0, D') Q) : X d 138 j pc ls (v1 :: rest) (138, P0, D) Q := X_callS hd hn hl0 hj hv hE rfl hd' rfl hcat (Nat.le_refl _) (Nat.le_refl _) (Or.inl rfl) (fun _ _ e => by obtain ⟨u, D1, e1, e2, e3⟩ := e; subst e1; subst e2; exact kk u D1 e3)
theorem Z_Sv3 {v1 v2 v3 : Value} {Φ : Mem → Prop} (hd : decode j.2.1 pc = .ok (.invokestatic idx, 3)) (hn : pc + 3 = nx) (hl0 : ML j.1.cls idx j') (hj : KJ j' 3) (hv : Cond.static j'.1 ∈ big) (hE : Rvx d' j' [v1, v2, v3] D Φ) (hd' : d' < d) (hcat : (rest.map fun v => v.category).sum ≤ 8) (kk : ∀ (D' : Mem), Φ D' → X d 138 j nx ls (rest) (138, P0, D') Q) : X d 138 j pc ls (v3 :: v2 :: v1 :: rest) (138, P0, D) Q := X_callS hd hn hl0 hj hv hE rfl hd' rfl hcat (Nat.le_refl _) (Nat.le_refl _) (Or.inl rfl) (fun _ _ e => by obtain ⟨D1, e1, e2, e3⟩ := e; subst e1; subst e2; exact kk D1 e3)
theorem Z_Vi0 {a ci : Nat} {T : u_T} {N : Nat} {Φ : Int32 → Mem → Prop} (hd : decode j.2.1 pc = .ok (.invokevirtual idx, 3)) (hn : pc + 3 = nx) (hl0 : ML j.1.cls idx j') (hj : KJ j' 0) (hv : Cond.instanceMethod j'.1 ∈ big ∧ Cond.selects j'.1.cls j'.1 j'.1 ∈ big) (hE : Rix d' j' (.ref a :: []) D Φ) (ha : a < 138) (hc : (lay a).1 = ci) (hc8 : ci < 8) (hcl : vwCl[ci]? = some (j'.1.cls, T, N)) (hd' : d' < d) (hcat : (rest.map fun v => v.category).sum ≤ 8) (kk : ∀ (u : Int32) (D' : Mem), Φ u D' → X d 138 j nx ls (.int u :: rest) (138, P0, D') Q) : X d 138 j pc ls (.ref a :: rest) (138, P0, D) Q := X_callV hd hn hl0 hj hv ha hc hc8 hcl hE rfl hd' rfl hcat (Nat.le_refl _) (Nat.le_refl _) (Or.inl rfl) (fun _ _ e => by obtain ⟨u, D1, e1, e2, e3⟩ := e; subst e1; subst e2; exact kk u D1 e3)
theorem Z_Vi1 {a ci : Nat} {T : u_T} {N : Nat} {v1 : Value} {Φ : Int32 → Mem → Prop} (hd : decode j.2.1 pc = .ok (.invokevirtual idx, 3)) (hn : pc + 3 = nx) (hl0 : ML j.1.cls idx j') (hj : KJ j' 1) (hv : Cond.instanceMethod j'.1 ∈ big ∧ Cond.selects j'.1.cls j'.1 j'.1 ∈ big) (hE : Rix d' j' (.ref a :: [v1]) D Φ) (ha : a < 138) (hc : (lay a).1 = ci) (hc8 : ci < 8) (hcl : vwCl[ci]? = some (j'.1.cls, T, N)) (hd' : d' < d) (hcat : (rest.map fun v => v.category).sum ≤ 8) (kk : ∀ (u : Int32) (D' : Mem), Φ u D' → X d 138 j nx ls (.int u :: rest) (138, P0, D') Q) : X d 138 j pc ls (v1 :: .ref a :: rest) (138, P0, D) Q := X_callV hd hn hl0 hj hv ha hc hc8 hcl hE rfl hd' rfl hcat (Nat.le_refl _) (Nat.le_refl _) (Or.inl rfl) (fun _ _ e => by obtain ⟨u, D1, e1, e2, e3⟩ := e; subst e1; subst e2; exact kk u D1 e3)
theorem Z_Vi2 {a ci : Nat} {T : u_T} {N : Nat} {v1 v2 : Value} {Φ : Int32 → Mem → Prop} (hd : decode j.2.1 pc = .ok (.invokevirtual idx, 3)) (hn : pc + 3 = nx) (hl0 : ML j.1.cls idx j') (hj : KJ j' 2) (hv : Cond.instanceMethod j'.1 ∈ big ∧ Cond.selects j'.1.cls j'.1 j'.1 ∈ big) (hE : Rix d' j' (.ref a :: [v1, v2]) D Φ) (ha : a < 138) (hc : (lay a).1 = ci) (hc8 : ci < 8) (hcl : vwCl[ci]? = some (j'.1.cls, T, N)) (hd' : d' < d) (hcat : (rest.map fun v => v.category).sum ≤ 8) (kk : ∀ (u : Int32) (D' : Mem), Φ u D' → X d 138 j nx ls (.int u :: rest) (138, P0, D') Q) : X d 138 j pc ls (v2 :: v1 :: .ref a :: rest) (138, P0, D) Q := X_callV hd hn hl0 hj hv ha hc hc8 hcl hE rfl hd' rfl hcat (Nat.le_refl _) (Nat.le_refl _) (Or.inl rfl) (fun _ _ e => by obtain ⟨u, D1, e1, e2, e3⟩ := e; subst e1; subst e2; exact kk u D1 e3)
theorem Z_Vi3 {a ci : Nat} {T : u_T} {N : Nat} {v1 v2 v3 : Value} {Φ : Int32 → Mem → Prop} (hd : decode j.2.1 pc = .ok (.invokevirtual idx, 3)) (hn : pc + 3 = nx) (hl0 : ML j.1.cls idx j') (hj : KJ j' 3) (hv : Cond.instanceMethod j'.1 ∈ big ∧ Cond.selects j'.1.cls j'.1 j'.1 ∈ big) (hE : Rix d' j' (.ref a :: [v1, v2, v3]) D Φ) (ha : a < 138) (hc : (lay a).1 = ci) (hc8 : ci < 8) (hcl : vwCl[ci]? = some (j'.1.cls, T, N)) (hd' : d' < d) (hcat : (rest.map fun v => v.category).sum ≤ 8) (kk : ∀ (u : Int32) (D' : Mem), Φ u D' → X d 138 j nx ls (.int u :: rest) (138, P0, D') Q) : X d 138 j pc ls (v3 :: v2 :: v1 :: .ref a :: rest) (138, P0, D) Q := X_callV hd hn hl0 hj hv ha hc hc8 hcl hE rfl hd' rfl hcat (Nat.le_refl _) (Nat.le_refl _) (Or.inl rfl) (fun _ _ e => by obtain ⟨u, D1, e1, e2, e3⟩ := e; subst e1; subst e2; exact kk u D1 e3)
theorem Z_Vi4 {a ci : Nat} {T : u_T} {N : Nat} {v1 v2 v3 v4 : Value} {Φ : Int32 → Mem → Prop} (hd : decode j.2.1 pc = .ok (.invokevirtual idx, 3)) (hn : pc + 3 = nx) (hl0 : ML j.1.cls idx j') (hj : KJ j' 4) (hv : Cond.instanceMethod j'.1 ∈ big ∧ Cond.selects j'.1.cls j'.1 j'.1 ∈ big) (hE : Rix d' j' (.ref a :: [v1, v2, v3, v4]) D Φ) (ha : a < 138) (hc : (lay a).1 = ci) (hc8 : ci < 8) (hcl : vwCl[ci]? = some (j'.1.cls, T, N)) (hd' : d' < d) (hcat : (rest.map fun v => v.category).sum ≤ 8) (kk : ∀ (u : Int32) (D' : Mem), Φ u D' → X d 138 j nx ls (.int u :: rest) (138, P0, D') Q) : X d 138 j pc ls (v4 :: v3 :: v2 :: v1 :: .ref a :: rest) (138, P0, D) Q := X_callV hd hn hl0 hj hv ha hc hc8 hcl hE rfl hd' rfl hcat (Nat.le_refl _) (Nat.le_refl _) (Or.inl rfl) (fun _ _ e => by obtain ⟨u, D1, e1, e2, e3⟩ := e; subst e1; subst e2; exact kk u D1 e3)
theorem Z_Vi5 {a ci : Nat} {T : u_T} {N : Nat} {v1 v2 v3 v4 v5 : Value} {Φ : Int32 → Mem → Prop} (hd : decode j.2.1 pc = .ok (.invokevirtual idx, 3)) (hn : pc + 3 = nx) (hl0 : ML j.1.cls idx j') (hj : KJ j' 5) (hv : Cond.instanceMethod j'.1 ∈ big ∧ Cond.selects j'.1.cls j'.1 j'.1 ∈ big) (hE : Rix d' j' (.ref a :: [v1, v2, v3, v4, v5]) D Φ) (ha : a < 138) (hc : (lay a).1 = ci) (hc8 : ci < 8) (hcl : vwCl[ci]? = some (j'.1.cls, T, N)) (hd' : d' < d) (hcat : (rest.map fun v => v.category).sum ≤ 8) (kk : ∀ (u : Int32) (D' : Mem), Φ u D' → X d 138 j nx ls (.int u :: rest) (138, P0, D') Q) : X d 138 j pc ls (v5 :: v4 :: v3 :: v2 :: v1 :: .ref a :: rest) (138, P0, D) Q := X_callV hd hn hl0 hj hv ha hc hc8 hcl hE rfl hd' rfl hcat (Nat.le_refl _) (Nat.le_refl _) (Or.inl rfl) (fun _ _ e => by obtain ⟨u, D1, e1, e2, e3⟩ := e; subst e1; subst e2; exact kk u D1 e3)
theorem Z_Vl1 {a ci : Nat} {T : u_T} {N : Nat} {v1 : Value} {Φ : Int64 → Mem → Prop} (hd : decode j.2.1 pc = .ok (.invokevirtual idx, 3)) (hn : pc + 3 = nx) (hl0 : ML j.1.cls idx j') (hj : KJ j' 1) (hv : Cond.instanceMethod j'.1 ∈ big ∧ Cond.selects j'.1.cls j'.1 j'.1 ∈ big) (hE : Rlx d' j' (.ref a :: [v1]) D Φ) (ha : a < 138) (hc : (lay a).1 = ci) (hc8 : ci < 8) (hcl : vwCl[ci]? = some (j'.1.cls, T, N)) (hd' : d' < d) (hcat : (rest.map fun v => v.category).sum ≤ 8) (kk : ∀ (u : Int64) (D' : Mem), Φ u D' → X d 138 j nx ls (.long u :: rest) (138, P0, D') Q) : X d 138 j pc ls (v1 :: .ref a :: rest) (138, P0, D) Q := X_callV hd hn hl0 hj hv ha hc hc8 hcl hE rfl hd' rfl hcat (Nat.le_refl _) (Nat.le_refl _) (Or.inl rfl) (fun _ _ e => by obtain ⟨u, D1, e1, e2, e3⟩ := e; subst e1; subst e2; exact kk u D1 e3)
theorem Z_Vl2 {a ci : Nat} {T : u_T} {N : Nat} {v1 v2 : Value} {Φ : Int64 → Mem → Prop} (hd : decode j.2.1 pc = .ok (.invokevirtual idx, 3)) (hn : pc + 3 = nx) (hl0 : ML j.1.cls idx j') (hj : KJ j' 2) (hv : Cond.instanceMethod j'.1 ∈ big ∧ Cond.selects j'.1.cls j'.1 j'.1 ∈ big) (hE : Rlx d' j' (.ref a :: [v1, v2]) D Φ) (ha : a < 138) (hc : (lay a).1 = ci) (hc8 : ci < 8) (hcl : vwCl[ci]? = some (j'.1.cls, T, N)) (hd' : d' < d) (hcat : (rest.map fun v => v.category).sum ≤ 8) (kk : ∀ (u : Int64) (D' : Mem), Φ u D' → X d 138 j nx ls (.long u :: rest) (138, P0, D') Q) : X d 138 j pc ls (v2 :: v1 :: .ref a :: rest) (138, P0, D) Q := X_callV hd hn hl0 hj hv ha hc hc8 hcl hE rfl hd' rfl hcat (Nat.le_refl _) (Nat.le_refl _) (Or.inl rfl) (fun _ _ e => by obtain ⟨u, D1, e1, e2, e3⟩ := e; subst e1; subst e2; exact kk u D1 e3)
theorem Z_Vl4 {a ci : Nat} {T : u_T} {N : Nat} {v1 v2 v3 v4 : Value} {Φ : Int64 → Mem → Prop} (hd : decode j.2.1 pc = .ok (.invokevirtual idx, 3)) (hn : pc + 3 = nx) (hl0 : ML j.1.cls idx j') (hj : KJ j' 4) (hv : Cond.instanceMethod j'.1 ∈ big ∧ Cond.selects j'.1.cls j'.1 j'.1 ∈ big) (hE : Rlx d' j' (.ref a :: [v1, v2, v3, v4]) D Φ) (ha : a < 138) (hc : (lay a).1 = ci) (hc8 : ci < 8) (hcl : vwCl[ci]? = some (j'.1.cls, T, N)) (hd' : d' < d) (hcat : (rest.map fun v => v.category).sum ≤ 8) (kk : ∀ (u : Int64) (D' : Mem), Φ u D' → X d 138 j nx ls (.long u :: rest) (138, P0, D') Q) : X d 138 j pc ls (v4 :: v3 :: v2 :: v1 :: .ref a :: rest) (138, P0, D) Q := X_callV hd hn hl0 hj hv ha hc hc8 hcl hE rfl hd' rfl hcat (Nat.le_refl _) (Nat.le_refl _) (Or.inl rfl) (fun _ _ e => by obtain ⟨u, D1, e1, e2, e3⟩ := e; subst e1; subst e2; exact kk u D1 e3)
theorem Z_Vr0 {a ci : Nat} {T : u_T} {N : Nat} {Φ : Nat → Mem → Prop} (hd : decode j.2.1 pc = .ok (.invokevirtual idx, 3)) (hn : pc + 3 = nx) (hl0 : ML j.1.cls idx j') (hj : KJ j' 0) (hv : Cond.instanceMethod j'.1 ∈ big ∧ Cond.selects j'.1.cls j'.1 j'.1 ∈ big) (hE : Rrx d' j' (.ref a :: []) D Φ) (ha : a < 138) (hc : (lay a).1 = ci) (hc8 : ci < 8) (hcl : vwCl[ci]? = some (j'.1.cls, T, N)) (hd' : d' < d) (hcat : (rest.map fun v => v.category).sum ≤ 8) (kk : ∀ (u : Nat) (D' : Mem), Φ u D' → X d 138 j nx ls (.ref u :: rest) (138, P0, D') Q) : X d 138 j pc ls (.ref a :: rest) (138, P0, D) Q := X_callV hd hn hl0 hj hv ha hc hc8 hcl hE rfl hd' rfl hcat (Nat.le_refl _) (Nat.le_refl _) (Or.inl rfl) (fun _ _ e => by obtain ⟨u, D1, e1, e2, e3⟩ := e; subst e1; subst e2; exact kk u D1 e3)
theorem Z_Vr1 {a ci : Nat} {T : u_T} {N : Nat} {v1 : Value} {Φ : Nat → Mem → Prop} (hd : decode j.2.1 pc = .ok (.invokevirtual idx, 3)) (hn : pc + 3 = nx) (hl0 : ML j.1.cls idx j') (hj : KJ j' 1) (hv : Cond.instanceMethod j'.1 ∈ big ∧ Cond.selects j'.1.cls j'.1 j'.1 ∈ big) (hE : Rrx d' j' (.ref a :: [v1]) D Φ) (ha : a < 138) (hc : (lay a).1 = ci) (hc8 : ci < 8) (hcl : vwCl[ci]? = some (j'.1.cls, T, N)) (hd' : d' < d) (hcat : (rest.map fun v => v.category).sum ≤ 8) (kk : ∀ (u : Nat) (D' : Mem), Φ u D' → X d 138 j nx ls (.ref u :: rest) (138, P0, D') Q) : X d 138 j pc ls (v1 :: .ref a :: rest) (138, P0, D) Q := X_callV hd hn hl0 hj hv ha hc hc8 hcl hE rfl hd' rfl hcat (Nat.le_refl _) (Nat.le_refl _) (Or.inl rfl) (fun _ _ e => by obtain ⟨u, D1, e1, e2, e3⟩ := e; subst e1; subst e2; exact kk u D1 e3)
theorem Z_Vv0 {a ci : Nat} {T : u_T} {N : Nat} {Φ : Mem → Prop} (hd : decode j.2.1 pc = .ok (.invokevirtual idx, 3)) (hn : pc + 3 = nx) (hl0 : ML j.1.cls idx j') (hj : KJ j' 0) (hv : Cond.instanceMethod j'.1 ∈ big ∧ Cond.selects j'.1.cls j'.1 j'.1 ∈ big) (hE : Rvx d' j' (.ref a :: []) D Φ) (ha : a < 138) (hc : (lay a).1 = ci) (hc8 : ci < 8) (hcl : vwCl[ci]? = some (j'.1.cls, T, N)) (hd' : d' < d) (hcat : (rest.map fun v => v.category).sum ≤ 8) (kk : ∀ (D' : Mem), Φ D' → X d 138 j nx ls (rest) (138, P0, D') Q) : X d 138 j pc ls (.ref a :: rest) (138, P0, D) Q := X_callV hd hn hl0 hj hv ha hc hc8 hcl hE rfl hd' rfl hcat (Nat.le_refl _) (Nat.le_refl _) (Or.inl rfl) (fun _ _ e => by obtain ⟨D1, e1, e2, e3⟩ := e; subst e1; subst e2; exact kk D1 e3)
theorem Z_Vv1 {a ci : Nat} {T : u_T} {N : Nat} {v1 : Value} {Φ : Mem → Prop} (hd : decode j.2.1 pc = .ok (.invokevirtual idx, 3)) (hn : pc + 3 = nx) (hl0 : ML j.1.cls idx j') (hj : KJ j' 1) (hv : Cond.instanceMethod j'.1 ∈ big ∧ Cond.selects j'.1.cls j'.1 j'.1 ∈ big) (hE : Rvx d' j' (.ref a :: [v1]) D Φ) (ha : a < 138) (hc : (lay a).1 = ci) (hc8 : ci < 8) (hcl : vwCl[ci]? = some (j'.1.cls, T, N)) (hd' : d' < d) (hcat : (rest.map fun v => v.category).sum ≤ 8) (kk : ∀ (D' : Mem), Φ D' → X d 138 j nx ls (rest) (138, P0, D') Q) : X d 138 j pc ls (v1 :: .ref a :: rest) (138, P0, D) Q := X_callV hd hn hl0 hj hv ha hc hc8 hcl hE rfl hd' rfl hcat (Nat.le_refl _) (Nat.le_refl _) (Or.inl rfl) (fun _ _ e => by obtain ⟨D1, e1, e2, e3⟩ := e; subst e1; subst e2; exact kk D1 e3)
theorem Z_Vv2 {a ci : Nat} {T : u_T} {N : Nat} {v1 v2 : Value} {Φ : Mem → Prop} (hd : decode j.2.1 pc = .ok (.invokevirtual idx, 3)) (hn : pc + 3 = nx) (hl0 : ML j.1.cls idx j') (hj : KJ j' 2) (hv : Cond.instanceMethod j'.1 ∈ big ∧ Cond.selects j'.1.cls j'.1 j'.1 ∈ big) (hE : Rvx d' j' (.ref a :: [v1, v2]) D Φ) (ha : a < 138) (hc : (lay a).1 = ci) (hc8 : ci < 8) (hcl : vwCl[ci]? = some (j'.1.cls, T, N)) (hd' : d' < d) (hcat : (rest.map fun v => v.category).sum ≤ 8) (kk : ∀ (D' : Mem), Φ D' → X d 138 j nx ls (rest) (138, P0, D') Q) : X d 138 j pc ls (v2 :: v1 :: .ref a :: rest) (138, P0, D) Q := X_callV hd hn hl0 hj hv ha hc hc8 hcl hE rfl hd' rfl hcat (Nat.le_refl _) (Nat.le_refl _) (Or.inl rfl) (fun _ _ e => by obtain ⟨D1, e1, e2, e3⟩ := e; subst e1; subst e2; exact kk D1 e3)
theorem Z_Vv4 {a ci : Nat} {T : u_T} {N : Nat} {v1 v2 v3 v4 : Value} {Φ : Mem → Prop} (hd : decode j.2.1 pc = .ok (.invokevirtual idx, 3)) (hn : pc + 3 = nx) (hl0 : ML j.1.cls idx j') (hj : KJ j' 4) (hv : Cond.instanceMethod j'.1 ∈ big ∧ Cond.selects j'.1.cls j'.1 j'.1 ∈ big) (hE : Rvx d' j' (.ref a :: [v1, v2, v3, v4]) D Φ) (ha : a < 138) (hc : (lay a).1 = ci) (hc8 : ci < 8) (hcl : vwCl[ci]? = some (j'.1.cls, T, N)) (hd' : d' < d) (hcat : (rest.map fun v => v.category).sum ≤ 8) (kk : ∀ (D' : Mem), Φ D' → X d 138 j nx ls (rest) (138, P0, D') Q) : X d 138 j pc ls (v4 :: v3 :: v2 :: v1 :: .ref a :: rest) (138, P0, D) Q := X_callV hd hn hl0 hj hv ha hc hc8 hcl hE rfl hd' rfl hcat (Nat.le_refl _) (Nat.le_refl _) (Or.inl rfl) (fun _ _ e => by obtain ⟨D1, e1, e2, e3⟩ := e; subst e1; subst e2; exact kk D1 e3)
theorem Z_Vv7 {a ci : Nat} {T : u_T} {N : Nat} {v1 v2 v3 v4 v5 v6 v7 : Value} {Φ : Mem → Prop} (hd : decode j.2.1 pc = .ok (.invokevirtual idx, 3)) (hn : pc + 3 = nx) (hl0 : ML j.1.cls idx j') (hj : KJ j' 7) (hv : Cond.instanceMethod j'.1 ∈ big ∧ Cond.selects j'.1.cls j'.1 j'.1 ∈ big) (hE : Rvx d' j' (.ref a :: [v1, v2, v3, v4, v5, v6, v7]) D Φ) (ha : a < 138) (hc : (lay a).1 = ci) (hc8 : ci < 8) (hcl : vwCl[ci]? = some (j'.1.cls, T, N)) (hd' : d' < d) (hcat : (rest.map fun v => v.category).sum ≤ 8) (kk : ∀ (D' : Mem), Φ D' → X d 138 j nx ls (rest) (138, P0, D') Q) : X d 138 j pc ls (v7 :: v6 :: v5 :: v4 :: v3 :: v2 :: v1 :: .ref a :: rest) (138, P0, D) Q := X_callV hd hn hl0 hj hv ha hc hc8 hcl hE rfl hd' rfl hcat (Nat.le_refl _) (Nat.le_refl _) (Or.inl rfl) (fun _ _ e => by obtain ⟨D1, e1, e2, e3⟩ := e; subst e1; subst e2; exact kk D1 e3)
end ZROWS
/-! ## first places, counts -/
/-- the first place from i on, of n, at which p holds -/
def fst_ (p : Nat → Bool) : Nat → Nat → Option Nat
  | _, 0 => none
  | i, n + 1 => if p i = true then some i else fst_ p (i + 1) n
/-- a place, or -9 -/
def opI : Option Nat → Int32
  | none => -9
  | some k => nI k
theorem fst_some {p : Nat → Bool} : ∀ {n i k : Nat}, fst_ p i n = some k → i ≤ k ∧ k < i + n ∧ p k = true ∧ ∀ x, i ≤ x → x < k → p x = false := by
  intro n
  induction n with
  | zero => intro i k h; cases h
  | succ n ih =>
    intro i k h
    unfold fst_ at h
    by_cases hp : p i = true
    · rw [if_pos hp] at h
      cases h
      exact ⟨Nat.le_refl _, by omega, hp, fun x h1 h2 => by omega⟩
    · rw [if_neg hp] at h
      obtain ⟨h1, h2, h3, h4⟩ := ih h
      refine ⟨by omega, by omega, h3, fun x g1 g2 => ?_⟩
      by_cases hx : x = i
      · subst hx; simpa using hp
      · exact h4 x (by omega) g2
theorem fst_none {p : Nat → Bool} : ∀ {n i : Nat}, fst_ p i n = none → ∀ x, i ≤ x → x < i + n → p x = false := by
  intro n
  induction n with
  | zero => intro i h x h1 h2; omega
  | succ n ih =>
    intro i h x h1 h2
    unfold fst_ at h
    by_cases hp : p i = true
    · rw [if_pos hp] at h; cases h
    · rw [if_neg hp] at h
      by_cases hx : x = i
      · subst hx; simpa using hp
      · exact ih h x (by omega) (by omega)
theorem fst_intro {p : Nat → Bool} {n i k : Nat} (h1 : i ≤ k) (h2 : k < i + n) (h3 : p k = true) (h4 : ∀ x, i ≤ x → x < k → p x = false) : fst_ p i n = some k := by
  cases h : fst_ p i n with
  | none => rw [fst_none h k h1 h2] at h3; cases h3
  | some m =>
    obtain ⟨g1, g2, g3, g4⟩ := fst_some h
    by_cases hm : m < k
    · rw [h4 m g1 hm] at g3; cases g3
    · by_cases hm2 : k < m
      · rw [g4 k h1 hm2] at h3; cases h3
      · rw [show m = k by omega]
theorem fst_intro_none {p : Nat → Bool} {n i : Nat} (h : ∀ x, i ≤ x → x < i + n → p x = false) : fst_ p i n = none := by
  cases hh : fst_ p i n with
  | none => rfl
  | some m =>
    obtain ⟨g1, g2, g3, g4⟩ := fst_some hh
    rw [h m g1 g2] at g3; cases g3
theorem fst_congr {p q : Nat → Bool} {n i : Nat} (h : ∀ x, i ≤ x → x < i + n → p x = q x) : fst_ p i n = fst_ q i n := by
  induction n generalizing i with
  | zero => rfl
  | succ n ih =>
    unfold fst_
    rw [h i (Nat.le_refl _) (by omega), ih (fun x h1 h2 => h x (by omega) (by omega))]
theorem fst_step {p : Nat → Bool} {i n : Nat} (h : p i = false) : fst_ p i (n + 1) = fst_ p (i + 1) n := by
  rw [fst_, if_neg (by rw [h]; decide)]
theorem fst_hit {p : Nat → Bool} {i n : Nat} (h : p i = true) : fst_ p i (n + 1) = some i := by
  rw [fst_, if_pos h]
/-! ## segments, routes, paths, piles in the cells -/
/-- how many segments stand ahead of REST -/
def pl (s : List Nat) : Nat := (s.filter (fun x => decide (x ≠ 40))).length
theorem pl_le (s : List Nat) : pl s ≤ s.length := List.length_filter_le _ _
/-- the type of a segment: 0 .. 3 a letter, 4 low, 5 high, 6 any, 7 rest -/
def typ (x : Nat) : Nat := if x < 10 then x else 3 + x / 10
/-- a route's segments in its cells -/
def SEG (D : Mem) (r : Nat) (s : List Nat) : Prop := s.length ≤ 4 ∧ D r 1 = nI s.length ∧ D r 2 = nI (pl s) ∧ (∀ k, k < s.length → D (r + 1) k = nI (s.getD k 0)) ∧ ∀ x ∈ s, x ≤ 40
def RT (D : Mem) (r : Nat) (t : Bool) (R : Nat) (v m : Int32) (s : List Nat) : Prop := D r 6 = b2i t ∧ D r 3 = nI R ∧ D r 4 = v ∧ D r 5 = m ∧ SEG D r s
/-- letters in a path's cells -/
def LET (D : Mem) (p : Nat) (l : List Nat) : Prop := l.length ≤ 4 ∧ D p 1 = nI l.length ∧ (∀ k, k < l.length → D (p + 1) k = nI (l.getD k 0)) ∧ ∀ x ∈ l, x < 4
/-- numbers in a pile's cells -/
def PIL (D : Mem) (p : Nat) (l : List Nat) : Prop := l.length ≤ (lay (p + 1)).2 ∧ D p 1 = nI l.length ∧ ∀ k, k < l.length → D (p + 1) k = nI (l.getD k 0)
/-- only these cells differ -/
def Fr (S : Nat → Prop) (D D' : Mem) : Prop := ∀ b, ¬ S b → D' b = D b
theorem Fr.rf {S : Nat → Prop} {D : Mem} : Fr S D D := fun _ _ => rfl
theorem Fr.tr {S : Nat → Prop} {D D' D2 : Mem} (h : Fr S D D') (h2 : Fr S D' D2) : Fr S D D2 := fun b hb => (h2 b hb).trans (h b hb)
theorem Fr.mono {S T : Nat → Prop} {D D' : Mem} (h : Fr S D D') (hs : ∀ b, S b → T b) : Fr T D D' := fun b hb => h b (fun q => hb (hs b q))
theorem Fr.up {S : Nat → Prop} {D : Mem} {a i : Nat} {v : Int32} (h : S a) : Fr S D (up2 D a i v) := fun b hb => up2_ne (fun e => hb (e ▸ h))
theorem up2_same {D : Mem} {a i : Nat} {v : Int32} : up2 D a i v a i = v := by simp [up2]
theorem up2_other {D : Mem} {a b i k : Nat} {v : Int32} (h : ¬ (b = a ∧ k = i)) : up2 D a i v b k = D b k := by simp [up2, h]
theorem SEG.fr {D D' : Mem} {r : Nat} {s : List Nat} (h : SEG D r s) (h1 : D' r = D r) (h2 : D' (r + 1) = D (r + 1)) : SEG D' r s := by
  unfold SEG at *
  rw [h1, h2]; exact h
theorem RT.fr {D D' : Mem} {r R : Nat} {t : Bool} {v m : Int32} {s : List Nat} (h : RT D r t R v m s) (h1 : D' r = D r) (h2 : D' (r + 1) = D (r + 1)) : RT D' r t R v m s := by
  obtain ⟨a, b, c, d, e⟩ := h
  exact ⟨by rw [h1]; exact a, by rw [h1]; exact b, by rw [h1]; exact c, by rw [h1]; exact d, e.fr h1 h2⟩
theorem LET.fr {D D' : Mem} {p : Nat} {l : List Nat} (h : LET D p l) (h1 : D' p = D p) (h2 : D' (p + 1) = D (p + 1)) : LET D' p l := by
  unfold LET at *
  rw [h1, h2]; exact h
theorem PIL.fr {D D' : Mem} {p : Nat} {l : List Nat} (h : PIL D p l) (h1 : D' p = D p) (h2 : D' (p + 1) = D (p + 1)) : PIL D' p l := by
  unfold PIL at *
  rw [h1, h2]; exact h
end
section
/-! PILES, PATHS, ROUTES of the class -/
theorem X_top {d k pc : Nat} {j : MI} {ls : List (Option Value)} {st : List Value} {σ : Wd} {Q : List Value → Wd → Prop} {x y : Int32} (h : x = y) (kk : X d k j pc ls (.int y :: st) σ Q) : X d k j pc ls (.int x :: st) σ Q := by
  subst h; exact kk
theorem dec_f {A B : Prop} [Decidable A] [Decidable B] (h : ¬ (A ∧ B)) : (decide A && decide B) = false := by
  by_cases ha : A
  · rw [decide_eq_false (fun hb => h ⟨ha, hb⟩)]; simp
  · rw [decide_eq_false ha]; rfl
theorem dec_t {A B : Prop} [Decidable A] [Decidable B] (h : A ∧ B) : (decide A && decide B) = true := by rw [decide_eq_true h.1, decide_eq_true h.2]; rfl
theorem st_0 {α : Type} {a v : α} {l : List α} : (a :: l).set 0 v = v :: l := rfl
theorem st_s {α : Type} {a v : α} {l l' : List α} {i : Nat} (h : l.set i v = l') : (a :: l).set (i + 1) v = a :: l' := by subst h; rfl
theorem ii1 (i : Nat) : nI i + Int32.ofInt 1 = nI (i + 1) := nI_1 i
theorem iim1 (i : Nat) : nI (i + 1) + Int32.ofInt (-1) = nI i := by
  have h := pk_m1 i
  exact h
def isPl (p : Nat) : Prop := p = 96 ∨ p = 98
theorem isPl.facts {p : Nat} (h : isPl p) : p < 138 ∧ (lay p).1 = 2 ∧ P0 p 0 = some (p + 1) ∧ p + 1 < 138 ∧ (lay (p + 1)).1 = 8 ∧ (lay (p + 1)).2 < 200 := by
  rcases h with rfl | rfl <;> decide
def isPa (p : Nat) : Prop := p = 92 ∨ p = 100
theorem isPa.facts {p : Nat} (h : isPa p) : p < 138 ∧ (lay p).1 = 1 ∧ P0 p 0 = some (p + 1) ∧ p + 1 < 138 ∧ (lay (p + 1)).1 = 8 ∧ (lay (p + 1)).2 = 4 := by
  rcases h with rfl | rfl <;> decide
theorem dX2_isFull_0 : decode cX2_isFull 0 = .ok (.aload_n 0, 1) := by decide +kernel
theorem dX2_isFull_1 : decode cX2_isFull 1 = .ok (.getfield 21, 3) := by decide +kernel
theorem dX2_isFull_4 : decode cX2_isFull 4 = .ok (.aload_n 0, 1) := by decide +kernel
theorem dX2_isFull_5 : decode cX2_isFull 5 = .ok (.getfield 15, 3) := by decide +kernel
theorem dX2_isFull_8 : decode cX2_isFull 8 = .ok (.arraylength, 1) := by decide +kernel
theorem dX2_isFull_9 : decode cX2_isFull 9 = .ok (.if_icmp .lt 7, 3) := by decide +kernel
theorem dX2_isFull_12 : decode cX2_isFull 12 = .ok (.iconst 1, 1) := by decide +kernel
theorem dX2_isFull_13 : decode cX2_isFull 13 = .ok (.goto 4, 3) := by decide +kernel
theorem dX2_isFull_16 : decode cX2_isFull 16 = .ok (.iconst 0, 1) := by decide +kernel
theorem dX2_isFull_17 : decode cX2_isFull 17 = .ok (.ireturn, 1) := by decide +kernel
theorem sp_X2_isFull {p : Nat} {l : List Nat} {D : Mem} (hp : isPl p) (h : PIL D p l) : Ei 1 j_X2_isFull [.ref p] D (b2i (decide ((lay (p + 1)).2 ≤ l.length))) (D) := by
  obtain ⟨q1, q2, q3, q4, q5, q6⟩ := hp.facts
  have hb := h.1
  refine E.start 0 (ls := [some (.ref p)]) (by decide +kernel) (Nat.le_of_ble_eq_true rfl) rfl (Nat.le_refl _) (Nat.le_refl _) ?_
  refine X_aload_n (nx := 1) dX2_isFull_0 rfl rfl rfl ?_
  refine M_getI (nx := 4) dX2_isFull_1 rfl fl_RX2_21 rfl (by first | assumption | rfl | decide | omega) (by first | assumption | rfl | decide | omega) ?_
  refine X_top (h.2.1) ?_
  refine X_aload_n (nx := 5) dX2_isFull_4 rfl rfl rfl ?_
  refine M_getP (nx := 8) dX2_isFull_5 rfl fl_RX2_15 rfl (by first | assumption | rfl | decide | omega) (by first | assumption | rfl | decide | omega) (by first | assumption | rfl | decide | omega) ?_
  refine M_alen (nx := 9) dX2_isFull_8 rfl (by first | assumption | rfl | decide | omega) (Or.inl (by first | assumption | rfl | decide | omega)) ?_
  refine X_icmp_lt (tgt := 16) (nx := 12) dX2_isFull_9 rfl rfl (fun h9 => ?_) (fun h9 => ?_)
  · skip
    rw [nI_ltI (by omega) (by omega)] at h9
    refine X_iconst (v := 0) (nx := 17) dX2_isFull_16 rfl rfl ?_
    exact Y_reti dX2_isFull_17 (Or.inr ⟨rfl, by first | exact Or.inl rfl | exact Or.inr rfl | exact b2i_01 _ | assumption⟩) (by first | exact cl_t (by omega) | exact cl_f (by omega)) rfl
  · skip
    rw [nI_ltI (by omega) (by omega)] at h9
    refine X_iconst (v := 1) (nx := 13) dX2_isFull_12 rfl rfl ?_
    refine X_goto (tgt := 17) dX2_isFull_13 rfl ?_
    exact Y_reti dX2_isFull_17 (Or.inr ⟨rfl, by first | exact Or.inl rfl | exact Or.inr rfl | exact b2i_01 _ | assumption⟩) (by first | exact cl_t (by omega) | exact cl_f (by omega)) rfl
theorem dX2_add_0 : decode cX2_add 0 = .ok (.aload_n 0, 1) := by decide +kernel
theorem dX2_add_1 : decode cX2_add 1 = .ok (.invokevirtual 25, 3) := by decide +kernel
theorem dX2_add_4 : decode cX2_add 4 = .ok (.ifCond .ne 25, 3) := by decide +kernel
theorem dX2_add_7 : decode cX2_add 7 = .ok (.aload_n 0, 1) := by decide +kernel
theorem dX2_add_8 : decode cX2_add 8 = .ok (.getfield 15, 3) := by decide +kernel
theorem dX2_add_11 : decode cX2_add 11 = .ok (.aload_n 0, 1) := by decide +kernel
theorem dX2_add_12 : decode cX2_add 12 = .ok (.getfield 21, 3) := by decide +kernel
theorem dX2_add_15 : decode cX2_add 15 = .ok (.iload_n 1, 1) := by decide +kernel
theorem dX2_add_16 : decode cX2_add 16 = .ok (.invokestatic 29, 3) := by decide +kernel
theorem dX2_add_19 : decode cX2_add 19 = .ok (.aload_n 0, 1) := by decide +kernel
theorem dX2_add_20 : decode cX2_add 20 = .ok (.dup, 1) := by decide +kernel
theorem dX2_add_21 : decode cX2_add 21 = .ok (.getfield 21, 3) := by decide +kernel
theorem dX2_add_24 : decode cX2_add 24 = .ok (.iconst 1, 1) := by decide +kernel
theorem dX2_add_25 : decode cX2_add 25 = .ok (.iadd, 1) := by decide +kernel
theorem dX2_add_26 : decode cX2_add 26 = .ok (.putfield 21, 3) := by decide +kernel
theorem dX2_add_29 : decode cX2_add 29 = .ok (.return_, 1) := by decide +kernel
theorem sp_X2_add {p : Nat} {l : List Nat} {v : Int32} {D : Mem} (hp : isPl p) (h : PIL D p l) (hl : l.length < (lay (p + 1)).2) : Ev 2 j_X2_add [.ref p, .int v] D (up2 (up2 D (p + 1) l.length v) p 1 (nI (l.length + 1))) := by
  obtain ⟨q1, q2, q3, q4, q5, q6⟩ := hp.facts
  refine E.start 0 (ls := [some (.ref p), some (.int v)]) (by decide +kernel) (Nat.le_of_ble_eq_true rfl) rfl (Nat.le_refl _) (Nat.le_refl _) ?_
  refine X_aload_n (nx := 1) dX2_add_0 rfl rfl rfl ?_
  refine Y_Vi0 (nx := 4) dX2_add_1 rfl ml_RX2_25 kj_X2_isFull kv_X2_isFull (sp_X2_isFull hp h) (by first | assumption | rfl | decide | omega) (by first | assumption | rfl | decide | omega) (by decide) rfl (by first | decide | omega) (by exact Nat.le_of_ble_eq_true rfl) ?_
  refine X_if_ne (tgt := 29) (nx := 7) dX2_add_4 rfl rfl (fun h4 => ?_) (fun h4 => ?_)
  · exact absurd h4 (fun q => q (by rw [decide_eq_false (by omega)]; rfl))
  · skip
    refine X_aload_n (nx := 8) dX2_add_7 rfl rfl rfl ?_
    refine M_getP (nx := 11) dX2_add_8 rfl fl_RX2_15 rfl (by first | assumption | rfl | decide | omega) (by first | assumption | rfl | decide | omega) (by first | assumption | rfl | decide | omega) ?_
    refine X_aload_n (nx := 12) dX2_add_11 rfl rfl rfl ?_
    refine M_getI (nx := 15) dX2_add_12 rfl fl_RX2_21 rfl (by first | assumption | rfl | decide | omega) (by first | assumption | rfl | decide | omega) ?_
    refine X_top (h.2.1) ?_
    refine X_iload_n (nx := 16) dX2_add_15 rfl rfl rfl ?_
    refine Y_Sv3 (nx := 19) dX2_add_16 rfl ml_RX2_29 kj_X7_put ks_X7_put (sp_X7_put (i := l.length) (by assumption) (by assumption) rfl (by omega)) (by first | decide | omega) (by exact Nat.le_of_ble_eq_true rfl) ?_
    refine X_aload_n (nx := 20) dX2_add_19 rfl rfl rfl ?_
    refine X_dup (nx := 21) dX2_add_20 rfl rfl ?_
    refine M_getI (nx := 24) dX2_add_21 rfl fl_RX2_21 rfl (by first | assumption | rfl | decide | omega) (by first | assumption | rfl | decide | omega) ?_
    refine X_top ((up2_other (by omega)).trans h.2.1) ?_
    refine X_iconst (v := 1) (nx := 25) dX2_add_24 rfl rfl ?_
    refine X_iadd (nx := 26) dX2_add_25 rfl ?_
    refine X_top (nI_1 _) ?_
    refine M_putI (nx := 29) dX2_add_26 rfl fl_RX2_21 rfl rfl (by first | assumption | rfl | decide | omega) (by first | assumption | rfl | decide | omega) ?_
    exact Y_retv dX2_add_29 rfl rfl
theorem dX2_at_0 : decode cX2_at 0 = .ok (.iload_n 1, 1) := by decide +kernel
theorem dX2_at_1 : decode cX2_at 1 = .ok (.ifCond .lt 24, 3) := by decide +kernel
theorem dX2_at_4 : decode cX2_at 4 = .ok (.iload_n 1, 1) := by decide +kernel
theorem dX2_at_5 : decode cX2_at 5 = .ok (.aload_n 0, 1) := by decide +kernel
theorem dX2_at_6 : decode cX2_at 6 = .ok (.getfield 21, 3) := by decide +kernel
theorem dX2_at_9 : decode cX2_at 9 = .ok (.if_icmp .ge 16, 3) := by decide +kernel
theorem dX2_at_12 : decode cX2_at 12 = .ok (.iload_n 1, 1) := by decide +kernel
theorem dX2_at_13 : decode cX2_at 13 = .ok (.aload_n 0, 1) := by decide +kernel
theorem dX2_at_14 : decode cX2_at 14 = .ok (.getfield 15, 3) := by decide +kernel
theorem dX2_at_17 : decode cX2_at 17 = .ok (.arraylength, 1) := by decide +kernel
theorem dX2_at_18 : decode cX2_at 18 = .ok (.if_icmp .ge 7, 3) := by decide +kernel
theorem dX2_at_21 : decode cX2_at 21 = .ok (.iconst 1, 1) := by decide +kernel
theorem dX2_at_22 : decode cX2_at 22 = .ok (.goto 4, 3) := by decide +kernel
theorem dX2_at_25 : decode cX2_at 25 = .ok (.iconst 0, 1) := by decide +kernel
theorem dX2_at_26 : decode cX2_at 26 = .ok (.istore_n 2, 1) := by decide +kernel
theorem dX2_at_27 : decode cX2_at 27 = .ok (.iload_n 2, 1) := by decide +kernel
theorem dX2_at_28 : decode cX2_at 28 = .ok (.ifCond .eq 12, 3) := by decide +kernel
theorem dX2_at_31 : decode cX2_at 31 = .ok (.aload_n 0, 1) := by decide +kernel
theorem dX2_at_32 : decode cX2_at 32 = .ok (.getfield 15, 3) := by decide +kernel
theorem dX2_at_35 : decode cX2_at 35 = .ok (.iload_n 1, 1) := by decide +kernel
theorem dX2_at_36 : decode cX2_at 36 = .ok (.iaload, 1) := by decide +kernel
theorem dX2_at_37 : decode cX2_at 37 = .ok (.goto 5, 3) := by decide +kernel
theorem dX2_at_40 : decode cX2_at 40 = .ok (.bipush (-9), 2) := by decide +kernel
theorem dX2_at_42 : decode cX2_at 42 = .ok (.ireturn, 1) := by decide +kernel
theorem sp_X2_at {p k : Nat} {l : List Nat} {x : Int32} {D : Mem} (hp : isPl p) (h : PIL D p l) (hx : x = nI k) (hk : k < l.length) : Ei 1 j_X2_at [.ref p, .int x] D (nI (l.getD k 0)) (D) := by
  refine E.start 1 (ls := [some (.ref p), some (.int x), none]) (by decide +kernel) (Nat.le_of_ble_eq_true rfl) rfl (Nat.le_refl _) (Nat.le_refl _) ?_
  subst hx
  obtain ⟨q1, q2, q3, q4, q5, q6⟩ := hp.facts
  have hb := h.1
  have hin : vp_in (nI k) (lay (p + 1)).2 := vp_in_nI (by omega) (by omega)
  refine X_iload_n (nx := 1) dX2_at_0 rfl rfl rfl ?_
  refine X_if_lt (tgt := 25) (nx := 4) dX2_at_1 rfl rfl (fun h1 => ?_) (fun h1 => ?_)
  · exact absurd h1 (nI_neg (by omega))
  · skip
    refine X_iload_n (nx := 5) dX2_at_4 rfl rfl rfl ?_
    refine X_aload_n (nx := 6) dX2_at_5 rfl rfl rfl ?_
    refine M_getI (nx := 9) dX2_at_6 rfl fl_RX2_21 rfl (by first | assumption | rfl | decide | omega) (by first | assumption | rfl | decide | omega) ?_
    refine X_top (h.2.1) ?_
    refine X_icmp_ge (tgt := 25) (nx := 12) dX2_at_9 rfl rfl (fun h9 => ?_) (fun h9 => ?_)
    · exact absurd h9 (nI_ge (by omega) (by omega))
    · skip
      refine X_iload_n (nx := 13) dX2_at_12 rfl rfl rfl ?_
      refine X_aload_n (nx := 14) dX2_at_13 rfl rfl rfl ?_
      refine M_getP (nx := 17) dX2_at_14 rfl fl_RX2_15 rfl (by first | assumption | rfl | decide | omega) (by first | assumption | rfl | decide | omega) (by first | assumption | rfl | decide | omega) ?_
      refine M_alen (nx := 18) dX2_at_17 rfl (by first | assumption | rfl | decide | omega) (Or.inl (by first | assumption | rfl | decide | omega)) ?_
      refine X_icmp_ge (tgt := 25) (nx := 21) dX2_at_18 rfl rfl (fun h18 => ?_) (fun h18 => ?_)
      · exact absurd h18 (nI_ge (by omega) (by omega))
      · skip
        refine X_iconst (v := 1) (nx := 22) dX2_at_21 rfl rfl ?_
        refine X_goto (tgt := 26) dX2_at_22 rfl ?_
        refine X_istore_n (i := 2) (nx := 27) dX2_at_26 rfl rfl (by decide) rfl (st_s (st_s (st_0))) ?_
        refine X_iload_n (nx := 28) dX2_at_27 rfl rfl rfl ?_
        refine X_if_eq (tgt := 40) (nx := 31) dX2_at_28 rfl rfl (fun h28 => ?_) (fun h28 => ?_)
        · exact absurd h28 (by decide)
        · skip
          refine X_aload_n (nx := 32) dX2_at_31 rfl rfl rfl ?_
          refine M_getP (nx := 35) dX2_at_32 rfl fl_RX2_15 rfl (by first | assumption | rfl | decide | omega) (by first | assumption | rfl | decide | omega) (by first | assumption | rfl | decide | omega) ?_
          refine X_iload_n (nx := 36) dX2_at_35 rfl rfl rfl ?_
          refine M_iald (nx := 37) dX2_at_36 rfl (by first | assumption | rfl | decide | omega) (by first | assumption | rfl | decide | omega) (by first | assumption | rfl | decide | omega) ?_
          refine X_top ((congrArg (D (p + 1)) (nI_clamp (by omega))).trans (h.2.2 k hk)) ?_
          refine X_goto (tgt := 42) dX2_at_37 rfl ?_
          exact Y_reti dX2_at_42 (Or.inl rfl) rfl rfl
theorem dX1_at_0 : decode cX1_at 0 = .ok (.iload_n 1, 1) := by decide +kernel
theorem dX1_at_1 : decode cX1_at 1 = .ok (.ifCond .lt 24, 3) := by decide +kernel
theorem dX1_at_4 : decode cX1_at 4 = .ok (.iload_n 1, 1) := by decide +kernel
theorem dX1_at_5 : decode cX1_at 5 = .ok (.aload_n 0, 1) := by decide +kernel
theorem dX1_at_6 : decode cX1_at 6 = .ok (.getfield 15, 3) := by decide +kernel
theorem dX1_at_9 : decode cX1_at 9 = .ok (.if_icmp .ge 16, 3) := by decide +kernel
theorem dX1_at_12 : decode cX1_at 12 = .ok (.iload_n 1, 1) := by decide +kernel
theorem dX1_at_13 : decode cX1_at 13 = .ok (.aload_n 0, 1) := by decide +kernel
theorem dX1_at_14 : decode cX1_at 14 = .ok (.getfield 9, 3) := by decide +kernel
theorem dX1_at_17 : decode cX1_at 17 = .ok (.arraylength, 1) := by decide +kernel
theorem dX1_at_18 : decode cX1_at 18 = .ok (.if_icmp .ge 7, 3) := by decide +kernel
theorem dX1_at_21 : decode cX1_at 21 = .ok (.iconst 1, 1) := by decide +kernel
theorem dX1_at_22 : decode cX1_at 22 = .ok (.goto 4, 3) := by decide +kernel
theorem dX1_at_25 : decode cX1_at 25 = .ok (.iconst 0, 1) := by decide +kernel
theorem dX1_at_26 : decode cX1_at 26 = .ok (.istore_n 2, 1) := by decide +kernel
theorem dX1_at_27 : decode cX1_at 27 = .ok (.iload_n 2, 1) := by decide +kernel
theorem dX1_at_28 : decode cX1_at 28 = .ok (.ifCond .eq 12, 3) := by decide +kernel
theorem dX1_at_31 : decode cX1_at 31 = .ok (.aload_n 0, 1) := by decide +kernel
theorem dX1_at_32 : decode cX1_at 32 = .ok (.getfield 9, 3) := by decide +kernel
theorem dX1_at_35 : decode cX1_at 35 = .ok (.iload_n 1, 1) := by decide +kernel
theorem dX1_at_36 : decode cX1_at 36 = .ok (.iaload, 1) := by decide +kernel
theorem dX1_at_37 : decode cX1_at 37 = .ok (.goto 5, 3) := by decide +kernel
theorem dX1_at_40 : decode cX1_at 40 = .ok (.bipush (-9), 2) := by decide +kernel
theorem dX1_at_42 : decode cX1_at 42 = .ok (.ireturn, 1) := by decide +kernel
theorem sp_X1_at {p k : Nat} {l : List Nat} {x : Int32} {D : Mem} (hp : isPa p) (h : LET D p l) (hx : x = nI k) (hk : k < l.length) : Ei 1 j_X1_at [.ref p, .int x] D (nI (l.getD k 0)) (D) := by
  refine E.start 1 (ls := [some (.ref p), some (.int x), none]) (by decide +kernel) (Nat.le_of_ble_eq_true rfl) rfl (Nat.le_refl _) (Nat.le_refl _) ?_
  subst hx
  obtain ⟨q1, q2, q3, q4, q5, q6⟩ := hp.facts
  have hb := h.1
  have hin : vp_in (nI k) (lay (p + 1)).2 := vp_in_nI (by omega) (by omega)
  refine X_iload_n (nx := 1) dX1_at_0 rfl rfl rfl ?_
  refine X_if_lt (tgt := 25) (nx := 4) dX1_at_1 rfl rfl (fun h1 => ?_) (fun h1 => ?_)
  · exact absurd h1 (nI_neg (by omega))
  · skip
    refine X_iload_n (nx := 5) dX1_at_4 rfl rfl rfl ?_
    refine X_aload_n (nx := 6) dX1_at_5 rfl rfl rfl ?_
    refine M_getI (nx := 9) dX1_at_6 rfl fl_RX1_15 rfl (by first | assumption | rfl | decide | omega) (by first | assumption | rfl | decide | omega) ?_
    refine X_top (h.2.1) ?_
    refine X_icmp_ge (tgt := 25) (nx := 12) dX1_at_9 rfl rfl (fun h9 => ?_) (fun h9 => ?_)
    · exact absurd h9 (nI_ge (by omega) (by omega))
    · skip
      refine X_iload_n (nx := 13) dX1_at_12 rfl rfl rfl ?_
      refine X_aload_n (nx := 14) dX1_at_13 rfl rfl rfl ?_
      refine M_getP (nx := 17) dX1_at_14 rfl fl_RX1_9 rfl (by first | assumption | rfl | decide | omega) (by first | assumption | rfl | decide | omega) (by first | assumption | rfl | decide | omega) ?_
      refine M_alen (nx := 18) dX1_at_17 rfl (by first | assumption | rfl | decide | omega) (Or.inl (by first | assumption | rfl | decide | omega)) ?_
      refine X_icmp_ge (tgt := 25) (nx := 21) dX1_at_18 rfl rfl (fun h18 => ?_) (fun h18 => ?_)
      · exact absurd h18 (nI_ge (by omega) (by omega))
      · skip
        refine X_iconst (v := 1) (nx := 22) dX1_at_21 rfl rfl ?_
        refine X_goto (tgt := 26) dX1_at_22 rfl ?_
        refine X_istore_n (i := 2) (nx := 27) dX1_at_26 rfl rfl (by decide) rfl (st_s (st_s (st_0))) ?_
        refine X_iload_n (nx := 28) dX1_at_27 rfl rfl rfl ?_
        refine X_if_eq (tgt := 40) (nx := 31) dX1_at_28 rfl rfl (fun h28 => ?_) (fun h28 => ?_)
        · exact absurd h28 (by decide)
        · skip
          refine X_aload_n (nx := 32) dX1_at_31 rfl rfl rfl ?_
          refine M_getP (nx := 35) dX1_at_32 rfl fl_RX1_9 rfl (by first | assumption | rfl | decide | omega) (by first | assumption | rfl | decide | omega) (by first | assumption | rfl | decide | omega) ?_
          refine X_iload_n (nx := 36) dX1_at_35 rfl rfl rfl ?_
          refine M_iald (nx := 37) dX1_at_36 rfl (by first | assumption | rfl | decide | omega) (by first | assumption | rfl | decide | omega) (by first | assumption | rfl | decide | omega) ?_
          refine X_top ((congrArg (D (p + 1)) (nI_clamp (by omega))).trans (h.2.2.1 k hk)) ?_
          refine X_goto (tgt := 42) dX1_at_37 rfl ?_
          exact Y_reti dX1_at_42 (Or.inl rfl) rfl rfl
theorem dX4_segmentAt_0 : decode cX4_segmentAt 0 = .ok (.iload_n 1, 1) := by decide +kernel
theorem dX4_segmentAt_1 : decode cX4_segmentAt 1 = .ok (.ifCond .lt 24, 3) := by decide +kernel
theorem dX4_segmentAt_4 : decode cX4_segmentAt 4 = .ok (.iload_n 1, 1) := by decide +kernel
theorem dX4_segmentAt_5 : decode cX4_segmentAt 5 = .ok (.aload_n 0, 1) := by decide +kernel
theorem dX4_segmentAt_6 : decode cX4_segmentAt 6 = .ok (.getfield 26, 3) := by decide +kernel
theorem dX4_segmentAt_9 : decode cX4_segmentAt 9 = .ok (.if_icmp .ge 16, 3) := by decide +kernel
theorem dX4_segmentAt_12 : decode cX4_segmentAt 12 = .ok (.iload_n 1, 1) := by decide +kernel
theorem dX4_segmentAt_13 : decode cX4_segmentAt 13 = .ok (.aload_n 0, 1) := by decide +kernel
theorem dX4_segmentAt_14 : decode cX4_segmentAt 14 = .ok (.getfield 9, 3) := by decide +kernel
theorem dX4_segmentAt_17 : decode cX4_segmentAt 17 = .ok (.arraylength, 1) := by decide +kernel
theorem dX4_segmentAt_18 : decode cX4_segmentAt 18 = .ok (.if_icmp .ge 7, 3) := by decide +kernel
theorem dX4_segmentAt_21 : decode cX4_segmentAt 21 = .ok (.iconst 1, 1) := by decide +kernel
theorem dX4_segmentAt_22 : decode cX4_segmentAt 22 = .ok (.goto 4, 3) := by decide +kernel
theorem dX4_segmentAt_25 : decode cX4_segmentAt 25 = .ok (.iconst 0, 1) := by decide +kernel
theorem dX4_segmentAt_26 : decode cX4_segmentAt 26 = .ok (.istore_n 2, 1) := by decide +kernel
theorem dX4_segmentAt_27 : decode cX4_segmentAt 27 = .ok (.iload_n 2, 1) := by decide +kernel
theorem dX4_segmentAt_28 : decode cX4_segmentAt 28 = .ok (.ifCond .eq 12, 3) := by decide +kernel
theorem dX4_segmentAt_31 : decode cX4_segmentAt 31 = .ok (.aload_n 0, 1) := by decide +kernel
theorem dX4_segmentAt_32 : decode cX4_segmentAt 32 = .ok (.getfield 9, 3) := by decide +kernel
theorem dX4_segmentAt_35 : decode cX4_segmentAt 35 = .ok (.iload_n 1, 1) := by decide +kernel
theorem dX4_segmentAt_36 : decode cX4_segmentAt 36 = .ok (.iaload, 1) := by decide +kernel
theorem dX4_segmentAt_37 : decode cX4_segmentAt 37 = .ok (.goto 5, 3) := by decide +kernel
theorem dX4_segmentAt_40 : decode cX4_segmentAt 40 = .ok (.bipush (-9), 2) := by decide +kernel
theorem dX4_segmentAt_42 : decode cX4_segmentAt 42 = .ok (.ireturn, 1) := by decide +kernel
theorem sp_X4_segmentAt {r k : Nat} {l : List Nat} {x : Int32} {D : Mem} (hr : isR r) (h : SEG D r l) (hx : x = nI k) (hk : k < l.length) : Ei 1 j_X4_segmentAt [.ref r, .int x] D (nI (l.getD k 0)) (D) := by
  refine E.start 1 (ls := [some (.ref r), some (.int x), none]) (by decide +kernel) (Nat.le_of_ble_eq_true rfl) rfl (Nat.le_refl _) (Nat.le_refl _) ?_
  subst hx
  obtain ⟨q1, q2, q3, q4, q5, q6⟩ := hr.facts
  have hb := h.1
  have hin : vp_in (nI k) (lay (r + 1)).2 := vp_in_nI (by omega) (by omega)
  refine X_iload_n (nx := 1) dX4_segmentAt_0 rfl rfl rfl ?_
  refine X_if_lt (tgt := 25) (nx := 4) dX4_segmentAt_1 rfl rfl (fun h1 => ?_) (fun h1 => ?_)
  · exact absurd h1 (nI_neg (by omega))
  · skip
    refine X_iload_n (nx := 5) dX4_segmentAt_4 rfl rfl rfl ?_
    refine X_aload_n (nx := 6) dX4_segmentAt_5 rfl rfl rfl ?_
    refine M_getI (nx := 9) dX4_segmentAt_6 rfl fl_RX4_26 rfl (by first | assumption | rfl | decide | omega) (by first | assumption | rfl | decide | omega) ?_
    refine X_top (h.2.1) ?_
    refine X_icmp_ge (tgt := 25) (nx := 12) dX4_segmentAt_9 rfl rfl (fun h9 => ?_) (fun h9 => ?_)
    · exact absurd h9 (nI_ge (by omega) (by omega))
    · skip
      refine X_iload_n (nx := 13) dX4_segmentAt_12 rfl rfl rfl ?_
      refine X_aload_n (nx := 14) dX4_segmentAt_13 rfl rfl rfl ?_
      refine M_getP (nx := 17) dX4_segmentAt_14 rfl fl_RX4_9 rfl (by first | assumption | rfl | decide | omega) (by first | assumption | rfl | decide | omega) (by first | assumption | rfl | decide | omega) ?_
      refine M_alen (nx := 18) dX4_segmentAt_17 rfl (by first | assumption | rfl | decide | omega) (Or.inl (by first | assumption | rfl | decide | omega)) ?_
      refine X_icmp_ge (tgt := 25) (nx := 21) dX4_segmentAt_18 rfl rfl (fun h18 => ?_) (fun h18 => ?_)
      · exact absurd h18 (nI_ge (by omega) (by omega))
      · skip
        refine X_iconst (v := 1) (nx := 22) dX4_segmentAt_21 rfl rfl ?_
        refine X_goto (tgt := 26) dX4_segmentAt_22 rfl ?_
        refine X_istore_n (i := 2) (nx := 27) dX4_segmentAt_26 rfl rfl (by decide) rfl (st_s (st_s (st_0))) ?_
        refine X_iload_n (nx := 28) dX4_segmentAt_27 rfl rfl rfl ?_
        refine X_if_eq (tgt := 40) (nx := 31) dX4_segmentAt_28 rfl rfl (fun h28 => ?_) (fun h28 => ?_)
        · exact absurd h28 (by decide)
        · skip
          refine X_aload_n (nx := 32) dX4_segmentAt_31 rfl rfl rfl ?_
          refine M_getP (nx := 35) dX4_segmentAt_32 rfl fl_RX4_9 rfl (by first | assumption | rfl | decide | omega) (by first | assumption | rfl | decide | omega) (by first | assumption | rfl | decide | omega) ?_
          refine X_iload_n (nx := 36) dX4_segmentAt_35 rfl rfl rfl ?_
          refine M_iald (nx := 37) dX4_segmentAt_36 rfl (by first | assumption | rfl | decide | omega) (by first | assumption | rfl | decide | omega) (by first | assumption | rfl | decide | omega) ?_
          refine X_top ((congrArg (D (r + 1)) (nI_clamp (by omega))).trans (h.2.2.2.1 k hk)) ?_
          refine X_goto (tgt := 42) dX4_segmentAt_37 rfl ?_
          exact Y_reti dX4_segmentAt_42 (Or.inl rfl) rfl rfl
theorem dX1_isFull_0 : decode cX1_isFull 0 = .ok (.aload_n 0, 1) := by decide +kernel
theorem dX1_isFull_1 : decode cX1_isFull 1 = .ok (.getfield 15, 3) := by decide +kernel
theorem dX1_isFull_4 : decode cX1_isFull 4 = .ok (.iconst 4, 1) := by decide +kernel
theorem dX1_isFull_5 : decode cX1_isFull 5 = .ok (.if_icmp .lt 7, 3) := by decide +kernel
theorem dX1_isFull_8 : decode cX1_isFull 8 = .ok (.iconst 1, 1) := by decide +kernel
theorem dX1_isFull_9 : decode cX1_isFull 9 = .ok (.goto 4, 3) := by decide +kernel
theorem dX1_isFull_12 : decode cX1_isFull 12 = .ok (.iconst 0, 1) := by decide +kernel
theorem dX1_isFull_13 : decode cX1_isFull 13 = .ok (.ireturn, 1) := by decide +kernel
theorem sp_X1_isFull {p : Nat} {l : List Nat} {D : Mem} (hp : isPa p) (h : LET D p l) : Ei 1 j_X1_isFull [.ref p] D (b2i (decide (4 ≤ l.length))) (D) := by
  obtain ⟨q1, q2, q3, q4, q5, q6⟩ := hp.facts
  have hb := h.1
  refine E.start 0 (ls := [some (.ref p)]) (by decide +kernel) (Nat.le_of_ble_eq_true rfl) rfl (Nat.le_refl _) (Nat.le_refl _) ?_
  refine X_aload_n (nx := 1) dX1_isFull_0 rfl rfl rfl ?_
  refine M_getI (nx := 4) dX1_isFull_1 rfl fl_RX1_15 rfl (by first | assumption | rfl | decide | omega) (by first | assumption | rfl | decide | omega) ?_
  refine X_top (h.2.1) ?_
  refine X_iconst (v := 4) (nx := 5) dX1_isFull_4 rfl rfl ?_
  refine X_top ((show (4 : Int32) = nI 4 from rfl)) ?_
  refine X_icmp_lt (tgt := 12) (nx := 8) dX1_isFull_5 rfl rfl (fun h5 => ?_) (fun h5 => ?_)
  · skip
    rw [nI_ltI (by omega) (by omega)] at h5
    refine X_iconst (v := 0) (nx := 13) dX1_isFull_12 rfl rfl ?_
    exact Y_reti dX1_isFull_13 (Or.inr ⟨rfl, by first | exact Or.inl rfl | exact Or.inr rfl | exact b2i_01 _ | assumption⟩) (by first | exact cl_t (by omega) | exact cl_f (by omega)) rfl
  · skip
    rw [nI_ltI (by omega) (by omega)] at h5
    refine X_iconst (v := 1) (nx := 9) dX1_isFull_8 rfl rfl ?_
    refine X_goto (tgt := 13) dX1_isFull_9 rfl ?_
    exact Y_reti dX1_isFull_13 (Or.inr ⟨rfl, by first | exact Or.inl rfl | exact Or.inr rfl | exact b2i_01 _ | assumption⟩) (by first | exact cl_t (by omega) | exact cl_f (by omega)) rfl
theorem dX1_add_0 : decode cX1_add 0 = .ok (.aload_n 0, 1) := by decide +kernel
theorem dX1_add_1 : decode cX1_add 1 = .ok (.invokevirtual 30, 3) := by decide +kernel
theorem dX1_add_4 : decode cX1_add 4 = .ok (.ifCond .ne 25, 3) := by decide +kernel
theorem dX1_add_7 : decode cX1_add 7 = .ok (.aload_n 0, 1) := by decide +kernel
theorem dX1_add_8 : decode cX1_add 8 = .ok (.getfield 9, 3) := by decide +kernel
theorem dX1_add_11 : decode cX1_add 11 = .ok (.aload_n 0, 1) := by decide +kernel
theorem dX1_add_12 : decode cX1_add 12 = .ok (.getfield 15, 3) := by decide +kernel
theorem dX1_add_15 : decode cX1_add 15 = .ok (.iload_n 1, 1) := by decide +kernel
theorem dX1_add_16 : decode cX1_add 16 = .ok (.invokestatic 26, 3) := by decide +kernel
theorem dX1_add_19 : decode cX1_add 19 = .ok (.aload_n 0, 1) := by decide +kernel
theorem dX1_add_20 : decode cX1_add 20 = .ok (.dup, 1) := by decide +kernel
theorem dX1_add_21 : decode cX1_add 21 = .ok (.getfield 15, 3) := by decide +kernel
theorem dX1_add_24 : decode cX1_add 24 = .ok (.iconst 1, 1) := by decide +kernel
theorem dX1_add_25 : decode cX1_add 25 = .ok (.iadd, 1) := by decide +kernel
theorem dX1_add_26 : decode cX1_add 26 = .ok (.putfield 15, 3) := by decide +kernel
theorem dX1_add_29 : decode cX1_add 29 = .ok (.return_, 1) := by decide +kernel
theorem sp_X1_add {p : Nat} {l : List Nat} {v : Int32} {D : Mem} (hp : isPa p) (h : LET D p l) (hl : l.length < 4) : Ev 2 j_X1_add [.ref p, .int v] D (up2 (up2 D (p + 1) l.length v) p 1 (nI (l.length + 1))) := by
  obtain ⟨q1, q2, q3, q4, q5, q6⟩ := hp.facts
  refine E.start 0 (ls := [some (.ref p), some (.int v)]) (by decide +kernel) (Nat.le_of_ble_eq_true rfl) rfl (Nat.le_refl _) (Nat.le_refl _) ?_
  refine X_aload_n (nx := 1) dX1_add_0 rfl rfl rfl ?_
  refine Y_Vi0 (nx := 4) dX1_add_1 rfl ml_RX1_30 kj_X1_isFull kv_X1_isFull (sp_X1_isFull hp h) (by first | assumption | rfl | decide | omega) (by first | assumption | rfl | decide | omega) (by decide) rfl (by first | decide | omega) (by exact Nat.le_of_ble_eq_true rfl) ?_
  refine X_if_ne (tgt := 29) (nx := 7) dX1_add_4 rfl rfl (fun h4 => ?_) (fun h4 => ?_)
  · exact absurd h4 (fun q => q (by rw [decide_eq_false (by omega)]; rfl))
  · skip
    refine X_aload_n (nx := 8) dX1_add_7 rfl rfl rfl ?_
    refine M_getP (nx := 11) dX1_add_8 rfl fl_RX1_9 rfl (by first | assumption | rfl | decide | omega) (by first | assumption | rfl | decide | omega) (by first | assumption | rfl | decide | omega) ?_
    refine X_aload_n (nx := 12) dX1_add_11 rfl rfl rfl ?_
    refine M_getI (nx := 15) dX1_add_12 rfl fl_RX1_15 rfl (by first | assumption | rfl | decide | omega) (by first | assumption | rfl | decide | omega) ?_
    refine X_top (h.2.1) ?_
    refine X_iload_n (nx := 16) dX1_add_15 rfl rfl rfl ?_
    refine Y_Sv3 (nx := 19) dX1_add_16 rfl ml_RX1_26 kj_X7_put ks_X7_put (sp_X7_put (i := l.length) (by assumption) (by assumption) rfl (by omega)) (by first | decide | omega) (by exact Nat.le_of_ble_eq_true rfl) ?_
    refine X_aload_n (nx := 20) dX1_add_19 rfl rfl rfl ?_
    refine X_dup (nx := 21) dX1_add_20 rfl rfl ?_
    refine M_getI (nx := 24) dX1_add_21 rfl fl_RX1_15 rfl (by first | assumption | rfl | decide | omega) (by first | assumption | rfl | decide | omega) ?_
    refine X_top ((up2_other (by omega)).trans h.2.1) ?_
    refine X_iconst (v := 1) (nx := 25) dX1_add_24 rfl rfl ?_
    refine X_iadd (nx := 26) dX1_add_25 rfl ?_
    refine X_top (nI_1 _) ?_
    refine M_putI (nx := 29) dX1_add_26 rfl fl_RX1_15 rfl rfl (by first | assumption | rfl | decide | omega) (by first | assumption | rfl | decide | omega) ?_
    exact Y_retv dX1_add_29 rfl rfl
theorem dX4_isMount_0 : decode cX4_isMount 0 = .ok (.aload_n 0, 1) := by decide +kernel
theorem dX4_isMount_1 : decode cX4_isMount 1 = .ok (.getfield 19, 3) := by decide +kernel
theorem dX4_isMount_4 : decode cX4_isMount 4 = .ok (.ifCond .lt 7, 3) := by decide +kernel
theorem dX4_isMount_7 : decode cX4_isMount 7 = .ok (.iconst 1, 1) := by decide +kernel
theorem dX4_isMount_8 : decode cX4_isMount 8 = .ok (.goto 4, 3) := by decide +kernel
theorem dX4_isMount_11 : decode cX4_isMount 11 = .ok (.iconst 0, 1) := by decide +kernel
theorem dX4_isMount_12 : decode cX4_isMount 12 = .ok (.ireturn, 1) := by decide +kernel
theorem sp_X4_isMount {r : Nat} {D : Mem} (hr : isR r) : Ei 1 j_X4_isMount [.ref r] D (b2i (decide (0 ≤ D r 5))) (D) := by
  obtain ⟨q1, q2, q3, q4, q5, q6⟩ := hr.facts
  refine E.start 0 (ls := [some (.ref r)]) (by decide +kernel) (Nat.le_of_ble_eq_true rfl) rfl (Nat.le_refl _) (Nat.le_refl _) ?_
  refine X_aload_n (nx := 1) dX4_isMount_0 rfl rfl rfl ?_
  refine M_getI (nx := 4) dX4_isMount_1 rfl fl_RX4_19 rfl (by first | assumption | rfl | decide | omega) (by first | assumption | rfl | decide | omega) ?_
  refine X_if_lt (tgt := 11) (nx := 7) dX4_isMount_4 rfl rfl (fun h4 => ?_) (fun h4 => ?_)
  · skip
    refine X_iconst (v := 0) (nx := 12) dX4_isMount_11 rfl rfl ?_
    exact Y_reti dX4_isMount_12 (Or.inr ⟨rfl, by first | exact Or.inl rfl | exact Or.inr rfl | exact b2i_01 _ | assumption⟩) (by first | exact cl_t (ge_of (by assumption)) | exact cl_f (Int32.not_le.mpr (by assumption))) rfl
  · skip
    refine X_iconst (v := 1) (nx := 8) dX4_isMount_7 rfl rfl ?_
    refine X_goto (tgt := 12) dX4_isMount_8 rfl ?_
    exact Y_reti dX4_isMount_12 (Or.inr ⟨rfl, by first | exact Or.inl rfl | exact Or.inr rfl | exact b2i_01 _ | assumption⟩) (by first | exact cl_t (ge_of (by assumption)) | exact cl_f (Int32.not_le.mpr (by assumption))) rfl
theorem dX4_hasRest_0 : decode cX4_hasRest 0 = .ok (.aload_n 0, 1) := by decide +kernel
theorem dX4_hasRest_1 : decode cX4_hasRest 1 = .ok (.getfield 29, 3) := by decide +kernel
theorem dX4_hasRest_4 : decode cX4_hasRest 4 = .ok (.aload_n 0, 1) := by decide +kernel
theorem dX4_hasRest_5 : decode cX4_hasRest 5 = .ok (.getfield 26, 3) := by decide +kernel
theorem dX4_hasRest_8 : decode cX4_hasRest 8 = .ok (.if_icmp .ge 7, 3) := by decide +kernel
theorem dX4_hasRest_11 : decode cX4_hasRest 11 = .ok (.iconst 1, 1) := by decide +kernel
theorem dX4_hasRest_12 : decode cX4_hasRest 12 = .ok (.goto 4, 3) := by decide +kernel
theorem dX4_hasRest_15 : decode cX4_hasRest 15 = .ok (.iconst 0, 1) := by decide +kernel
theorem dX4_hasRest_16 : decode cX4_hasRest 16 = .ok (.ireturn, 1) := by decide +kernel
theorem sp_X4_hasRest {r : Nat} {s : List Nat} {D : Mem} (hr : isR r) (h : SEG D r s) : Ei 1 j_X4_hasRest [.ref r] D (b2i (decide (pl s < s.length))) (D) := by
  obtain ⟨q1, q2, q3, q4, q5, q6⟩ := hr.facts
  have hb := h.1
  have hb2 := pl_le s
  refine E.start 0 (ls := [some (.ref r)]) (by decide +kernel) (Nat.le_of_ble_eq_true rfl) rfl (Nat.le_refl _) (Nat.le_refl _) ?_
  refine X_aload_n (nx := 1) dX4_hasRest_0 rfl rfl rfl ?_
  refine M_getI (nx := 4) dX4_hasRest_1 rfl fl_RX4_29 rfl (by first | assumption | rfl | decide | omega) (by first | assumption | rfl | decide | omega) ?_
  refine X_top (h.2.2.1) ?_
  refine X_aload_n (nx := 5) dX4_hasRest_4 rfl rfl rfl ?_
  refine M_getI (nx := 8) dX4_hasRest_5 rfl fl_RX4_26 rfl (by first | assumption | rfl | decide | omega) (by first | assumption | rfl | decide | omega) ?_
  refine X_top (h.2.1) ?_
  refine X_icmp_ge (tgt := 15) (nx := 11) dX4_hasRest_8 rfl rfl (fun h8 => ?_) (fun h8 => ?_)
  · skip
    rw [nI_leI (by omega) (by omega)] at h8
    refine X_iconst (v := 0) (nx := 16) dX4_hasRest_15 rfl rfl ?_
    exact Y_reti dX4_hasRest_16 (Or.inr ⟨rfl, by first | exact Or.inl rfl | exact Or.inr rfl | exact b2i_01 _ | assumption⟩) (by first | exact cl_t (by omega) | exact cl_f (by omega)) rfl
  · skip
    rw [nI_leI (by omega) (by omega)] at h8
    refine X_iconst (v := 1) (nx := 12) dX4_hasRest_11 rfl rfl ?_
    refine X_goto (tgt := 16) dX4_hasRest_12 rfl ?_
    exact Y_reti dX4_hasRest_16 (Or.inr ⟨rfl, by first | exact Or.inl rfl | exact Or.inr rfl | exact b2i_01 _ | assumption⟩) (by first | exact cl_t (by omega) | exact cl_f (by omega)) rfl
theorem dX4_isFull_0 : decode cX4_isFull 0 = .ok (.aload_n 0, 1) := by decide +kernel
theorem dX4_isFull_1 : decode cX4_isFull 1 = .ok (.getfield 26, 3) := by decide +kernel
theorem dX4_isFull_4 : decode cX4_isFull 4 = .ok (.aload_n 0, 1) := by decide +kernel
theorem dX4_isFull_5 : decode cX4_isFull 5 = .ok (.getfield 9, 3) := by decide +kernel
theorem dX4_isFull_8 : decode cX4_isFull 8 = .ok (.arraylength, 1) := by decide +kernel
theorem dX4_isFull_9 : decode cX4_isFull 9 = .ok (.if_icmp .lt 7, 3) := by decide +kernel
theorem dX4_isFull_12 : decode cX4_isFull 12 = .ok (.iconst 1, 1) := by decide +kernel
theorem dX4_isFull_13 : decode cX4_isFull 13 = .ok (.goto 4, 3) := by decide +kernel
theorem dX4_isFull_16 : decode cX4_isFull 16 = .ok (.iconst 0, 1) := by decide +kernel
theorem dX4_isFull_17 : decode cX4_isFull 17 = .ok (.ireturn, 1) := by decide +kernel
theorem sp_X4_isFull {r : Nat} {s : List Nat} {D : Mem} (hr : isR r) (h : SEG D r s) : Ei 1 j_X4_isFull [.ref r] D (b2i (decide (4 ≤ s.length))) (D) := by
  obtain ⟨q1, q2, q3, q4, q5, q6⟩ := hr.facts
  have hb := h.1
  refine E.start 0 (ls := [some (.ref r)]) (by decide +kernel) (Nat.le_of_ble_eq_true rfl) rfl (Nat.le_refl _) (Nat.le_refl _) ?_
  refine X_aload_n (nx := 1) dX4_isFull_0 rfl rfl rfl ?_
  refine M_getI (nx := 4) dX4_isFull_1 rfl fl_RX4_26 rfl (by first | assumption | rfl | decide | omega) (by first | assumption | rfl | decide | omega) ?_
  refine X_top (h.2.1) ?_
  refine X_aload_n (nx := 5) dX4_isFull_4 rfl rfl rfl ?_
  refine M_getP (nx := 8) dX4_isFull_5 rfl fl_RX4_9 rfl (by first | assumption | rfl | decide | omega) (by first | assumption | rfl | decide | omega) (by first | assumption | rfl | decide | omega) ?_
  refine M_alen (nx := 9) dX4_isFull_8 rfl (by first | assumption | rfl | decide | omega) (Or.inl (by first | assumption | rfl | decide | omega)) ?_
  refine X_icmp_lt (tgt := 16) (nx := 12) dX4_isFull_9 rfl rfl (fun h9 => ?_) (fun h9 => ?_)
  · skip
    rw [q6, nI_ltI (by omega) (by omega)] at h9
    refine X_iconst (v := 0) (nx := 17) dX4_isFull_16 rfl rfl ?_
    exact Y_reti dX4_isFull_17 (Or.inr ⟨rfl, by first | exact Or.inl rfl | exact Or.inr rfl | exact b2i_01 _ | assumption⟩) (by first | exact cl_t (by omega) | exact cl_f (by omega)) rfl
  · skip
    rw [q6, nI_ltI (by omega) (by omega)] at h9
    refine X_iconst (v := 1) (nx := 13) dX4_isFull_12 rfl rfl ?_
    refine X_goto (tgt := 17) dX4_isFull_13 rfl ?_
    exact Y_reti dX4_isFull_17 (Or.inr ⟨rfl, by first | exact Or.inl rfl | exact Or.inr rfl | exact b2i_01 _ | assumption⟩) (by first | exact cl_t (by omega) | exact cl_f (by omega)) rfl
theorem dX4_empty_0 : decode cX4_empty 0 = .ok (.aload_n 0, 1) := by decide +kernel
theorem dX4_empty_1 : decode cX4_empty 1 = .ok (.iconst 0, 1) := by decide +kernel
theorem dX4_empty_2 : decode cX4_empty 2 = .ok (.putfield 26, 3) := by decide +kernel
theorem dX4_empty_5 : decode cX4_empty 5 = .ok (.aload_n 0, 1) := by decide +kernel
theorem dX4_empty_6 : decode cX4_empty 6 = .ok (.iconst 0, 1) := by decide +kernel
theorem dX4_empty_7 : decode cX4_empty 7 = .ok (.putfield 29, 3) := by decide +kernel
theorem dX4_empty_10 : decode cX4_empty 10 = .ok (.return_, 1) := by decide +kernel
theorem sp_X4_empty {r : Nat} {D : Mem} (hr : isR r) : Ev 1 j_X4_empty [.ref r] D (up2 (up2 D r 1 0) r 2 0) := by
  obtain ⟨q1, q2, q3, q4, q5, q6⟩ := hr.facts
  refine E.start 0 (ls := [some (.ref r)]) (by decide +kernel) (Nat.le_of_ble_eq_true rfl) rfl (Nat.le_refl _) (Nat.le_refl _) ?_
  refine X_aload_n (nx := 1) dX4_empty_0 rfl rfl rfl ?_
  refine X_iconst (v := 0) (nx := 2) dX4_empty_1 rfl rfl ?_
  refine M_putI (nx := 5) dX4_empty_2 rfl fl_RX4_26 rfl rfl (by first | assumption | rfl | decide | omega) (by first | assumption | rfl | decide | omega) ?_
  refine X_aload_n (nx := 6) dX4_empty_5 rfl rfl rfl ?_
  refine X_iconst (v := 0) (nx := 7) dX4_empty_6 rfl rfl ?_
  refine M_putI (nx := 10) dX4_empty_7 rfl fl_RX4_29 rfl rfl (by first | assumption | rfl | decide | omega) (by first | assumption | rfl | decide | omega) ?_
  exact Y_retv dX4_empty_10 rfl rfl
theorem dX4_add_0 : decode cX4_add 0 = .ok (.aload_n 0, 1) := by decide +kernel
theorem dX4_add_1 : decode cX4_add 1 = .ok (.invokevirtual 39, 3) := by decide +kernel
theorem dX4_add_4 : decode cX4_add 4 = .ok (.ifCond .ne 45, 3) := by decide +kernel
theorem dX4_add_7 : decode cX4_add 7 = .ok (.aload_n 0, 1) := by decide +kernel
theorem dX4_add_8 : decode cX4_add 8 = .ok (.getfield 9, 3) := by decide +kernel
theorem dX4_add_11 : decode cX4_add 11 = .ok (.aload_n 0, 1) := by decide +kernel
theorem dX4_add_12 : decode cX4_add 12 = .ok (.getfield 26, 3) := by decide +kernel
theorem dX4_add_15 : decode cX4_add 15 = .ok (.iload_n 1, 1) := by decide +kernel
theorem dX4_add_16 : decode cX4_add 16 = .ok (.invokestatic 43, 3) := by decide +kernel
theorem dX4_add_19 : decode cX4_add 19 = .ok (.aload_n 0, 1) := by decide +kernel
theorem dX4_add_20 : decode cX4_add 20 = .ok (.dup, 1) := by decide +kernel
theorem dX4_add_21 : decode cX4_add 21 = .ok (.getfield 26, 3) := by decide +kernel
theorem dX4_add_24 : decode cX4_add 24 = .ok (.iconst 1, 1) := by decide +kernel
theorem dX4_add_25 : decode cX4_add 25 = .ok (.iadd, 1) := by decide +kernel
theorem dX4_add_26 : decode cX4_add 26 = .ok (.putfield 26, 3) := by decide +kernel
theorem dX4_add_29 : decode cX4_add 29 = .ok (.aload_n 0, 1) := by decide +kernel
theorem dX4_add_30 : decode cX4_add 30 = .ok (.dup, 1) := by decide +kernel
theorem dX4_add_31 : decode cX4_add 31 = .ok (.getfield 29, 3) := by decide +kernel
theorem dX4_add_34 : decode cX4_add 34 = .ok (.iload_n 1, 1) := by decide +kernel
theorem dX4_add_35 : decode cX4_add 35 = .ok (.bipush 40, 2) := by decide +kernel
theorem dX4_add_37 : decode cX4_add 37 = .ok (.if_icmp .ne 7, 3) := by decide +kernel
theorem dX4_add_40 : decode cX4_add 40 = .ok (.iconst 0, 1) := by decide +kernel
theorem dX4_add_41 : decode cX4_add 41 = .ok (.goto 4, 3) := by decide +kernel
theorem dX4_add_44 : decode cX4_add 44 = .ok (.iconst 1, 1) := by decide +kernel
theorem dX4_add_45 : decode cX4_add 45 = .ok (.iadd, 1) := by decide +kernel
theorem dX4_add_46 : decode cX4_add 46 = .ok (.putfield 29, 3) := by decide +kernel
theorem dX4_add_49 : decode cX4_add 49 = .ok (.return_, 1) := by decide +kernel
theorem sp_X4_add {r : Nat} {s : List Nat} {v : Int32} {D : Mem} (hr : isR r) (h : SEG D r s) (hl : s.length < 4) : Ev 2 j_X4_add [.ref r, .int v] D (up2 (up2 (up2 D (r + 1) s.length v) r 1 (nI (s.length + 1))) r 2 (if v = 40 then nI (pl s) else nI (pl s + 1))) := by
  obtain ⟨q1, q2, q3, q4, q5, q6⟩ := hr.facts
  refine E.start 0 (ls := [some (.ref r), some (.int v)]) (by decide +kernel) (Nat.le_of_ble_eq_true rfl) rfl (Nat.le_refl _) (Nat.le_refl _) ?_
  refine X_aload_n (nx := 1) dX4_add_0 rfl rfl rfl ?_
  refine Y_Vi0 (nx := 4) dX4_add_1 rfl ml_RX4_39 kj_X4_isFull kv_X4_isFull (sp_X4_isFull hr h) (by first | assumption | rfl | decide | omega) (by first | assumption | rfl | decide | omega) (by decide) rfl (by first | decide | omega) (by exact Nat.le_of_ble_eq_true rfl) ?_
  refine X_if_ne (tgt := 49) (nx := 7) dX4_add_4 rfl rfl (fun h4 => ?_) (fun h4 => ?_)
  · exact absurd h4 (fun q => q (by rw [decide_eq_false (by omega)]; rfl))
  · skip
    refine X_aload_n (nx := 8) dX4_add_7 rfl rfl rfl ?_
    refine M_getP (nx := 11) dX4_add_8 rfl fl_RX4_9 rfl (by first | assumption | rfl | decide | omega) (by first | assumption | rfl | decide | omega) (by first | assumption | rfl | decide | omega) ?_
    refine X_aload_n (nx := 12) dX4_add_11 rfl rfl rfl ?_
    refine M_getI (nx := 15) dX4_add_12 rfl fl_RX4_26 rfl (by first | assumption | rfl | decide | omega) (by first | assumption | rfl | decide | omega) ?_
    refine X_top (h.2.1) ?_
    refine X_iload_n (nx := 16) dX4_add_15 rfl rfl rfl ?_
    refine Y_Sv3 (nx := 19) dX4_add_16 rfl ml_RX4_43 kj_X7_put ks_X7_put (sp_X7_put (i := s.length) (by assumption) (by assumption) rfl (by omega)) (by first | decide | omega) (by exact Nat.le_of_ble_eq_true rfl) ?_
    refine X_aload_n (nx := 20) dX4_add_19 rfl rfl rfl ?_
    refine X_dup (nx := 21) dX4_add_20 rfl rfl ?_
    refine M_getI (nx := 24) dX4_add_21 rfl fl_RX4_26 rfl (by first | assumption | rfl | decide | omega) (by first | assumption | rfl | decide | omega) ?_
    refine X_top ((up2_other (by omega)).trans h.2.1) ?_
    refine X_iconst (v := 1) (nx := 25) dX4_add_24 rfl rfl ?_
    refine X_iadd (nx := 26) dX4_add_25 rfl ?_
    refine X_top (nI_1 _) ?_
    refine M_putI (nx := 29) dX4_add_26 rfl fl_RX4_26 rfl rfl (by first | assumption | rfl | decide | omega) (by first | assumption | rfl | decide | omega) ?_
    refine X_aload_n (nx := 30) dX4_add_29 rfl rfl rfl ?_
    refine X_dup (nx := 31) dX4_add_30 rfl rfl ?_
    refine M_getI (nx := 34) dX4_add_31 rfl fl_RX4_29 rfl (by first | assumption | rfl | decide | omega) (by first | assumption | rfl | decide | omega) ?_
    refine X_top (((up2_other (by omega)).trans (up2_other (by omega))).trans h.2.2.1) ?_
    refine X_iload_n (nx := 35) dX4_add_34 rfl rfl rfl ?_
    refine X_bipush (v := 40) (nx := 37) dX4_add_35 rfl rfl ?_
    refine X_icmp_ne (tgt := 44) (nx := 40) dX4_add_37 rfl rfl (fun h37 => ?_) (fun h37 => ?_)
    · skip
      refine X_iconst (v := 1) (nx := 45) dX4_add_44 rfl rfl ?_
      refine X_iadd (nx := 46) dX4_add_45 rfl ?_
      refine M_putI (nx := 49) dX4_add_46 rfl fl_RX4_29 rfl rfl (by first | assumption | rfl | decide | omega) (by first | assumption | rfl | decide | omega) ?_
      exact Y_retv dX4_add_49 rfl (by first | (rw [if_neg (by assumption), nI_1]; done) | (rw [if_pos (by assumption), Int32.add_zero]; done))
    · skip
      refine X_iconst (v := 0) (nx := 41) dX4_add_40 rfl rfl ?_
      refine X_goto (tgt := 45) dX4_add_41 rfl ?_
      refine X_iadd (nx := 46) dX4_add_45 rfl ?_
      refine M_putI (nx := 49) dX4_add_46 rfl fl_RX4_29 rfl rfl (by first | assumption | rfl | decide | omega) (by first | assumption | rfl | decide | omega) ?_
      exact Y_retv dX4_add_49 rfl (by first | (rw [if_neg (by assumption), nI_1]; done) | (rw [if_pos (by assumption), Int32.add_zero]; done))
/-- the place of the segment with a parameter -/
def plOf (s : List Nat) (p : Nat) (i n : Nat) : Option Nat := fst_ (fun k => decide (10 ≤ s.getD k 0) && decide (s.getD k 0 % 10 = p)) i n
theorem getD_le {s : List Nat} {k b : Nat} (h : ∀ x ∈ s, x ≤ b) : s.getD k 0 ≤ b := by
  rw [List.getD_eq_getElem?_getD]
  cases hk : s[k]? with
  | none => exact Nat.zero_le _
  | some y => exact h y (List.mem_of_getElem? hk)
theorem rem10 {n : Nat} (h : n < 2147483648) : nI n - nI n / 10 * 10 = nI (n % 10) := pk_rem (d := 10) h (by omega) (by omega)
theorem dX4_placeOf_0 : decode cX4_placeOf 0 = .ok (.iconst 0, 1) := by decide +kernel
theorem dX4_placeOf_1 : decode cX4_placeOf 1 = .ok (.istore_n 2, 1) := by decide +kernel
theorem dX4_placeOf_2 : decode cX4_placeOf 2 = .ok (.iload_n 2, 1) := by decide +kernel
theorem dX4_placeOf_3 : decode cX4_placeOf 3 = .ok (.aload_n 0, 1) := by decide +kernel
theorem dX4_placeOf_4 : decode cX4_placeOf 4 = .ok (.getfield 29, 3) := by decide +kernel
theorem dX4_placeOf_7 : decode cX4_placeOf 7 = .ok (.if_icmp .ge 31, 3) := by decide +kernel
theorem dX4_placeOf_10 : decode cX4_placeOf 10 = .ok (.aload_n 0, 1) := by decide +kernel
theorem dX4_placeOf_11 : decode cX4_placeOf 11 = .ok (.iload_n 2, 1) := by decide +kernel
theorem dX4_placeOf_12 : decode cX4_placeOf 12 = .ok (.invokevirtual 47, 3) := by decide +kernel
theorem dX4_placeOf_15 : decode cX4_placeOf 15 = .ok (.istore_n 3, 1) := by decide +kernel
theorem dX4_placeOf_16 : decode cX4_placeOf 16 = .ok (.iload_n 3, 1) := by decide +kernel
theorem dX4_placeOf_17 : decode cX4_placeOf 17 = .ok (.bipush 10, 2) := by decide +kernel
theorem dX4_placeOf_19 : decode cX4_placeOf 19 = .ok (.if_icmp .lt 13, 3) := by decide +kernel
theorem dX4_placeOf_22 : decode cX4_placeOf 22 = .ok (.iload_n 3, 1) := by decide +kernel
theorem dX4_placeOf_23 : decode cX4_placeOf 23 = .ok (.bipush 10, 2) := by decide +kernel
theorem dX4_placeOf_25 : decode cX4_placeOf 25 = .ok (.irem, 1) := by decide +kernel
theorem dX4_placeOf_26 : decode cX4_placeOf 26 = .ok (.iload_n 1, 1) := by decide +kernel
theorem dX4_placeOf_27 : decode cX4_placeOf 27 = .ok (.if_icmp .ne 5, 3) := by decide +kernel
theorem dX4_placeOf_30 : decode cX4_placeOf 30 = .ok (.iload_n 2, 1) := by decide +kernel
theorem dX4_placeOf_31 : decode cX4_placeOf 31 = .ok (.ireturn, 1) := by decide +kernel
theorem dX4_placeOf_32 : decode cX4_placeOf 32 = .ok (.iinc 2 1, 3) := by decide +kernel
theorem dX4_placeOf_35 : decode cX4_placeOf 35 = .ok (.goto (-33), 3) := by decide +kernel
theorem dX4_placeOf_38 : decode cX4_placeOf 38 = .ok (.bipush (-9), 2) := by decide +kernel
theorem dX4_placeOf_40 : decode cX4_placeOf 40 = .ok (.ireturn, 1) := by decide +kernel
theorem lp_X4_placeOf {r p : Nat} {s : List Nat} {D : Mem} (hr : isR r) (h : SEG D r s) (hp : p < 10) : ∀ (m : Nat) (i : Nat) (o : Option Value), i + m = pl s → X 2 138 j_X4_placeOf 2 [some (.ref r), some (.int (nI p)), some (.int (nI i)), o] [] (138, P0, D) (fun r σ => r = [.int (opI (plOf s p i m))] ∧ σ = wd D) := by
  intro m
  induction m with
  | zero =>
    intro i o hi
    obtain ⟨q1, q2, q3, q4, q5, q6⟩ := hr.facts
    have hb := h.1
    have hb2 := pl_le s
    refine X_iload_n (nx := 3) dX4_placeOf_2 rfl rfl rfl ?_
    refine X_aload_n (nx := 4) dX4_placeOf_3 rfl rfl rfl ?_
    refine M_getI (nx := 7) dX4_placeOf_4 rfl fl_RX4_29 rfl (by first | assumption | rfl | decide | omega) (by first | assumption | rfl | decide | omega) ?_
    refine X_top (h.2.2.1) ?_
    refine X_icmp_ge (tgt := 38) (nx := 10) dX4_placeOf_7 rfl rfl (fun h7 => ?_) (fun h7 => ?_)
    · skip
      refine X_bipush (v := -9) (nx := 40) dX4_placeOf_38 rfl rfl ?_
      exact Y_reti dX4_placeOf_40 (Or.inl rfl) rfl rfl
    · exact absurd h7 (fun q => q (nI_le (by omega) (by omega)))
  | succ m ih =>
    intro i o hi
    obtain ⟨q1, q2, q3, q4, q5, q6⟩ := hr.facts
    have hb := h.1
    have hb2 := pl_le s
    have hb3 : s.getD i 0 ≤ 40 := getD_le h.2.2.2.2
    refine X_iload_n (nx := 3) dX4_placeOf_2 rfl rfl rfl ?_
    refine X_aload_n (nx := 4) dX4_placeOf_3 rfl rfl rfl ?_
    refine M_getI (nx := 7) dX4_placeOf_4 rfl fl_RX4_29 rfl (by first | assumption | rfl | decide | omega) (by first | assumption | rfl | decide | omega) ?_
    refine X_top (h.2.2.1) ?_
    refine X_icmp_ge (tgt := 38) (nx := 10) dX4_placeOf_7 rfl rfl (fun h7 => ?_) (fun h7 => ?_)
    · exact absurd h7 (nI_ge (by omega) (by omega))
    · skip
      rw [nI_leI (by omega) (by omega)] at h7
      refine X_aload_n (nx := 11) dX4_placeOf_10 rfl rfl rfl ?_
      refine X_iload_n (nx := 12) dX4_placeOf_11 rfl rfl rfl ?_
      refine Y_Vi1 (nx := 15) dX4_placeOf_12 rfl ml_RX4_47 kj_X4_segmentAt kv_X4_segmentAt (sp_X4_segmentAt hr h rfl (by omega)) (by first | assumption | rfl | decide | omega) (by first | assumption | rfl | decide | omega) (by decide) rfl (by first | decide | omega) (by exact Nat.le_of_ble_eq_true rfl) ?_
      refine X_istore_n (i := 3) (nx := 16) dX4_placeOf_15 rfl rfl (by decide) rfl (st_s (st_s (st_s (st_0)))) ?_
      refine X_iload_n (nx := 17) dX4_placeOf_16 rfl rfl rfl ?_
      refine X_bipush (v := nI 10) (nx := 19) dX4_placeOf_17 rfl rfl ?_
      refine X_icmp_lt (tgt := 32) (nx := 22) dX4_placeOf_19 rfl rfl (fun h19 => ?_) (fun h19 => ?_)
      · skip
        rw [nI_ltI (by omega) (by omega)] at h19
        refine X_iinc (nx := 35) dX4_placeOf_32 rfl (by decide) rfl (by first | exact ii1 _ | rfl) rfl (st_s (st_s (st_0))) ?_
        refine X_goto (tgt := 2) dX4_placeOf_35 rfl ?_
        have hf : plOf s p i (m + 1) = plOf s p (i + 1) m := fst_step (dec_f (by omega))
        rw [hf]
        exact ih (i + 1) _ (by omega)
      · skip
        rw [nI_ltI (by omega) (by omega)] at h19
        refine X_iload_n (nx := 23) dX4_placeOf_22 rfl rfl rfl ?_
        refine X_bipush (v := 10) (nx := 25) dX4_placeOf_23 rfl rfl ?_
        refine X_irem (nx := 26) dX4_placeOf_25 rfl (by decide) ?_
        refine X_top (rem10 (by omega)) ?_
        refine X_iload_n (nx := 27) dX4_placeOf_26 rfl rfl rfl ?_
        refine X_icmp_ne (tgt := 32) (nx := 30) dX4_placeOf_27 rfl rfl (fun h27 => ?_) (fun h27 => ?_)
        · skip
          rw [nI_eq (by omega) (by omega)] at h27
          refine X_iinc (nx := 35) dX4_placeOf_32 rfl (by decide) rfl (by first | exact ii1 _ | rfl) rfl (st_s (st_s (st_0))) ?_
          refine X_goto (tgt := 2) dX4_placeOf_35 rfl ?_
          have hf : plOf s p i (m + 1) = plOf s p (i + 1) m := fst_step (dec_f (by omega))
          rw [hf]
          exact ih (i + 1) _ (by omega)
        · skip
          rw [nI_eq (by omega) (by omega)] at h27
          refine X_iload_n (nx := 31) dX4_placeOf_30 rfl rfl rfl ?_
          exact Y_reti dX4_placeOf_31 (Or.inl rfl) (by unfold plOf; rw [fst_hit (dec_t (by omega))]; rfl) rfl
theorem sp_X4_placeOf {r p : Nat} {s : List Nat} {x : Int32} {D : Mem} (hr : isR r) (h : SEG D r s) (hp : p < 10) (hx : x = nI p) : Ei 2 j_X4_placeOf [.ref r, .int x] D (opI (plOf s p 0 (pl s))) (D) := by
  refine E.start 2 (ls := [some (.ref r), some (.int x), none, none]) (by decide +kernel) (Nat.le_of_ble_eq_true rfl) rfl (Nat.le_refl _) (Nat.le_refl _) ?_
  subst hx
  refine X_iconst (v := 0) (nx := 1) dX4_placeOf_0 rfl rfl ?_
  refine X_istore_n (i := 2) (nx := 2) dX4_placeOf_1 rfl rfl (by decide) rfl (st_s (st_s (st_0))) ?_
  exact lp_X4_placeOf hr h hp (pl s) 0 _ (by omega)
end
section
/-! MASKS as numbers -/
theorem nI_or (a b : Nat) : nI a ||| nI b = nI (a ||| b) := by
  apply Int32.toBitVec_inj.mp
  show BitVec.ofNat 32 a ||| BitVec.ofNat 32 b = BitVec.ofNat 32 (a ||| b)
  exact BitVec.ofNat_or.symm
theorem nI_and (a b : Nat) : nI a &&& nI b = nI (a &&& b) := by
  apply Int32.toBitVec_inj.mp
  show BitVec.ofNat 32 a &&& BitVec.ofNat 32 b = BitVec.ofNat 32 (a &&& b)
  exact BitVec.ofNat_and.symm
theorem nI_xor (a b : Nat) : nI a ^^^ nI b = nI (a ^^^ b) := by
  apply Int32.toBitVec_inj.mp
  show BitVec.ofNat 32 a ^^^ BitVec.ofNat 32 b = BitVec.ofNat 32 (a ^^^ b)
  exact BitVec.ofNat_xor.symm
theorem one_shl : ∀ k, k < 31 → (1 : Int32) <<< (nI k &&& 31) = nI (2 ^ k) := by decide +kernel
theorem shl_k : ∀ k, k < 32 → ((nI k &&& 31).toBitVec.smod 32).toNat = k := by decide +kernel
theorem shr_n {w k : Nat} (hw : w < 2147483648) (hk : k < 32) : nI w >>> (nI k &&& 31) = nI (w / 2 ^ k) := pk_shrN hw _ k (shl_k k hk)
theorem bit_n {w k : Nat} (hw : w < 2147483648) (hk : k < 32) : (nI w >>> (nI k &&& 31)) &&& 1 = nI ((w / 2 ^ k) % 2) := by
  rw [shr_n hw hk]
  exact pk_andN (n := w / 2 ^ k) (Nat.lt_of_le_of_lt (Nat.div_le_self _ _) (by omega)) 1 rfl
theorem tb_mod {w k : Nat} : (w / 2 ^ k) % 2 = if w.testBit k = true then 1 else 0 := by
  rw [Nat.testBit_eq_decide_div_mod_eq]
  by_cases h : w / 2 ^ k % 2 = 1
  · simp [h]
  · have : w / 2 ^ k % 2 = 0 := by omega
    simp [this]
/-- the mask of the first n at which p holds -/
def mkn (p : Nat → Bool) : Nat → Nat
  | 0 => 0
  | n + 1 => if p n = true then mkn p n ||| 2 ^ n else mkn p n
theorem mkn_tb {p : Nat → Bool} {k : Nat} : ∀ n, (mkn p n).testBit k = (decide (k < n) && p k) := by
  intro n
  induction n with
  | zero => simp [mkn]
  | succ n ih =>
    unfold mkn
    split
    · next h =>
      rw [Nat.testBit_or, ih, Nat.testBit_two_pow]
      by_cases hk : n = k
      · subst hk; simp [h]
      · have h1 : decide (k < n + 1) = decide (k < n) := decide_eq_decide.mpr (by omega)
        rw [h1]; simp [hk]
    · next h =>
      rw [ih]
      by_cases hk : n = k
      · subst hk; simp [h]
      · have h1 : decide (k < n + 1) = decide (k < n) := decide_eq_decide.mpr (by omega)
        rw [h1]
theorem lt_of_tb {w n : Nat} (h : ∀ k, n ≤ k → w.testBit k = false) : w < 2 ^ n := Nat.lt_pow_two_of_testBit w h
theorem mkn_lt (p : Nat → Bool) (n : Nat) : mkn p n < 2 ^ n := lt_of_tb fun k hk => by
  rw [mkn_tb, decide_eq_false (by omega)]; rfl
theorem mkn_congr {p q : Nat → Bool} {n : Nat} (h : ∀ k, k < n → p k = q k) : mkn p n = mkn q n := by
  induction n with
  | zero => rfl
  | succ n ih =>
    unfold mkn
    rw [h n (by omega), ih (fun k hk => h k (by omega))]
theorem mkn_0 {p : Nat → Bool} {n : Nat} : mkn p n = 0 ↔ ∀ k, k < n → p k = false := by
  constructor
  · intro h k hk
    have h1 := mkn_tb (p := p) (k := k) n
    rw [h, decide_eq_true hk] at h1
    simpa using h1.symm
  · intro h
    apply Nat.eq_of_testBit_eq
    intro k
    rw [mkn_tb]
    by_cases hk : k < n
    · rw [h k hk]; simp
    · rw [decide_eq_false hk]; simp
theorem tb_eq {a b n : Nat} (ha : a < 2 ^ n) (hb : b < 2 ^ n) (h : ∀ k, k < n → a.testBit k = b.testBit k) : a = b := by
  apply Nat.eq_of_testBit_eq
  intro k
  by_cases hk : k < n
  · exact h k hk
  · rw [Nat.testBit_lt_two_pow (Nat.lt_of_lt_of_le ha (Nat.pow_le_pow_right (by omega) (by omega))), Nat.testBit_lt_two_pow (Nat.lt_of_lt_of_le hb (Nat.pow_le_pow_right (by omega) (by omega)))]
theorem dX7_has_0 : decode cX7_has 0 = .ok (.iload_n 1, 1) := by decide +kernel
theorem dX7_has_1 : decode cX7_has 1 = .ok (.ifCond .lt 21, 3) := by decide +kernel
theorem dX7_has_4 : decode cX7_has 4 = .ok (.iload_n 1, 1) := by decide +kernel
theorem dX7_has_5 : decode cX7_has 5 = .ok (.bipush 32, 2) := by decide +kernel
theorem dX7_has_7 : decode cX7_has 7 = .ok (.if_icmp .ge 15, 3) := by decide +kernel
theorem dX7_has_10 : decode cX7_has 10 = .ok (.iload_n 0, 1) := by decide +kernel
theorem dX7_has_11 : decode cX7_has 11 = .ok (.iload_n 1, 1) := by decide +kernel
theorem dX7_has_12 : decode cX7_has 12 = .ok (.ishr, 1) := by decide +kernel
theorem dX7_has_13 : decode cX7_has 13 = .ok (.iconst 1, 1) := by decide +kernel
theorem dX7_has_14 : decode cX7_has 14 = .ok (.iand, 1) := by decide +kernel
theorem dX7_has_15 : decode cX7_has 15 = .ok (.ifCond .eq 7, 3) := by decide +kernel
theorem dX7_has_18 : decode cX7_has 18 = .ok (.iconst 1, 1) := by decide +kernel
theorem dX7_has_19 : decode cX7_has 19 = .ok (.goto 4, 3) := by decide +kernel
theorem dX7_has_22 : decode cX7_has 22 = .ok (.iconst 0, 1) := by decide +kernel
theorem dX7_has_23 : decode cX7_has 23 = .ok (.ireturn, 1) := by decide +kernel
theorem sp_X7_has {w k : Nat} {x y : Int32} {D : Mem} (hx : x = nI w) (hw : w < 2147483648) (hy : y = nI k) (hk : k < 32) : Ei 1 j_X7_has [.int x, .int y] D (b2i (w.testBit k)) (D) := by
  refine E.start 0 (ls := [some (.int x), some (.int y)]) (by decide +kernel) (Nat.le_of_ble_eq_true rfl) rfl (Nat.le_refl _) (Nat.le_refl _) ?_
  subst hx; subst hy
  have hb := (bit_n hw hk).trans (congrArg nI (tb_mod (w := w) (k := k)))
  refine X_iload_n (nx := 1) dX7_has_0 rfl rfl rfl ?_
  refine X_if_lt (tgt := 22) (nx := 4) dX7_has_1 rfl rfl (fun h1 => ?_) (fun h1 => ?_)
  · exact absurd h1 (nI_neg (by omega))
  · skip
    refine X_iload_n (nx := 5) dX7_has_4 rfl rfl rfl ?_
    refine X_bipush (v := nI 32) (nx := 7) dX7_has_5 rfl rfl ?_
    refine X_icmp_ge (tgt := 22) (nx := 10) dX7_has_7 rfl rfl (fun h7 => ?_) (fun h7 => ?_)
    · exact absurd h7 (nI_ge (by omega) (by omega))
    · skip
      refine X_iload_n (nx := 11) dX7_has_10 rfl rfl rfl ?_
      refine X_iload_n (nx := 12) dX7_has_11 rfl rfl rfl ?_
      refine X_ishr (nx := 13) dX7_has_12 rfl ?_
      refine X_iconst (v := 1) (nx := 14) dX7_has_13 rfl rfl ?_
      refine X_iand (nx := 15) dX7_has_14 rfl ?_
      refine X_top (hb) ?_
      refine X_if_eq (tgt := 22) (nx := 18) dX7_has_15 rfl rfl (fun h15 => ?_) (fun h15 => ?_)
      · skip
        refine X_iconst (v := 0) (nx := 23) dX7_has_22 rfl rfl ?_
        exact Y_reti dX7_has_23 (Or.inr ⟨rfl, by first | exact Or.inl rfl | exact Or.inr rfl | exact b2i_01 _ | assumption⟩) (by cases hq : w.testBit k <;> simp_all [b2i] <;> (revert h15; decide)) rfl
      · skip
        refine X_iconst (v := 1) (nx := 19) dX7_has_18 rfl rfl ?_
        refine X_goto (tgt := 23) dX7_has_19 rfl ?_
        exact Y_reti dX7_has_23 (Or.inr ⟨rfl, by first | exact Or.inl rfl | exact Or.inr rfl | exact b2i_01 _ | assumption⟩) (by cases hq : w.testBit k <;> simp_all [b2i] <;> (revert h15; decide)) rfl
theorem dX7_leastOf_0 : decode cX7_leastOf 0 = .ok (.iconst 0, 1) := by decide +kernel
theorem dX7_leastOf_1 : decode cX7_leastOf 1 = .ok (.istore_n 1, 1) := by decide +kernel
theorem dX7_leastOf_2 : decode cX7_leastOf 2 = .ok (.iload_n 0, 1) := by decide +kernel
theorem dX7_leastOf_3 : decode cX7_leastOf 3 = .ok (.ifCond .eq 25, 3) := by decide +kernel
theorem dX7_leastOf_6 : decode cX7_leastOf 6 = .ok (.iload_n 1, 1) := by decide +kernel
theorem dX7_leastOf_7 : decode cX7_leastOf 7 = .ok (.bipush 10, 2) := by decide +kernel
theorem dX7_leastOf_9 : decode cX7_leastOf 9 = .ok (.if_icmp .ge 19, 3) := by decide +kernel
theorem dX7_leastOf_12 : decode cX7_leastOf 12 = .ok (.iload_n 0, 1) := by decide +kernel
theorem dX7_leastOf_13 : decode cX7_leastOf 13 = .ok (.iload_n 1, 1) := by decide +kernel
theorem dX7_leastOf_14 : decode cX7_leastOf 14 = .ok (.invokestatic 307, 3) := by decide +kernel
theorem dX7_leastOf_17 : decode cX7_leastOf 17 = .ok (.ifCond .eq 5, 3) := by decide +kernel
theorem dX7_leastOf_20 : decode cX7_leastOf 20 = .ok (.iload_n 1, 1) := by decide +kernel
theorem dX7_leastOf_21 : decode cX7_leastOf 21 = .ok (.ireturn, 1) := by decide +kernel
theorem dX7_leastOf_22 : decode cX7_leastOf 22 = .ok (.iinc 1 1, 3) := by decide +kernel
theorem dX7_leastOf_25 : decode cX7_leastOf 25 = .ok (.goto (-23), 3) := by decide +kernel
theorem dX7_leastOf_28 : decode cX7_leastOf 28 = .ok (.bipush (-9), 2) := by decide +kernel
theorem dX7_leastOf_30 : decode cX7_leastOf 30 = .ok (.ireturn, 1) := by decide +kernel
theorem lp_X7_leastOf {w : Nat} {D : Mem} (hw : w < 1024) : ∀ (m : Nat) (i : Nat), i + m = 10 → X 2 138 j_X7_leastOf 2 [some (.int (nI w)), some (.int (nI i))] [] (138, P0, D) (fun r σ => r = [.int (opI (fst_ w.testBit i m))] ∧ σ = wd D) := by
  intro m
  induction m with
  | zero =>
    intro i hi
    have hw2 : w < 2147483648 := by omega
    have hw := hw2
    refine X_iload_n (nx := 3) dX7_leastOf_2 rfl rfl rfl ?_
    refine X_if_eq (tgt := 28) (nx := 6) dX7_leastOf_3 rfl rfl (fun h3 => ?_) (fun h3 => ?_)
    · skip
      refine X_bipush (v := -9) (nx := 30) dX7_leastOf_28 rfl rfl ?_
      exact Y_reti dX7_leastOf_30 (Or.inl rfl) rfl rfl
    · skip
      refine X_iload_n (nx := 7) dX7_leastOf_6 rfl rfl rfl ?_
      refine X_bipush (v := nI 10) (nx := 9) dX7_leastOf_7 rfl rfl ?_
      refine X_icmp_ge (tgt := 28) (nx := 12) dX7_leastOf_9 rfl rfl (fun h9 => ?_) (fun h9 => ?_)
      · skip
        refine X_bipush (v := -9) (nx := 30) dX7_leastOf_28 rfl rfl ?_
        exact Y_reti dX7_leastOf_30 (Or.inl rfl) rfl rfl
      · exact absurd h9 (fun q => q (nI_le (by omega) (by omega)))
  | succ m ih =>
    intro i hi
    have hw2 : w < 2147483648 := by omega
    have hw := hw2
    refine X_iload_n (nx := 3) dX7_leastOf_2 rfl rfl rfl ?_
    refine X_if_eq (tgt := 28) (nx := 6) dX7_leastOf_3 rfl rfl (fun h3 => ?_) (fun h3 => ?_)
    · skip
      refine X_bipush (v := -9) (nx := 30) dX7_leastOf_28 rfl rfl ?_
      exact Y_reti dX7_leastOf_30 (Or.inl rfl) (by rw [fst_intro_none (fun x _ _ => by have h0 : w = 0 := (nI_eq (by omega) (by omega)).mp h3; subst h0; exact Nat.zero_testBit x)]; rfl) rfl
    · skip
      refine X_iload_n (nx := 7) dX7_leastOf_6 rfl rfl rfl ?_
      refine X_bipush (v := nI 10) (nx := 9) dX7_leastOf_7 rfl rfl ?_
      refine X_icmp_ge (tgt := 28) (nx := 12) dX7_leastOf_9 rfl rfl (fun h9 => ?_) (fun h9 => ?_)
      · exact absurd h9 (nI_ge (by omega) (by omega))
      · skip
        refine X_iload_n (nx := 13) dX7_leastOf_12 rfl rfl rfl ?_
        refine X_iload_n (nx := 14) dX7_leastOf_13 rfl rfl rfl ?_
        refine Y_Si2 (nx := 17) dX7_leastOf_14 rfl ml_RX7_307 kj_X7_has ks_X7_has (sp_X7_has (w := w) (k := i) rfl hw rfl (by omega)) (by first | decide | omega) (by exact Nat.le_of_ble_eq_true rfl) ?_
        refine X_if_eq (tgt := 22) (nx := 20) dX7_leastOf_17 rfl rfl (fun h17 => ?_) (fun h17 => ?_)
        · skip
          refine X_iinc (nx := 25) dX7_leastOf_22 rfl (by decide) rfl (by first | exact ii1 _ | rfl) rfl (st_s (st_0)) ?_
          refine X_goto (tgt := 2) dX7_leastOf_25 rfl ?_
          rw [fst_step (b2i_f.mp h17)]
          exact ih (i + 1) (by omega)
        · skip
          refine X_iload_n (nx := 21) dX7_leastOf_20 rfl rfl rfl ?_
          exact Y_reti dX7_leastOf_21 (Or.inl rfl) (by rw [fst_hit (b2i_t.mp h17)]; rfl) rfl
theorem sp_X7_leastOf {w : Nat} {x : Int32} {D : Mem} (hx : x = nI w) (hw : w < 1024) : Ei 2 j_X7_leastOf [.int x] D (opI (fst_ w.testBit 0 10)) (D) := by
  refine E.start 1 (ls := [some (.int x), none]) (by decide +kernel) (Nat.le_of_ble_eq_true rfl) rfl (Nat.le_refl _) (Nat.le_refl _) ?_
  subst hx
  refine X_iconst (v := 0) (nx := 1) dX7_leastOf_0 rfl rfl ?_
  refine X_istore_n (i := 1) (nx := 2) dX7_leastOf_1 rfl rfl (by decide) rfl (st_s (st_0)) ?_
  exact lp_X7_leastOf hw 10 0 rfl
theorem dX7_nextSeed_0 : decode cX7_nextSeed 0 = .ok (.iload_n 0, 1) := by decide +kernel
theorem dX7_nextSeed_1 : decode cX7_nextSeed 1 = .ok (.ldc_w 314, 3) := by decide +kernel
theorem dX7_nextSeed_4 : decode cX7_nextSeed 4 = .ok (.imul, 1) := by decide +kernel
theorem dX7_nextSeed_5 : decode cX7_nextSeed 5 = .ok (.ldc_w 315, 3) := by decide +kernel
theorem dX7_nextSeed_8 : decode cX7_nextSeed 8 = .ok (.iadd, 1) := by decide +kernel
theorem dX7_nextSeed_9 : decode cX7_nextSeed 9 = .ok (.ireturn, 1) := by decide +kernel
theorem sp_X7_nextSeed {x : Int32} {D : Mem} : Ei 1 j_X7_nextSeed [.int x] D (x * 1664525 + 1013904223) (D) := by
  refine E.start 0 (ls := [some (.int x)]) (by decide +kernel) (Nat.le_of_ble_eq_true rfl) rfl (Nat.le_refl _) (Nat.le_refl _) ?_
  refine X_iload_n (nx := 1) dX7_nextSeed_0 rfl rfl rfl ?_
  refine X_ldcw (nx := 4) dX7_nextSeed_1 rfl ct_RX7_314 ?_
  refine X_imul (nx := 5) dX7_nextSeed_4 rfl ?_
  refine X_ldcw (nx := 8) dX7_nextSeed_5 rfl ct_RX7_315 ?_
  refine X_iadd (nx := 9) dX7_nextSeed_8 rfl ?_
  exact Y_reti dX7_nextSeed_9 (Or.inl rfl) rfl rfl
theorem dX7_drawn_0 : decode cX7_drawn 0 = .ok (.iload_n 0, 1) := by decide +kernel
theorem dX7_drawn_1 : decode cX7_drawn 1 = .ok (.ldc_w 316, 3) := by decide +kernel
theorem dX7_drawn_4 : decode cX7_drawn 4 = .ok (.iand, 1) := by decide +kernel
theorem dX7_drawn_5 : decode cX7_drawn 5 = .ok (.sipush 256, 3) := by decide +kernel
theorem dX7_drawn_8 : decode cX7_drawn 8 = .ok (.idiv, 1) := by decide +kernel
theorem dX7_drawn_9 : decode cX7_drawn 9 = .ok (.ireturn, 1) := by decide +kernel
theorem sp_X7_drawn {x : Int32} {D : Mem} : Ei 1 j_X7_drawn [.int x] D ((x &&& 2147483647) / 256) (D) := by
  refine E.start 0 (ls := [some (.int x)]) (by decide +kernel) (Nat.le_of_ble_eq_true rfl) rfl (Nat.le_refl _) (Nat.le_refl _) ?_
  refine X_iload_n (nx := 1) dX7_drawn_0 rfl rfl rfl ?_
  refine X_ldcw (nx := 4) dX7_drawn_1 rfl ct_RX7_316 ?_
  refine X_iand (nx := 5) dX7_drawn_4 rfl ?_
  refine X_sipush (v := 256) (nx := 8) dX7_drawn_5 rfl rfl ?_
  refine X_idiv (nx := 9) dX7_drawn_8 rfl (by decide) ?_
  exact Y_reti dX7_drawn_9 (Or.inl rfl) rfl rfl
theorem dJ6_bitCount_0f7a4_0 : decode cJ6_bitCount_0f7a4 0 = .ok (.iload_n 0, 1) := by decide +kernel
theorem dJ6_bitCount_0f7a4_1 : decode cJ6_bitCount_0f7a4 1 = .ok (.iload_n 0, 1) := by decide +kernel
theorem dJ6_bitCount_0f7a4_2 : decode cJ6_bitCount_0f7a4 2 = .ok (.iconst 1, 1) := by decide +kernel
theorem dJ6_bitCount_0f7a4_3 : decode cJ6_bitCount_0f7a4 3 = .ok (.iushr, 1) := by decide +kernel
theorem dJ6_bitCount_0f7a4_4 : decode cJ6_bitCount_0f7a4 4 = .ok (.ldc_w 265, 3) := by decide +kernel
theorem dJ6_bitCount_0f7a4_7 : decode cJ6_bitCount_0f7a4 7 = .ok (.iand, 1) := by decide +kernel
theorem dJ6_bitCount_0f7a4_8 : decode cJ6_bitCount_0f7a4 8 = .ok (.isub, 1) := by decide +kernel
theorem dJ6_bitCount_0f7a4_9 : decode cJ6_bitCount_0f7a4 9 = .ok (.istore_n 0, 1) := by decide +kernel
theorem dJ6_bitCount_0f7a4_10 : decode cJ6_bitCount_0f7a4 10 = .ok (.iload_n 0, 1) := by decide +kernel
theorem dJ6_bitCount_0f7a4_11 : decode cJ6_bitCount_0f7a4 11 = .ok (.ldc_w 266, 3) := by decide +kernel
theorem dJ6_bitCount_0f7a4_14 : decode cJ6_bitCount_0f7a4 14 = .ok (.iand, 1) := by decide +kernel
theorem dJ6_bitCount_0f7a4_15 : decode cJ6_bitCount_0f7a4 15 = .ok (.iload_n 0, 1) := by decide +kernel
theorem dJ6_bitCount_0f7a4_16 : decode cJ6_bitCount_0f7a4 16 = .ok (.iconst 2, 1) := by decide +kernel
theorem dJ6_bitCount_0f7a4_17 : decode cJ6_bitCount_0f7a4 17 = .ok (.iushr, 1) := by decide +kernel
theorem dJ6_bitCount_0f7a4_18 : decode cJ6_bitCount_0f7a4 18 = .ok (.ldc_w 266, 3) := by decide +kernel
theorem dJ6_bitCount_0f7a4_21 : decode cJ6_bitCount_0f7a4 21 = .ok (.iand, 1) := by decide +kernel
theorem dJ6_bitCount_0f7a4_22 : decode cJ6_bitCount_0f7a4 22 = .ok (.iadd, 1) := by decide +kernel
theorem dJ6_bitCount_0f7a4_23 : decode cJ6_bitCount_0f7a4 23 = .ok (.istore_n 0, 1) := by decide +kernel
theorem dJ6_bitCount_0f7a4_24 : decode cJ6_bitCount_0f7a4 24 = .ok (.iload_n 0, 1) := by decide +kernel
theorem dJ6_bitCount_0f7a4_25 : decode cJ6_bitCount_0f7a4 25 = .ok (.iload_n 0, 1) := by decide +kernel
theorem dJ6_bitCount_0f7a4_26 : decode cJ6_bitCount_0f7a4 26 = .ok (.iconst 4, 1) := by decide +kernel
theorem dJ6_bitCount_0f7a4_27 : decode cJ6_bitCount_0f7a4 27 = .ok (.iushr, 1) := by decide +kernel
theorem dJ6_bitCount_0f7a4_28 : decode cJ6_bitCount_0f7a4 28 = .ok (.iadd, 1) := by decide +kernel
theorem dJ6_bitCount_0f7a4_29 : decode cJ6_bitCount_0f7a4 29 = .ok (.ldc_w 267, 3) := by decide +kernel
theorem dJ6_bitCount_0f7a4_32 : decode cJ6_bitCount_0f7a4 32 = .ok (.iand, 1) := by decide +kernel
theorem dJ6_bitCount_0f7a4_33 : decode cJ6_bitCount_0f7a4 33 = .ok (.istore_n 0, 1) := by decide +kernel
theorem dJ6_bitCount_0f7a4_34 : decode cJ6_bitCount_0f7a4 34 = .ok (.iload_n 0, 1) := by decide +kernel
theorem dJ6_bitCount_0f7a4_35 : decode cJ6_bitCount_0f7a4 35 = .ok (.iload_n 0, 1) := by decide +kernel
theorem dJ6_bitCount_0f7a4_36 : decode cJ6_bitCount_0f7a4 36 = .ok (.bipush 8, 2) := by decide +kernel
theorem dJ6_bitCount_0f7a4_38 : decode cJ6_bitCount_0f7a4 38 = .ok (.iushr, 1) := by decide +kernel
theorem dJ6_bitCount_0f7a4_39 : decode cJ6_bitCount_0f7a4 39 = .ok (.iadd, 1) := by decide +kernel
theorem dJ6_bitCount_0f7a4_40 : decode cJ6_bitCount_0f7a4 40 = .ok (.istore_n 0, 1) := by decide +kernel
theorem dJ6_bitCount_0f7a4_41 : decode cJ6_bitCount_0f7a4 41 = .ok (.iload_n 0, 1) := by decide +kernel
theorem dJ6_bitCount_0f7a4_42 : decode cJ6_bitCount_0f7a4 42 = .ok (.iload_n 0, 1) := by decide +kernel
theorem dJ6_bitCount_0f7a4_43 : decode cJ6_bitCount_0f7a4 43 = .ok (.bipush 16, 2) := by decide +kernel
theorem dJ6_bitCount_0f7a4_45 : decode cJ6_bitCount_0f7a4 45 = .ok (.iushr, 1) := by decide +kernel
theorem dJ6_bitCount_0f7a4_46 : decode cJ6_bitCount_0f7a4 46 = .ok (.iadd, 1) := by decide +kernel
theorem dJ6_bitCount_0f7a4_47 : decode cJ6_bitCount_0f7a4 47 = .ok (.istore_n 0, 1) := by decide +kernel
theorem dJ6_bitCount_0f7a4_48 : decode cJ6_bitCount_0f7a4 48 = .ok (.iload_n 0, 1) := by decide +kernel
theorem dJ6_bitCount_0f7a4_49 : decode cJ6_bitCount_0f7a4 49 = .ok (.bipush 63, 2) := by decide +kernel
theorem dJ6_bitCount_0f7a4_51 : decode cJ6_bitCount_0f7a4 51 = .ok (.iand, 1) := by decide +kernel
theorem dJ6_bitCount_0f7a4_52 : decode cJ6_bitCount_0f7a4 52 = .ok (.ireturn, 1) := by decide +kernel
def bc1 (x : Int32) : Int32 := x - ((x.toUInt32 >>> ((1 : Int32).toUInt32 &&& Int32.toUInt32 31)).toInt32 &&& 1431655765)
def bc2 (x : Int32) : Int32 := (x &&& 858993459) + ((x.toUInt32 >>> ((2 : Int32).toUInt32 &&& Int32.toUInt32 31)).toInt32 &&& 858993459)
def bc3 (x : Int32) : Int32 := (x + (x.toUInt32 >>> ((4 : Int32).toUInt32 &&& Int32.toUInt32 31)).toInt32) &&& 252645135
def bc4 (x : Int32) : Int32 := x + (x.toUInt32 >>> ((8 : Int32).toUInt32 &&& Int32.toUInt32 31)).toInt32
def bc5 (x : Int32) : Int32 := x + (x.toUInt32 >>> ((16 : Int32).toUInt32 &&& Int32.toUInt32 31)).toInt32
/-- how many bits, of ten -/
def pop (w : Nat) : Nat := ((List.range 10).filter (fun k => w.testBit k)).length
theorem bc_all : ∀ w, w < 1024 → (bc5 (bc4 (bc3 (bc2 (bc1 (nI w))))) &&& 63) = nI (pop w) := by decide +kernel
theorem sp_J6_bitCount_0f7a4 {w : Nat} {x : Int32} {D : Mem} (hx : x = nI w) (hw : w < 1024) : Ei 1 j_J6_bitCount_0f7a4 [.int x] D (nI (pop w)) (D) := by
  refine E.start 0 (ls := [some (.int x)]) (by decide +kernel) (Nat.le_of_ble_eq_true rfl) rfl (Nat.le_refl _) (Nat.le_refl _) ?_
  subst hx
  refine X_iload_n (nx := 1) dJ6_bitCount_0f7a4_0 rfl rfl rfl ?_
  refine X_iload_n (nx := 2) dJ6_bitCount_0f7a4_1 rfl rfl rfl ?_
  refine X_iconst (v := 1) (nx := 3) dJ6_bitCount_0f7a4_2 rfl rfl ?_
  refine X_iushr (nx := 4) dJ6_bitCount_0f7a4_3 rfl rfl ?_
  refine X_ldcw (nx := 7) dJ6_bitCount_0f7a4_4 rfl ct_RJ6_265 ?_
  refine X_iand (nx := 8) dJ6_bitCount_0f7a4_7 rfl ?_
  refine X_isub (nx := 9) dJ6_bitCount_0f7a4_8 rfl ?_
  refine X_istore_n (i := 0) (nx := 10) dJ6_bitCount_0f7a4_9 rfl rfl (by decide) rfl (st_0) ?_
  refine X_iload_n (nx := 11) dJ6_bitCount_0f7a4_10 rfl rfl rfl ?_
  refine X_ldcw (nx := 14) dJ6_bitCount_0f7a4_11 rfl ct_RJ6_266 ?_
  refine X_iand (nx := 15) dJ6_bitCount_0f7a4_14 rfl ?_
  refine X_iload_n (nx := 16) dJ6_bitCount_0f7a4_15 rfl rfl rfl ?_
  refine X_iconst (v := 2) (nx := 17) dJ6_bitCount_0f7a4_16 rfl rfl ?_
  refine X_iushr (nx := 18) dJ6_bitCount_0f7a4_17 rfl rfl ?_
  refine X_ldcw (nx := 21) dJ6_bitCount_0f7a4_18 rfl ct_RJ6_266 ?_
  refine X_iand (nx := 22) dJ6_bitCount_0f7a4_21 rfl ?_
  refine X_iadd (nx := 23) dJ6_bitCount_0f7a4_22 rfl ?_
  refine X_istore_n (i := 0) (nx := 24) dJ6_bitCount_0f7a4_23 rfl rfl (by decide) rfl (st_0) ?_
  refine X_iload_n (nx := 25) dJ6_bitCount_0f7a4_24 rfl rfl rfl ?_
  refine X_iload_n (nx := 26) dJ6_bitCount_0f7a4_25 rfl rfl rfl ?_
  refine X_iconst (v := 4) (nx := 27) dJ6_bitCount_0f7a4_26 rfl rfl ?_
  refine X_iushr (nx := 28) dJ6_bitCount_0f7a4_27 rfl rfl ?_
  refine X_iadd (nx := 29) dJ6_bitCount_0f7a4_28 rfl ?_
  refine X_ldcw (nx := 32) dJ6_bitCount_0f7a4_29 rfl ct_RJ6_267 ?_
  refine X_iand (nx := 33) dJ6_bitCount_0f7a4_32 rfl ?_
  refine X_istore_n (i := 0) (nx := 34) dJ6_bitCount_0f7a4_33 rfl rfl (by decide) rfl (st_0) ?_
  refine X_iload_n (nx := 35) dJ6_bitCount_0f7a4_34 rfl rfl rfl ?_
  refine X_iload_n (nx := 36) dJ6_bitCount_0f7a4_35 rfl rfl rfl ?_
  refine X_bipush (v := 8) (nx := 38) dJ6_bitCount_0f7a4_36 rfl rfl ?_
  refine X_iushr (nx := 39) dJ6_bitCount_0f7a4_38 rfl rfl ?_
  refine X_iadd (nx := 40) dJ6_bitCount_0f7a4_39 rfl ?_
  refine X_istore_n (i := 0) (nx := 41) dJ6_bitCount_0f7a4_40 rfl rfl (by decide) rfl (st_0) ?_
  refine X_iload_n (nx := 42) dJ6_bitCount_0f7a4_41 rfl rfl rfl ?_
  refine X_iload_n (nx := 43) dJ6_bitCount_0f7a4_42 rfl rfl rfl ?_
  refine X_bipush (v := 16) (nx := 45) dJ6_bitCount_0f7a4_43 rfl rfl ?_
  refine X_iushr (nx := 46) dJ6_bitCount_0f7a4_45 rfl rfl ?_
  refine X_iadd (nx := 47) dJ6_bitCount_0f7a4_46 rfl ?_
  refine X_istore_n (i := 0) (nx := 48) dJ6_bitCount_0f7a4_47 rfl rfl (by decide) rfl (st_0) ?_
  refine X_iload_n (nx := 49) dJ6_bitCount_0f7a4_48 rfl rfl rfl ?_
  refine X_bipush (v := 63) (nx := 51) dJ6_bitCount_0f7a4_49 rfl rfl ?_
  refine X_iand (nx := 52) dJ6_bitCount_0f7a4_51 rfl ?_
  exact Y_reti dJ6_bitCount_0f7a4_52 (Or.inl rfl) (bc_all w hw) rfl
end
section
/-! ROUTES, PATHS, BOOKS of the class -/
theorem ior_step {p : Nat → Bool} {i : Nat} (h : p i = true) (hi : i < 31) : nI (mkn p i) ||| (1 : Int32) <<< (nI i &&& 31) = nI (mkn p (i + 1)) := by
  rw [one_shl i hi, nI_or]
  show _ = nI (if p i = true then _ else _)
  rw [if_pos h]
theorem ior_skip {p : Nat → Bool} {i : Nat} (h : p i = false) : mkn p i = mkn p (i + 1) := by
  show _ = if p i = true then _ else _
  rw [if_neg (by rw [h]; decide)]
theorem opI_lt {o : Option Nat} (h : opI o < 0) (hb : ∀ k, o = some k → k < 2147483648) : o = none := by
  cases o with
  | none => rfl
  | some k => exact absurd h (nI_neg (hb k rfl))
theorem opI_ge {o : Option Nat} (h : ¬ opI o < 0) : o.isSome = true := by
  cases o with
  | none => exact absurd (by decide) h
  | some k => rfl
theorem dX4_parameterBits_0 : decode cX4_parameterBits 0 = .ok (.iconst 0, 1) := by decide +kernel
theorem dX4_parameterBits_1 : decode cX4_parameterBits 1 = .ok (.istore_n 1, 1) := by decide +kernel
theorem dX4_parameterBits_2 : decode cX4_parameterBits 2 = .ok (.iconst 0, 1) := by decide +kernel
theorem dX4_parameterBits_3 : decode cX4_parameterBits 3 = .ok (.istore_n 2, 1) := by decide +kernel
theorem dX4_parameterBits_4 : decode cX4_parameterBits 4 = .ok (.iload_n 2, 1) := by decide +kernel
theorem dX4_parameterBits_5 : decode cX4_parameterBits 5 = .ok (.iconst 4, 1) := by decide +kernel
theorem dX4_parameterBits_6 : decode cX4_parameterBits 6 = .ok (.if_icmp .ge 23, 3) := by decide +kernel
theorem dX4_parameterBits_9 : decode cX4_parameterBits 9 = .ok (.aload_n 0, 1) := by decide +kernel
theorem dX4_parameterBits_10 : decode cX4_parameterBits 10 = .ok (.iload_n 2, 1) := by decide +kernel
theorem dX4_parameterBits_11 : decode cX4_parameterBits 11 = .ok (.invokevirtual 51, 3) := by decide +kernel
theorem dX4_parameterBits_14 : decode cX4_parameterBits 14 = .ok (.ifCond .lt 9, 3) := by decide +kernel
theorem dX4_parameterBits_17 : decode cX4_parameterBits 17 = .ok (.iload_n 1, 1) := by decide +kernel
theorem dX4_parameterBits_18 : decode cX4_parameterBits 18 = .ok (.iconst 1, 1) := by decide +kernel
theorem dX4_parameterBits_19 : decode cX4_parameterBits 19 = .ok (.iload_n 2, 1) := by decide +kernel
theorem dX4_parameterBits_20 : decode cX4_parameterBits 20 = .ok (.ishl, 1) := by decide +kernel
theorem dX4_parameterBits_21 : decode cX4_parameterBits 21 = .ok (.ior, 1) := by decide +kernel
theorem dX4_parameterBits_22 : decode cX4_parameterBits 22 = .ok (.istore_n 1, 1) := by decide +kernel
theorem dX4_parameterBits_23 : decode cX4_parameterBits 23 = .ok (.iinc 2 1, 3) := by decide +kernel
theorem dX4_parameterBits_26 : decode cX4_parameterBits 26 = .ok (.goto (-22), 3) := by decide +kernel
theorem dX4_parameterBits_29 : decode cX4_parameterBits 29 = .ok (.iload_n 1, 1) := by decide +kernel
theorem dX4_parameterBits_30 : decode cX4_parameterBits 30 = .ok (.ireturn, 1) := by decide +kernel
theorem lp_X4_parameterBits {r : Nat} {s : List Nat} {D : Mem} (hr : isR r) (h : SEG D r s) : ∀ (m : Nat) (i : Nat), i + m = 4 → X 3 138 j_X4_parameterBits 4 [some (.ref r), some (.int (nI (mkn (fun k => (plOf s k 0 (pl s)).isSome) i))), some (.int (nI i))] [] (138, P0, D) (fun r σ => r = [.int (nI (mkn (fun k => (plOf s k 0 (pl s)).isSome) 4))] ∧ σ = wd D) := by
  intro m
  induction m with
  | zero =>
    intro i hi
    obtain ⟨q1, q2, q3, q4, q5, q6⟩ := hr.facts
    refine X_iload_n (nx := 5) dX4_parameterBits_4 rfl rfl rfl ?_
    refine X_iconst (v := nI 4) (nx := 6) dX4_parameterBits_5 rfl rfl ?_
    refine X_icmp_ge (tgt := 29) (nx := 9) dX4_parameterBits_6 rfl rfl (fun h6 => ?_) (fun h6 => ?_)
    · skip
      refine X_iload_n (nx := 30) dX4_parameterBits_29 rfl rfl rfl ?_
      exact Y_reti dX4_parameterBits_30 (Or.inl rfl) (by rw [show i = 4 by omega]) rfl
    · exact absurd h6 (fun q => q (nI_le (by omega) (by omega)))
  | succ m ih =>
    intro i hi
    obtain ⟨q1, q2, q3, q4, q5, q6⟩ := hr.facts
    refine X_iload_n (nx := 5) dX4_parameterBits_4 rfl rfl rfl ?_
    refine X_iconst (v := nI 4) (nx := 6) dX4_parameterBits_5 rfl rfl ?_
    refine X_icmp_ge (tgt := 29) (nx := 9) dX4_parameterBits_6 rfl rfl (fun h6 => ?_) (fun h6 => ?_)
    · exact absurd h6 (nI_ge (by omega) (by omega))
    · skip
      refine X_aload_n (nx := 10) dX4_parameterBits_9 rfl rfl rfl ?_
      refine X_iload_n (nx := 11) dX4_parameterBits_10 rfl rfl rfl ?_
      refine Y_Vi1 (nx := 14) dX4_parameterBits_11 rfl ml_RX4_51 kj_X4_placeOf kv_X4_placeOf (sp_X4_placeOf hr h (p := i) (by omega) rfl) (by first | assumption | rfl | decide | omega) (by first | assumption | rfl | decide | omega) (by decide) rfl (by first | decide | omega) (by exact Nat.le_of_ble_eq_true rfl) ?_
      refine X_if_lt (tgt := 23) (nx := 17) dX4_parameterBits_14 rfl rfl (fun h14 => ?_) (fun h14 => ?_)
      · skip
        have hn := opI_lt h14 (fun k hk => by have := (fst_some hk).2.1; have := pl_le s; have := h.1; omega)
        have hsk : mkn (fun k => (plOf s k 0 (pl s)).isSome) i = mkn (fun k => (plOf s k 0 (pl s)).isSome) (i + 1) := ior_skip (p := (fun k => (plOf s k 0 (pl s)).isSome)) (by show (plOf s i 0 (pl s)).isSome = false; rw [hn]; rfl)
        rw [hsk]
        refine X_iinc (nx := 26) dX4_parameterBits_23 rfl (by decide) rfl (by first | exact ii1 _ | rfl) rfl (st_s (st_s (st_0))) ?_
        refine X_goto (tgt := 4) dX4_parameterBits_26 rfl ?_
        exact ih (i + 1) (by omega)
      · skip
        refine X_iload_n (nx := 18) dX4_parameterBits_17 rfl rfl rfl ?_
        refine X_iconst (v := 1) (nx := 19) dX4_parameterBits_18 rfl rfl ?_
        refine X_iload_n (nx := 20) dX4_parameterBits_19 rfl rfl rfl ?_
        refine X_ishl (nx := 21) dX4_parameterBits_20 rfl ?_
        refine X_ior (nx := 22) dX4_parameterBits_21 rfl ?_
        refine X_top (ior_step (p := (fun k => (plOf s k 0 (pl s)).isSome)) (opI_ge h14) (by omega)) ?_
        refine X_istore_n (i := 1) (nx := 23) dX4_parameterBits_22 rfl rfl (by decide) rfl (st_s (st_0)) ?_
        refine X_iinc (nx := 26) dX4_parameterBits_23 rfl (by decide) rfl (by first | exact ii1 _ | rfl) rfl (st_s (st_s (st_0))) ?_
        refine X_goto (tgt := 4) dX4_parameterBits_26 rfl ?_
        exact ih (i + 1) (by omega)
theorem sp_X4_parameterBits {r : Nat} {s : List Nat} {D : Mem} (hr : isR r) (h : SEG D r s) : Ei 3 j_X4_parameterBits [.ref r] D (nI (mkn (fun k => (plOf s k 0 (pl s)).isSome) 4)) (D) := by
  refine E.start 2 (ls := [some (.ref r), none, none]) (by decide +kernel) (Nat.le_of_ble_eq_true rfl) rfl (Nat.le_refl _) (Nat.le_refl _) ?_
  refine X_iconst (v := 0) (nx := 1) dX4_parameterBits_0 rfl rfl ?_
  refine X_istore_n (i := 1) (nx := 2) dX4_parameterBits_1 rfl rfl (by decide) rfl (st_s (st_0)) ?_
  refine X_iconst (v := 0) (nx := 3) dX4_parameterBits_2 rfl rfl ?_
  refine X_istore_n (i := 2) (nx := 4) dX4_parameterBits_3 rfl rfl (by decide) rfl (st_s (st_s (st_0))) ?_
  exact lp_X4_parameterBits hr h 4 0 rfl
theorem seg10 {s : Nat} (h : s ≤ 40) : nI s / 10 * 10 = nI (s / 10 * 10) := by
  rw [show (nI s / 10 : Int32) = nI (s / 10) from pk_div (d := 10) (by omega) (by omega) (by omega)]
  exact pk_mul (s / 10) 10
/-- a segment that can be: a letter, or with a parameter, or REST -/
def sgv (s : Nat) : Prop := s < 4 ∨ (10 ≤ s ∧ s < 14) ∨ (20 ≤ s ∧ s < 24) ∨ (30 ≤ s ∧ s < 34) ∨ s = 40
theorem sgv_le {s : Nat} (h : sgv s) : s ≤ 40 := by unfold sgv at h; omega
/-- whether a segment of a type takes a letter -/
def fitT (t l : Nat) : Bool := if t < 4 then decide (t = l) else decide (t = 6) || decide (t = if l < 2 then 4 else 5)
theorem fitT_1 {s l : Nat} (h : s < 4) : fitT (typ s) l = decide (s = l) := by
  unfold fitT typ
  rw [if_pos (show s < 10 by omega), if_pos h]
theorem fitT_2 {s l : Nat} (h : 10 ≤ s ∧ s < 14) : fitT (typ s) l = decide (l < 2) := by
  unfold fitT typ
  rw [if_neg (show ¬ s < 10 by omega), show s / 10 = 1 by omega]
  by_cases hl : l < 2 <;> simp [hl]
theorem fitT_3 {s l : Nat} (h : 20 ≤ s ∧ s < 24) : fitT (typ s) l = decide (2 ≤ l) := by
  unfold fitT typ
  rw [if_neg (show ¬ s < 10 by omega), show s / 10 = 2 by omega]
  by_cases hl : l < 2
  · rw [if_pos hl]; simp; omega
  · rw [if_neg hl]; simp; omega
theorem fitT_4 {s l : Nat} (h : 30 ≤ s ∧ s < 34) : fitT (typ s) l = true := by
  unfold fitT typ
  rw [if_neg (show ¬ s < 10 by omega), show s / 10 = 3 by omega]
  simp
theorem fitT_5 {s l : Nat} (h : s = 40) : fitT (typ s) l = false := by
  subst h
  unfold fitT typ
  by_cases hl : l < 2 <;> simp [hl]
theorem i_eq {x y : Int32} {p : Bool} (h : p = true) (he : x = y) (hy : y = 1) : x = b2i p := by rw [h, he, hy]; rfl
theorem dX5_edgeOf_0 : decode cX5_edgeOf 0 = .ok (.iload_n 0, 1) := by decide +kernel
theorem dX5_edgeOf_1 : decode cX5_edgeOf 1 = .ok (.bipush 10, 2) := by decide +kernel
theorem dX5_edgeOf_3 : decode cX5_edgeOf 3 = .ok (.idiv, 1) := by decide +kernel
theorem dX5_edgeOf_4 : decode cX5_edgeOf 4 = .ok (.bipush 10, 2) := by decide +kernel
theorem dX5_edgeOf_6 : decode cX5_edgeOf 6 = .ok (.imul, 1) := by decide +kernel
theorem dX5_edgeOf_7 : decode cX5_edgeOf 7 = .ok (.lookupswitch 39 #[(0, 33), (10, 35), (20, 37)], 33) := by decide +kernel
theorem dX5_edgeOf_40 : decode cX5_edgeOf 40 = .ok (.iload_n 0, 1) := by decide +kernel
theorem dX5_edgeOf_41 : decode cX5_edgeOf 41 = .ok (.ireturn, 1) := by decide +kernel
theorem dX5_edgeOf_42 : decode cX5_edgeOf 42 = .ok (.iconst 4, 1) := by decide +kernel
theorem dX5_edgeOf_43 : decode cX5_edgeOf 43 = .ok (.ireturn, 1) := by decide +kernel
theorem dX5_edgeOf_44 : decode cX5_edgeOf 44 = .ok (.iconst 5, 1) := by decide +kernel
theorem dX5_edgeOf_45 : decode cX5_edgeOf 45 = .ok (.ireturn, 1) := by decide +kernel
theorem dX5_edgeOf_46 : decode cX5_edgeOf 46 = .ok (.bipush 6, 2) := by decide +kernel
theorem dX5_edgeOf_48 : decode cX5_edgeOf 48 = .ok (.ireturn, 1) := by decide +kernel
theorem sp_X5_edgeOf {s : Nat} {x : Int32} {D : Mem} (hx : x = nI s) (hs : sgv s) (h4 : s ≠ 40) : Ei 1 j_X5_edgeOf [.int x] D (nI (typ s)) (D) := by
  refine E.start 0 (ls := [some (.int x)]) (by decide +kernel) (Nat.le_of_ble_eq_true rfl) rfl (Nat.le_refl _) (Nat.le_refl _) ?_
  subst hx
  have hle := sgv_le hs
  refine X_iload_n (nx := 1) dX5_edgeOf_0 rfl rfl rfl ?_
  refine X_bipush (v := 10) (nx := 3) dX5_edgeOf_1 rfl rfl ?_
  refine X_idiv (nx := 4) dX5_edgeOf_3 rfl (by decide) ?_
  refine X_bipush (v := 10) (nx := 6) dX5_edgeOf_4 rfl rfl ?_
  refine X_imul (nx := 7) dX5_edgeOf_6 rfl ?_
  refine X_top (seg10 hle) ?_
  rcases hs with hs | hs | hs | hs | hs
  · skip
    refine X_top (y := 0) (congrArg nI (show s / 10 * 10 = 0 by omega)) ?_
    refine X_lookup (tgt := 40) (off := 33) dX5_edgeOf_7 (by decide) (by decide) rfl ?_
    refine X_iload_n (nx := 41) dX5_edgeOf_40 rfl rfl rfl ?_
    exact Y_reti dX5_edgeOf_41 (Or.inl rfl) (by first | exact congrArg nI (show s = typ s by unfold typ; rw [if_pos (by omega)]) | exact congrArg nI (show 4 = typ s by unfold typ; rw [if_neg (by omega)]; omega) | exact congrArg nI (show 5 = typ s by unfold typ; rw [if_neg (by omega)]; omega) | exact congrArg nI (show 6 = typ s by unfold typ; rw [if_neg (by omega)]; omega) | exact absurd hs h4) rfl
  · skip
    refine X_top (y := 10) (congrArg nI (show s / 10 * 10 = 10 by omega)) ?_
    refine X_lookup (tgt := 42) (off := 35) dX5_edgeOf_7 (by decide) (by decide) rfl ?_
    refine X_iconst (v := 4) (nx := 43) dX5_edgeOf_42 rfl rfl ?_
    exact Y_reti dX5_edgeOf_43 (Or.inl rfl) (by first | exact congrArg nI (show s = typ s by unfold typ; rw [if_pos (by omega)]) | exact congrArg nI (show 4 = typ s by unfold typ; rw [if_neg (by omega)]; omega) | exact congrArg nI (show 5 = typ s by unfold typ; rw [if_neg (by omega)]; omega) | exact congrArg nI (show 6 = typ s by unfold typ; rw [if_neg (by omega)]; omega) | exact absurd hs h4) rfl
  · skip
    refine X_top (y := 20) (congrArg nI (show s / 10 * 10 = 20 by omega)) ?_
    refine X_lookup (tgt := 44) (off := 37) dX5_edgeOf_7 (by decide) (by decide) rfl ?_
    refine X_iconst (v := 5) (nx := 45) dX5_edgeOf_44 rfl rfl ?_
    exact Y_reti dX5_edgeOf_45 (Or.inl rfl) (by first | exact congrArg nI (show s = typ s by unfold typ; rw [if_pos (by omega)]) | exact congrArg nI (show 4 = typ s by unfold typ; rw [if_neg (by omega)]; omega) | exact congrArg nI (show 5 = typ s by unfold typ; rw [if_neg (by omega)]; omega) | exact congrArg nI (show 6 = typ s by unfold typ; rw [if_neg (by omega)]; omega) | exact absurd hs h4) rfl
  · skip
    refine X_top (y := 30) (congrArg nI (show s / 10 * 10 = 30 by omega)) ?_
    refine X_lookup (tgt := 46) (off := 39) dX5_edgeOf_7 (by decide) (by decide) rfl ?_
    refine X_bipush (v := 6) (nx := 48) dX5_edgeOf_46 rfl rfl ?_
    exact Y_reti dX5_edgeOf_48 (Or.inl rfl) (by first | exact congrArg nI (show s = typ s by unfold typ; rw [if_pos (by omega)]) | exact congrArg nI (show 4 = typ s by unfold typ; rw [if_neg (by omega)]; omega) | exact congrArg nI (show 5 = typ s by unfold typ; rw [if_neg (by omega)]; omega) | exact congrArg nI (show 6 = typ s by unfold typ; rw [if_neg (by omega)]; omega) | exact absurd hs h4) rfl
  · skip
    refine X_top (y := 40) (absurd hs h4) ?_
    refine X_lookup (tgt := 46) (off := 39) dX5_edgeOf_7 (by decide) (by decide) rfl ?_
    refine X_bipush (v := 6) (nx := 48) dX5_edgeOf_46 rfl rfl ?_
    exact Y_reti dX5_edgeOf_48 (Or.inl rfl) (by first | exact congrArg nI (show s = typ s by unfold typ; rw [if_pos (by omega)]) | exact congrArg nI (show 4 = typ s by unfold typ; rw [if_neg (by omega)]; omega) | exact congrArg nI (show 5 = typ s by unfold typ; rw [if_neg (by omega)]; omega) | exact congrArg nI (show 6 = typ s by unfold typ; rw [if_neg (by omega)]; omega) | exact absurd hs h4) rfl
theorem dX7_fits_0 : decode cX7_fits 0 = .ok (.iload_n 0, 1) := by decide +kernel
theorem dX7_fits_1 : decode cX7_fits 1 = .ok (.bipush 10, 2) := by decide +kernel
theorem dX7_fits_3 : decode cX7_fits 3 = .ok (.idiv, 1) := by decide +kernel
theorem dX7_fits_4 : decode cX7_fits 4 = .ok (.bipush 10, 2) := by decide +kernel
theorem dX7_fits_6 : decode cX7_fits 6 = .ok (.imul, 1) := by decide +kernel
theorem dX7_fits_7 : decode cX7_fits 7 = .ok (.lookupswitch 66 #[(0, 33), (10, 44), (20, 55)], 33) := by decide +kernel
theorem dX7_fits_40 : decode cX7_fits 40 = .ok (.iload_n 0, 1) := by decide +kernel
theorem dX7_fits_41 : decode cX7_fits 41 = .ok (.iload_n 1, 1) := by decide +kernel
theorem dX7_fits_42 : decode cX7_fits 42 = .ok (.if_icmp .ne 7, 3) := by decide +kernel
theorem dX7_fits_45 : decode cX7_fits 45 = .ok (.iconst 1, 1) := by decide +kernel
theorem dX7_fits_46 : decode cX7_fits 46 = .ok (.goto 4, 3) := by decide +kernel
theorem dX7_fits_49 : decode cX7_fits 49 = .ok (.iconst 0, 1) := by decide +kernel
theorem dX7_fits_50 : decode cX7_fits 50 = .ok (.ireturn, 1) := by decide +kernel
theorem dX7_fits_51 : decode cX7_fits 51 = .ok (.iload_n 1, 1) := by decide +kernel
theorem dX7_fits_52 : decode cX7_fits 52 = .ok (.iconst 2, 1) := by decide +kernel
theorem dX7_fits_53 : decode cX7_fits 53 = .ok (.if_icmp .ge 7, 3) := by decide +kernel
theorem dX7_fits_56 : decode cX7_fits 56 = .ok (.iconst 1, 1) := by decide +kernel
theorem dX7_fits_57 : decode cX7_fits 57 = .ok (.goto 4, 3) := by decide +kernel
theorem dX7_fits_60 : decode cX7_fits 60 = .ok (.iconst 0, 1) := by decide +kernel
theorem dX7_fits_61 : decode cX7_fits 61 = .ok (.ireturn, 1) := by decide +kernel
theorem dX7_fits_62 : decode cX7_fits 62 = .ok (.iload_n 1, 1) := by decide +kernel
theorem dX7_fits_63 : decode cX7_fits 63 = .ok (.iconst 2, 1) := by decide +kernel
theorem dX7_fits_64 : decode cX7_fits 64 = .ok (.if_icmp .lt 7, 3) := by decide +kernel
theorem dX7_fits_67 : decode cX7_fits 67 = .ok (.iconst 1, 1) := by decide +kernel
theorem dX7_fits_68 : decode cX7_fits 68 = .ok (.goto 4, 3) := by decide +kernel
theorem dX7_fits_71 : decode cX7_fits 71 = .ok (.iconst 0, 1) := by decide +kernel
theorem dX7_fits_72 : decode cX7_fits 72 = .ok (.ireturn, 1) := by decide +kernel
theorem dX7_fits_73 : decode cX7_fits 73 = .ok (.iload_n 0, 1) := by decide +kernel
theorem dX7_fits_74 : decode cX7_fits 74 = .ok (.bipush 40, 2) := by decide +kernel
theorem dX7_fits_76 : decode cX7_fits 76 = .ok (.if_icmp .ge 7, 3) := by decide +kernel
theorem dX7_fits_79 : decode cX7_fits 79 = .ok (.iconst 1, 1) := by decide +kernel
theorem dX7_fits_80 : decode cX7_fits 80 = .ok (.goto 4, 3) := by decide +kernel
theorem dX7_fits_83 : decode cX7_fits 83 = .ok (.iconst 0, 1) := by decide +kernel
theorem dX7_fits_84 : decode cX7_fits 84 = .ok (.ireturn, 1) := by decide +kernel
theorem sp_X7_fits {s l : Nat} {x y : Int32} {D : Mem} (hx : x = nI s) (hs : sgv s) (hy : y = nI l) (hl : l < 4) : Ei 1 j_X7_fits [.int x, .int y] D (b2i (fitT (typ s) l)) (D) := by
  refine E.start 0 (ls := [some (.int x), some (.int y)]) (by decide +kernel) (Nat.le_of_ble_eq_true rfl) rfl (Nat.le_refl _) (Nat.le_refl _) ?_
  subst hx; subst hy
  have hle := sgv_le hs
  refine X_iload_n (nx := 1) dX7_fits_0 rfl rfl rfl ?_
  refine X_bipush (v := 10) (nx := 3) dX7_fits_1 rfl rfl ?_
  refine X_idiv (nx := 4) dX7_fits_3 rfl (by decide) ?_
  refine X_bipush (v := 10) (nx := 6) dX7_fits_4 rfl rfl ?_
  refine X_imul (nx := 7) dX7_fits_6 rfl ?_
  refine X_top (seg10 hle) ?_
  rcases hs with hs | hs | hs | hs | hs
  · skip
    refine X_top (y := 0) (congrArg nI (show s / 10 * 10 = 0 by omega)) ?_
    refine X_lookup (tgt := 40) (off := 33) dX7_fits_7 (by decide) (by decide) rfl ?_
    refine X_iload_n (nx := 41) dX7_fits_40 rfl rfl rfl ?_
    refine X_iload_n (nx := 42) dX7_fits_41 rfl rfl rfl ?_
    refine X_icmp_ne (tgt := 49) (nx := 45) dX7_fits_42 rfl rfl (fun h42 => ?_) (fun h42 => ?_)
    · skip
      rw [nI_eq (by omega) (by omega)] at h42
      refine X_iconst (v := 0) (nx := 50) dX7_fits_49 rfl rfl ?_
      exact Y_reti dX7_fits_50 (Or.inr ⟨rfl, by first | exact Or.inl rfl | exact Or.inr rfl | exact b2i_01 _ | assumption⟩) (by first | (rw [fitT_1 hs]; first | exact cl_t (by omega) | exact cl_f (by omega)) | (rw [fitT_2 hs]; first | exact cl_t (by omega) | exact cl_f (by omega)) | (rw [fitT_3 hs]; first | exact cl_t (by omega) | exact cl_f (by omega)) | (rw [fitT_4 hs]; first | rfl | (exfalso; omega)) | (rw [fitT_5 hs]; first | rfl | (exfalso; omega))) rfl
    · skip
      rw [nI_eq (by omega) (by omega)] at h42
      refine X_iconst (v := 1) (nx := 46) dX7_fits_45 rfl rfl ?_
      refine X_goto (tgt := 50) dX7_fits_46 rfl ?_
      exact Y_reti dX7_fits_50 (Or.inr ⟨rfl, by first | exact Or.inl rfl | exact Or.inr rfl | exact b2i_01 _ | assumption⟩) (by first | (rw [fitT_1 hs]; first | exact cl_t (by omega) | exact cl_f (by omega)) | (rw [fitT_2 hs]; first | exact cl_t (by omega) | exact cl_f (by omega)) | (rw [fitT_3 hs]; first | exact cl_t (by omega) | exact cl_f (by omega)) | (rw [fitT_4 hs]; first | rfl | (exfalso; omega)) | (rw [fitT_5 hs]; first | rfl | (exfalso; omega))) rfl
  · skip
    refine X_top (y := 10) (congrArg nI (show s / 10 * 10 = 10 by omega)) ?_
    refine X_lookup (tgt := 51) (off := 44) dX7_fits_7 (by decide) (by decide) rfl ?_
    refine X_iload_n (nx := 52) dX7_fits_51 rfl rfl rfl ?_
    refine X_iconst (v := nI 2) (nx := 53) dX7_fits_52 rfl rfl ?_
    refine X_icmp_ge (tgt := 60) (nx := 56) dX7_fits_53 rfl rfl (fun h53 => ?_) (fun h53 => ?_)
    · skip
      rw [nI_leI (by omega) (by omega)] at h53
      refine X_iconst (v := 0) (nx := 61) dX7_fits_60 rfl rfl ?_
      exact Y_reti dX7_fits_61 (Or.inr ⟨rfl, by first | exact Or.inl rfl | exact Or.inr rfl | exact b2i_01 _ | assumption⟩) (by first | (rw [fitT_1 hs]; first | exact cl_t (by omega) | exact cl_f (by omega)) | (rw [fitT_2 hs]; first | exact cl_t (by omega) | exact cl_f (by omega)) | (rw [fitT_3 hs]; first | exact cl_t (by omega) | exact cl_f (by omega)) | (rw [fitT_4 hs]; first | rfl | (exfalso; omega)) | (rw [fitT_5 hs]; first | rfl | (exfalso; omega))) rfl
    · skip
      rw [nI_leI (by omega) (by omega)] at h53
      refine X_iconst (v := 1) (nx := 57) dX7_fits_56 rfl rfl ?_
      refine X_goto (tgt := 61) dX7_fits_57 rfl ?_
      exact Y_reti dX7_fits_61 (Or.inr ⟨rfl, by first | exact Or.inl rfl | exact Or.inr rfl | exact b2i_01 _ | assumption⟩) (by first | (rw [fitT_1 hs]; first | exact cl_t (by omega) | exact cl_f (by omega)) | (rw [fitT_2 hs]; first | exact cl_t (by omega) | exact cl_f (by omega)) | (rw [fitT_3 hs]; first | exact cl_t (by omega) | exact cl_f (by omega)) | (rw [fitT_4 hs]; first | rfl | (exfalso; omega)) | (rw [fitT_5 hs]; first | rfl | (exfalso; omega))) rfl
  · skip
    refine X_top (y := 20) (congrArg nI (show s / 10 * 10 = 20 by omega)) ?_
    refine X_lookup (tgt := 62) (off := 55) dX7_fits_7 (by decide) (by decide) rfl ?_
    refine X_iload_n (nx := 63) dX7_fits_62 rfl rfl rfl ?_
    refine X_iconst (v := nI 2) (nx := 64) dX7_fits_63 rfl rfl ?_
    refine X_icmp_lt (tgt := 71) (nx := 67) dX7_fits_64 rfl rfl (fun h64 => ?_) (fun h64 => ?_)
    · skip
      rw [nI_ltI (by omega) (by omega)] at h64
      refine X_iconst (v := 0) (nx := 72) dX7_fits_71 rfl rfl ?_
      exact Y_reti dX7_fits_72 (Or.inr ⟨rfl, by first | exact Or.inl rfl | exact Or.inr rfl | exact b2i_01 _ | assumption⟩) (by first | (rw [fitT_1 hs]; first | exact cl_t (by omega) | exact cl_f (by omega)) | (rw [fitT_2 hs]; first | exact cl_t (by omega) | exact cl_f (by omega)) | (rw [fitT_3 hs]; first | exact cl_t (by omega) | exact cl_f (by omega)) | (rw [fitT_4 hs]; first | rfl | (exfalso; omega)) | (rw [fitT_5 hs]; first | rfl | (exfalso; omega))) rfl
    · skip
      rw [nI_ltI (by omega) (by omega)] at h64
      refine X_iconst (v := 1) (nx := 68) dX7_fits_67 rfl rfl ?_
      refine X_goto (tgt := 72) dX7_fits_68 rfl ?_
      exact Y_reti dX7_fits_72 (Or.inr ⟨rfl, by first | exact Or.inl rfl | exact Or.inr rfl | exact b2i_01 _ | assumption⟩) (by first | (rw [fitT_1 hs]; first | exact cl_t (by omega) | exact cl_f (by omega)) | (rw [fitT_2 hs]; first | exact cl_t (by omega) | exact cl_f (by omega)) | (rw [fitT_3 hs]; first | exact cl_t (by omega) | exact cl_f (by omega)) | (rw [fitT_4 hs]; first | rfl | (exfalso; omega)) | (rw [fitT_5 hs]; first | rfl | (exfalso; omega))) rfl
  · skip
    refine X_top (y := 30) (congrArg nI (show s / 10 * 10 = 30 by omega)) ?_
    refine X_lookup (tgt := 73) (off := 66) dX7_fits_7 (by decide) (by decide) rfl ?_
    refine X_iload_n (nx := 74) dX7_fits_73 rfl rfl rfl ?_
    refine X_bipush (v := nI 40) (nx := 76) dX7_fits_74 rfl rfl ?_
    refine X_icmp_ge (tgt := 83) (nx := 79) dX7_fits_76 rfl rfl (fun h76 => ?_) (fun h76 => ?_)
    · skip
      rw [nI_leI (by omega) (by omega)] at h76
      refine X_iconst (v := 0) (nx := 84) dX7_fits_83 rfl rfl ?_
      exact Y_reti dX7_fits_84 (Or.inr ⟨rfl, by first | exact Or.inl rfl | exact Or.inr rfl | exact b2i_01 _ | assumption⟩) (by first | (rw [fitT_1 hs]; first | exact cl_t (by omega) | exact cl_f (by omega)) | (rw [fitT_2 hs]; first | exact cl_t (by omega) | exact cl_f (by omega)) | (rw [fitT_3 hs]; first | exact cl_t (by omega) | exact cl_f (by omega)) | (rw [fitT_4 hs]; first | rfl | (exfalso; omega)) | (rw [fitT_5 hs]; first | rfl | (exfalso; omega))) rfl
    · skip
      rw [nI_leI (by omega) (by omega)] at h76
      refine X_iconst (v := 1) (nx := 80) dX7_fits_79 rfl rfl ?_
      refine X_goto (tgt := 84) dX7_fits_80 rfl ?_
      exact Y_reti dX7_fits_84 (Or.inr ⟨rfl, by first | exact Or.inl rfl | exact Or.inr rfl | exact b2i_01 _ | assumption⟩) (by first | (rw [fitT_1 hs]; first | exact cl_t (by omega) | exact cl_f (by omega)) | (rw [fitT_2 hs]; first | exact cl_t (by omega) | exact cl_f (by omega)) | (rw [fitT_3 hs]; first | exact cl_t (by omega) | exact cl_f (by omega)) | (rw [fitT_4 hs]; first | rfl | (exfalso; omega)) | (rw [fitT_5 hs]; first | rfl | (exfalso; omega))) rfl
  · skip
    refine X_top (y := 40) (congrArg nI (show s / 10 * 10 = 40 by omega)) ?_
    refine X_lookup (tgt := 73) (off := 66) dX7_fits_7 (by decide) (by decide) rfl ?_
    refine X_iload_n (nx := 74) dX7_fits_73 rfl rfl rfl ?_
    refine X_bipush (v := nI 40) (nx := 76) dX7_fits_74 rfl rfl ?_
    refine X_icmp_ge (tgt := 83) (nx := 79) dX7_fits_76 rfl rfl (fun h76 => ?_) (fun h76 => ?_)
    · skip
      rw [nI_leI (by omega) (by omega)] at h76
      refine X_iconst (v := 0) (nx := 84) dX7_fits_83 rfl rfl ?_
      exact Y_reti dX7_fits_84 (Or.inr ⟨rfl, by first | exact Or.inl rfl | exact Or.inr rfl | exact b2i_01 _ | assumption⟩) (by first | (rw [fitT_1 hs]; first | exact cl_t (by omega) | exact cl_f (by omega)) | (rw [fitT_2 hs]; first | exact cl_t (by omega) | exact cl_f (by omega)) | (rw [fitT_3 hs]; first | exact cl_t (by omega) | exact cl_f (by omega)) | (rw [fitT_4 hs]; first | rfl | (exfalso; omega)) | (rw [fitT_5 hs]; first | rfl | (exfalso; omega))) rfl
    · skip
      rw [nI_leI (by omega) (by omega)] at h76
      refine X_iconst (v := 1) (nx := 80) dX7_fits_79 rfl rfl ?_
      refine X_goto (tgt := 84) dX7_fits_80 rfl ?_
      exact Y_reti dX7_fits_84 (Or.inr ⟨rfl, by first | exact Or.inl rfl | exact Or.inr rfl | exact b2i_01 _ | assumption⟩) (by first | (rw [fitT_1 hs]; first | exact cl_t (by omega) | exact cl_f (by omega)) | (rw [fitT_2 hs]; first | exact cl_t (by omega) | exact cl_f (by omega)) | (rw [fitT_3 hs]; first | exact cl_t (by omega) | exact cl_f (by omega)) | (rw [fitT_4 hs]; first | rfl | (exfalso; omega)) | (rw [fitT_5 hs]; first | rfl | (exfalso; omega))) rfl
end
section
/-- segments as they can be: REST only the last -/
def VS (s : List Nat) : Prop := s.length ≤ 4 ∧ (∀ x ∈ s, sgv x) ∧ ∀ k, k + 1 < s.length → s.getD k 0 ≠ 40
theorem getD_in {s : List Nat} {k : Nat} (h : k < s.length) : s.getD k 0 ∈ s := by
  rw [List.getD_eq_getElem?_getD, List.getElem?_eq_getElem h]
  exact List.getElem_mem h
theorem VS.plain {s : List Nat} {k : Nat} (h : VS s) (hk : k < pl s) : sgv (s.getD k 0) ∧ s.getD k 0 ≠ 40 := by
  have hl := pl_le s
  have hin := getD_in (s := s) (k := k) (by omega)
  refine ⟨h.2.1 _ hin, fun e => ?_⟩
  by_cases hk1 : k + 1 < s.length
  · exact h.2.2 k hk1 e
  · have : pl s < s.length := by
      unfold pl
      exact List.length_filter_lt_length_iff_exists.mpr ⟨40, by rw [← e]; exact hin, by decide⟩
    omega
/-- all of n from i on -/
def alB (f : Nat → Bool) : Nat → Nat → Bool
  | _, 0 => true
  | i, n + 1 => f i && alB f (i + 1) n
theorem alB_t {f : Nat → Bool} : ∀ {n i : Nat}, alB f i n = true ↔ ∀ x, i ≤ x → x < i + n → f x = true := by
  intro n
  induction n with
  | zero => intro i; simp [alB]; intro x h1 h2; omega
  | succ n ih =>
    intro i
    simp only [alB, Bool.and_eq_true, ih]
    constructor
    · intro ⟨h1, h2⟩ x hx1 hx2
      by_cases e : x = i
      · subst e; exact h1
      · exact h2 x (by omega) (by omega)
    · intro h
      exact ⟨h i (Nat.le_refl _) (by omega), fun x h1 h2 => h x (by omega) (by omega)⟩
theorem alB_congr {f g : Nat → Bool} {n i : Nat} (h : ∀ x, i ≤ x → x < i + n → f x = g x) : alB f i n = alB g i n := by
  induction n generalizing i with
  | zero => rfl
  | succ n ih =>
    unfold alB
    rw [h i (Nat.le_refl _) (by omega), ih (fun x h1 h2 => h x (by omega) (by omega))]
theorem al_1 {f : Nat → Bool} {i m : Nat} (h : f i = true) : alB f i (m + 1) = alB f (i + 1) m := by
  show (f i && alB f (i + 1) m) = _
  rw [h]; rfl
theorem al_0 {f : Nat → Bool} {i m : Nat} (h : f i = false) : alB f i (m + 1) = false := by
  show (f i && alB f (i + 1) m) = _
  rw [h]; rfl
/-- alike but for parameters -/
def likeF (s t : List Nat) : Nat → Bool := fun k => decide (typ (s.getD k 0) = typ (t.getD k 0))
theorem typ_lt {x : Nat} (h : x ≤ 40) : typ x < 10 := by unfold typ; split <;> omega
theorem dX4_isAlike_0 : decode cX4_isAlike 0 = .ok (.aload_n 0, 1) := by decide +kernel
theorem dX4_isAlike_1 : decode cX4_isAlike 1 = .ok (.getfield 26, 3) := by decide +kernel
theorem dX4_isAlike_4 : decode cX4_isAlike 4 = .ok (.aload_n 1, 1) := by decide +kernel
theorem dX4_isAlike_5 : decode cX4_isAlike 5 = .ok (.getfield 26, 3) := by decide +kernel
theorem dX4_isAlike_8 : decode cX4_isAlike 8 = .ok (.if_icmp .ne 18, 3) := by decide +kernel
theorem dX4_isAlike_11 : decode cX4_isAlike 11 = .ok (.aload_n 0, 1) := by decide +kernel
theorem dX4_isAlike_12 : decode cX4_isAlike 12 = .ok (.getfield 29, 3) := by decide +kernel
theorem dX4_isAlike_15 : decode cX4_isAlike 15 = .ok (.aload_n 1, 1) := by decide +kernel
theorem dX4_isAlike_16 : decode cX4_isAlike 16 = .ok (.getfield 29, 3) := by decide +kernel
theorem dX4_isAlike_19 : decode cX4_isAlike 19 = .ok (.if_icmp .ne 7, 3) := by decide +kernel
theorem dX4_isAlike_22 : decode cX4_isAlike 22 = .ok (.iconst 1, 1) := by decide +kernel
theorem dX4_isAlike_23 : decode cX4_isAlike 23 = .ok (.goto 4, 3) := by decide +kernel
theorem dX4_isAlike_26 : decode cX4_isAlike 26 = .ok (.iconst 0, 1) := by decide +kernel
theorem dX4_isAlike_27 : decode cX4_isAlike 27 = .ok (.istore_n 2, 1) := by decide +kernel
theorem dX4_isAlike_28 : decode cX4_isAlike 28 = .ok (.iconst 0, 1) := by decide +kernel
theorem dX4_isAlike_29 : decode cX4_isAlike 29 = .ok (.istore_n 3, 1) := by decide +kernel
theorem dX4_isAlike_30 : decode cX4_isAlike 30 = .ok (.iload_n 2, 1) := by decide +kernel
theorem dX4_isAlike_31 : decode cX4_isAlike 31 = .ok (.ifCond .eq 42, 3) := by decide +kernel
theorem dX4_isAlike_34 : decode cX4_isAlike 34 = .ok (.iload_n 3, 1) := by decide +kernel
theorem dX4_isAlike_35 : decode cX4_isAlike 35 = .ok (.aload_n 0, 1) := by decide +kernel
theorem dX4_isAlike_36 : decode cX4_isAlike 36 = .ok (.getfield 29, 3) := by decide +kernel
theorem dX4_isAlike_39 : decode cX4_isAlike 39 = .ok (.if_icmp .ge 34, 3) := by decide +kernel
theorem dX4_isAlike_42 : decode cX4_isAlike 42 = .ok (.aload_n 0, 1) := by decide +kernel
theorem dX4_isAlike_43 : decode cX4_isAlike 43 = .ok (.iload_n 3, 1) := by decide +kernel
theorem dX4_isAlike_44 : decode cX4_isAlike 44 = .ok (.invokevirtual 47, 3) := by decide +kernel
theorem dX4_isAlike_47 : decode cX4_isAlike 47 = .ok (.invokestatic 54, 3) := by decide +kernel
theorem dX4_isAlike_50 : decode cX4_isAlike 50 = .ok (.aload_n 1, 1) := by decide +kernel
theorem dX4_isAlike_51 : decode cX4_isAlike 51 = .ok (.iload_n 3, 1) := by decide +kernel
theorem dX4_isAlike_52 : decode cX4_isAlike 52 = .ok (.invokevirtual 47, 3) := by decide +kernel
theorem dX4_isAlike_55 : decode cX4_isAlike 55 = .ok (.invokestatic 54, 3) := by decide +kernel
theorem dX4_isAlike_58 : decode cX4_isAlike 58 = .ok (.if_icmp .ne 7, 3) := by decide +kernel
theorem dX4_isAlike_61 : decode cX4_isAlike 61 = .ok (.iconst 1, 1) := by decide +kernel
theorem dX4_isAlike_62 : decode cX4_isAlike 62 = .ok (.goto 4, 3) := by decide +kernel
theorem dX4_isAlike_65 : decode cX4_isAlike 65 = .ok (.iconst 0, 1) := by decide +kernel
theorem dX4_isAlike_66 : decode cX4_isAlike 66 = .ok (.istore_n 2, 1) := by decide +kernel
theorem dX4_isAlike_67 : decode cX4_isAlike 67 = .ok (.iinc 3 1, 3) := by decide +kernel
theorem dX4_isAlike_70 : decode cX4_isAlike 70 = .ok (.goto (-40), 3) := by decide +kernel
theorem dX4_isAlike_73 : decode cX4_isAlike 73 = .ok (.iload_n 2, 1) := by decide +kernel
theorem dX4_isAlike_74 : decode cX4_isAlike 74 = .ok (.ireturn, 1) := by decide +kernel
theorem lp_X4_isAlike {r r2 : Nat} {s t : List Nat} {D : Mem} (hr : isR r) (hr2 : isR r2) (h : SEG D r s) (h2 : SEG D r2 t) (hv : VS s) (hv2 : VS t) : ∀ (m : Nat) (i : Nat) (a : Bool), i + m = pl s → (a = true → pl s = pl t) → X 2 138 j_X4_isAlike 30 [some (.ref r), some (.ref r2), some (.int (b2i a)), some (.int (nI i))] [] (138, P0, D) (fun x σ => x = [.int (b2i (a && alB (likeF s t) i m))] ∧ σ = wd D) := by
  intro m
  induction m with
  | zero =>
    intro i a hi ha
    obtain ⟨q1, q2, q3, q4, q5, q6⟩ := hr.facts
    obtain ⟨z1, z2, z3, z4, z5, z6⟩ := hr2.facts
    have hb := h.1
    have hb2 := pl_le s
    have hc := h2.1
    have hc2 := pl_le t
    refine X_iload_n (nx := 31) dX4_isAlike_30 rfl rfl rfl ?_
    refine X_if_eq (tgt := 73) (nx := 34) dX4_isAlike_31 rfl rfl (fun h31 => ?_) (fun h31 => ?_)
    · skip
      refine X_iload_n (nx := 74) dX4_isAlike_73 rfl rfl rfl ?_
      exact Y_reti dX4_isAlike_74 (Or.inr ⟨rfl, by first | exact Or.inl rfl | exact Or.inr rfl | exact b2i_01 _ | assumption⟩) (by simp [alB]) rfl
    · skip
      refine X_iload_n (nx := 35) dX4_isAlike_34 rfl rfl rfl ?_
      refine X_aload_n (nx := 36) dX4_isAlike_35 rfl rfl rfl ?_
      refine M_getI (nx := 39) dX4_isAlike_36 rfl fl_RX4_29 rfl (by first | assumption | rfl | decide | omega) (by first | assumption | rfl | decide | omega) ?_
      refine X_top (h.2.2.1) ?_
      refine X_icmp_ge (tgt := 73) (nx := 42) dX4_isAlike_39 rfl rfl (fun h39 => ?_) (fun h39 => ?_)
      · skip
        refine X_iload_n (nx := 74) dX4_isAlike_73 rfl rfl rfl ?_
        exact Y_reti dX4_isAlike_74 (Or.inr ⟨rfl, by first | exact Or.inl rfl | exact Or.inr rfl | exact b2i_01 _ | assumption⟩) (by simp [alB]) rfl
      · exact absurd h39 (fun q => q (nI_le (by omega) (by omega)))
  | succ m ih =>
    intro i a hi ha
    obtain ⟨q1, q2, q3, q4, q5, q6⟩ := hr.facts
    obtain ⟨z1, z2, z3, z4, z5, z6⟩ := hr2.facts
    have hb := h.1
    have hb2 := pl_le s
    have hc := h2.1
    have hc2 := pl_le t
    refine X_iload_n (nx := 31) dX4_isAlike_30 rfl rfl rfl ?_
    refine X_if_eq (tgt := 73) (nx := 34) dX4_isAlike_31 rfl rfl (fun h31 => ?_) (fun h31 => ?_)
    · skip
      refine X_iload_n (nx := 74) dX4_isAlike_73 rfl rfl rfl ?_
      exact Y_reti dX4_isAlike_74 (Or.inr ⟨rfl, by first | exact Or.inl rfl | exact Or.inr rfl | exact b2i_01 _ | assumption⟩) (by rw [b2i_f.mp h31]; rfl) rfl
    · skip
      have hat := b2i_t.mp h31
      have hpp := ha hat
      refine X_iload_n (nx := 35) dX4_isAlike_34 rfl rfl rfl ?_
      refine X_aload_n (nx := 36) dX4_isAlike_35 rfl rfl rfl ?_
      refine M_getI (nx := 39) dX4_isAlike_36 rfl fl_RX4_29 rfl (by first | assumption | rfl | decide | omega) (by first | assumption | rfl | decide | omega) ?_
      refine X_top (h.2.2.1) ?_
      refine X_icmp_ge (tgt := 73) (nx := 42) dX4_isAlike_39 rfl rfl (fun h39 => ?_) (fun h39 => ?_)
      · exact absurd h39 (nI_ge (by omega) (by omega))
      · skip
        refine X_aload_n (nx := 43) dX4_isAlike_42 rfl rfl rfl ?_
        refine X_iload_n (nx := 44) dX4_isAlike_43 rfl rfl rfl ?_
        refine Y_Vi1 (nx := 47) dX4_isAlike_44 rfl ml_RX4_47 kj_X4_segmentAt kv_X4_segmentAt (sp_X4_segmentAt hr h rfl (by omega)) (by first | assumption | rfl | decide | omega) (by first | assumption | rfl | decide | omega) (by decide) rfl (by first | decide | omega) (by exact Nat.le_of_ble_eq_true rfl) ?_
        refine Y_Si1 (nx := 50) dX4_isAlike_47 rfl ml_RX4_54 kj_X5_edgeOf ks_X5_edgeOf (sp_X5_edgeOf rfl (hv.plain (by omega)).1 (hv.plain (by omega)).2) (by first | decide | omega) (by exact Nat.le_of_ble_eq_true rfl) ?_
        refine X_aload_n (nx := 51) dX4_isAlike_50 rfl rfl rfl ?_
        refine X_iload_n (nx := 52) dX4_isAlike_51 rfl rfl rfl ?_
        refine Y_Vi1 (nx := 55) dX4_isAlike_52 rfl ml_RX4_47 kj_X4_segmentAt kv_X4_segmentAt (sp_X4_segmentAt hr2 h2 rfl (by omega)) (by first | assumption | rfl | decide | omega) (by first | assumption | rfl | decide | omega) (by decide) rfl (by first | decide | omega) (by exact Nat.le_of_ble_eq_true rfl) ?_
        refine Y_Si1 (nx := 58) dX4_isAlike_55 rfl ml_RX4_54 kj_X5_edgeOf ks_X5_edgeOf (sp_X5_edgeOf rfl (hv2.plain (by omega)).1 (hv2.plain (by omega)).2) (by first | decide | omega) (by exact Nat.le_of_ble_eq_true rfl) ?_
        refine X_icmp_ne (tgt := 65) (nx := 61) dX4_isAlike_58 rfl rfl (fun h58 => ?_) (fun h58 => ?_)
        · skip
          rw [nI_eq (by have := typ_lt (sgv_le (hv.plain (show i < pl s by omega)).1); omega) (by have := typ_lt (sgv_le (hv2.plain (show i < pl t by omega)).1); omega)] at h58
          refine X_iconst (v := 0) (nx := 66) dX4_isAlike_65 rfl rfl ?_
          refine X_istore_n (i := 2) (nx := 67) dX4_isAlike_66 rfl rfl (by decide) rfl (st_s (st_s (st_0))) ?_
          refine X_iinc (nx := 70) dX4_isAlike_67 rfl (by decide) rfl (by first | exact ii1 _ | rfl) rfl (st_s (st_s (st_s (st_0)))) ?_
          refine X_goto (tgt := 30) dX4_isAlike_70 rfl ?_
          rw [hat]
          first
            | (have e1 : alB (likeF s t) i (m + 1) = alB (likeF s t) (i + 1) m := al_1 (decide_eq_true h58); rw [e1]; exact ih (i + 1) true (by omega) (fun _ => hpp))
            | (have e1 : alB (likeF s t) i (m + 1) = false := al_0 (decide_eq_false h58); rw [e1]; have e2 := ih (i + 1) false (by omega) (fun q => by cases q); rw [Bool.false_and] at e2; exact e2)
        · skip
          rw [nI_eq (by have := typ_lt (sgv_le (hv.plain (show i < pl s by omega)).1); omega) (by have := typ_lt (sgv_le (hv2.plain (show i < pl t by omega)).1); omega)] at h58
          refine X_iconst (v := 1) (nx := 62) dX4_isAlike_61 rfl rfl ?_
          refine X_goto (tgt := 66) dX4_isAlike_62 rfl ?_
          refine X_istore_n (i := 2) (nx := 67) dX4_isAlike_66 rfl rfl (by decide) rfl (st_s (st_s (st_0))) ?_
          refine X_iinc (nx := 70) dX4_isAlike_67 rfl (by decide) rfl (by first | exact ii1 _ | rfl) rfl (st_s (st_s (st_s (st_0)))) ?_
          refine X_goto (tgt := 30) dX4_isAlike_70 rfl ?_
          rw [hat]
          first
            | (have e1 : alB (likeF s t) i (m + 1) = alB (likeF s t) (i + 1) m := al_1 (decide_eq_true h58); rw [e1]; exact ih (i + 1) true (by omega) (fun _ => hpp))
            | (have e1 : alB (likeF s t) i (m + 1) = false := al_0 (decide_eq_false h58); rw [e1]; have e2 := ih (i + 1) false (by omega) (fun q => by cases q); rw [Bool.false_and] at e2; exact e2)
theorem sp_X4_isAlike {r r2 : Nat} {s t : List Nat} {D : Mem} (hr : isR r) (hr2 : isR r2) (h : SEG D r s) (h2 : SEG D r2 t) (hv : VS s) (hv2 : VS t) : Ei 2 j_X4_isAlike [.ref r, .ref r2] D (b2i ((decide (s.length = t.length) && decide (pl s = pl t)) && alB (likeF s t) 0 (pl s))) (D) := by
  refine E.start 2 (ls := [some (.ref r), some (.ref r2), none, none]) (by decide +kernel) (Nat.le_of_ble_eq_true rfl) rfl (Nat.le_refl _) (Nat.le_refl _) ?_
  obtain ⟨q1, q2, q3, q4, q5, q6⟩ := hr.facts
  obtain ⟨z1, z2, z3, z4, z5, z6⟩ := hr2.facts
  have hb := h.1
  have hb2 := pl_le s
  have hc := h2.1
  have hc2 := pl_le t
  refine X_aload_n (nx := 1) dX4_isAlike_0 rfl rfl rfl ?_
  refine M_getI (nx := 4) dX4_isAlike_1 rfl fl_RX4_26 rfl (by first | assumption | rfl | decide | omega) (by first | assumption | rfl | decide | omega) ?_
  refine X_top (h.2.1) ?_
  refine X_aload_n (nx := 5) dX4_isAlike_4 rfl rfl rfl ?_
  refine M_getI (nx := 8) dX4_isAlike_5 rfl fl_RX4_26 rfl (by first | assumption | rfl | decide | omega) (by first | assumption | rfl | decide | omega) ?_
  refine X_top (h2.2.1) ?_
  refine X_icmp_ne (tgt := 26) (nx := 11) dX4_isAlike_8 rfl rfl (fun h8 => ?_) (fun h8 => ?_)
  · skip
    rw [nI_eq (by omega) (by omega)] at h8
    refine X_iconst (v := 0) (nx := 27) dX4_isAlike_26 rfl rfl ?_
    refine X_istore_n (i := 2) (nx := 28) dX4_isAlike_27 rfl rfl (by decide) rfl (st_s (st_s (st_0))) ?_
    refine X_iconst (v := 0) (nx := 29) dX4_isAlike_28 rfl rfl ?_
    refine X_istore_n (i := 3) (nx := 30) dX4_isAlike_29 rfl rfl (by decide) rfl (st_s (st_s (st_s (st_0)))) ?_
    first
      | (rw [decide_eq_false h8]; exact lp_X4_isAlike hr hr2 h h2 hv hv2 (pl s) 0 false (by omega) (fun q => by cases q))
      | (rw [decide_eq_false h19, Bool.and_false]; exact lp_X4_isAlike hr hr2 h h2 hv hv2 (pl s) 0 false (by omega) (fun q => by cases q))
      | (rw [decide_eq_true h8, decide_eq_true h19]; exact lp_X4_isAlike hr hr2 h h2 hv hv2 (pl s) 0 true (by omega) (fun _ => h19))
  · skip
    rw [nI_eq (by omega) (by omega)] at h8
    refine X_aload_n (nx := 12) dX4_isAlike_11 rfl rfl rfl ?_
    refine M_getI (nx := 15) dX4_isAlike_12 rfl fl_RX4_29 rfl (by first | assumption | rfl | decide | omega) (by first | assumption | rfl | decide | omega) ?_
    refine X_top (h.2.2.1) ?_
    refine X_aload_n (nx := 16) dX4_isAlike_15 rfl rfl rfl ?_
    refine M_getI (nx := 19) dX4_isAlike_16 rfl fl_RX4_29 rfl (by first | assumption | rfl | decide | omega) (by first | assumption | rfl | decide | omega) ?_
    refine X_top (h2.2.2.1) ?_
    refine X_icmp_ne (tgt := 26) (nx := 22) dX4_isAlike_19 rfl rfl (fun h19 => ?_) (fun h19 => ?_)
    · skip
      rw [nI_eq (by omega) (by omega)] at h19
      refine X_iconst (v := 0) (nx := 27) dX4_isAlike_26 rfl rfl ?_
      refine X_istore_n (i := 2) (nx := 28) dX4_isAlike_27 rfl rfl (by decide) rfl (st_s (st_s (st_0))) ?_
      refine X_iconst (v := 0) (nx := 29) dX4_isAlike_28 rfl rfl ?_
      refine X_istore_n (i := 3) (nx := 30) dX4_isAlike_29 rfl rfl (by decide) rfl (st_s (st_s (st_s (st_0)))) ?_
      first
        | (rw [decide_eq_false h8]; exact lp_X4_isAlike hr hr2 h h2 hv hv2 (pl s) 0 false (by omega) (fun q => by cases q))
        | (rw [decide_eq_false h19, Bool.and_false]; exact lp_X4_isAlike hr hr2 h h2 hv hv2 (pl s) 0 false (by omega) (fun q => by cases q))
        | (rw [decide_eq_true h8, decide_eq_true h19]; exact lp_X4_isAlike hr hr2 h h2 hv hv2 (pl s) 0 true (by omega) (fun _ => h19))
    · skip
      rw [nI_eq (by omega) (by omega)] at h19
      refine X_iconst (v := 1) (nx := 23) dX4_isAlike_22 rfl rfl ?_
      refine X_goto (tgt := 27) dX4_isAlike_23 rfl ?_
      refine X_istore_n (i := 2) (nx := 28) dX4_isAlike_27 rfl rfl (by decide) rfl (st_s (st_s (st_0))) ?_
      refine X_iconst (v := 0) (nx := 29) dX4_isAlike_28 rfl rfl ?_
      refine X_istore_n (i := 3) (nx := 30) dX4_isAlike_29 rfl rfl (by decide) rfl (st_s (st_s (st_s (st_0)))) ?_
      first
        | (rw [decide_eq_false h8]; exact lp_X4_isAlike hr hr2 h h2 hv hv2 (pl s) 0 false (by omega) (fun q => by cases q))
        | (rw [decide_eq_false h19, Bool.and_false]; exact lp_X4_isAlike hr hr2 h h2 hv hv2 (pl s) 0 false (by omega) (fun q => by cases q))
        | (rw [decide_eq_true h8, decide_eq_true h19]; exact lp_X4_isAlike hr hr2 h h2 hv hv2 (pl s) 0 true (by omega) (fun _ => h19))
/-- whether a route by itself takes letters -/
def tkF (s L : List Nat) : Nat → Bool := fun k => fitT (typ (s.getD k 0)) (L.getD k 0)
def tkB (s : List Nat) (mt : Bool) (L : List Nat) : Bool := (if (decide (pl s < s.length) || mt) = true then decide (pl s ≤ L.length) else decide (L.length = pl s)) && alB (tkF s L) 0 (pl s)
theorem dX4_takes_0 : decode cX4_takes 0 = .ok (.aload_n 0, 1) := by decide +kernel
theorem dX4_takes_1 : decode cX4_takes 1 = .ok (.invokevirtual 59, 3) := by decide +kernel
theorem dX4_takes_4 : decode cX4_takes 4 = .ok (.ifCond .ne 10, 3) := by decide +kernel
theorem dX4_takes_7 : decode cX4_takes 7 = .ok (.aload_n 0, 1) := by decide +kernel
theorem dX4_takes_8 : decode cX4_takes 8 = .ok (.invokevirtual 62, 3) := by decide +kernel
theorem dX4_takes_11 : decode cX4_takes 11 = .ok (.ifCond .eq 7, 3) := by decide +kernel
theorem dX4_takes_14 : decode cX4_takes 14 = .ok (.iconst 1, 1) := by decide +kernel
theorem dX4_takes_15 : decode cX4_takes 15 = .ok (.goto 4, 3) := by decide +kernel
theorem dX4_takes_18 : decode cX4_takes 18 = .ok (.iconst 0, 1) := by decide +kernel
theorem dX4_takes_19 : decode cX4_takes 19 = .ok (.istore_n 2, 1) := by decide +kernel
theorem dX4_takes_20 : decode cX4_takes 20 = .ok (.iload_n 2, 1) := by decide +kernel
theorem dX4_takes_21 : decode cX4_takes 21 = .ok (.ifCond .eq 22, 3) := by decide +kernel
theorem dX4_takes_24 : decode cX4_takes 24 = .ok (.aload_n 1, 1) := by decide +kernel
theorem dX4_takes_25 : decode cX4_takes 25 = .ok (.getfield 65, 3) := by decide +kernel
theorem dX4_takes_28 : decode cX4_takes 28 = .ok (.aload_n 0, 1) := by decide +kernel
theorem dX4_takes_29 : decode cX4_takes 29 = .ok (.getfield 29, 3) := by decide +kernel
theorem dX4_takes_32 : decode cX4_takes 32 = .ok (.if_icmp .lt 7, 3) := by decide +kernel
theorem dX4_takes_35 : decode cX4_takes 35 = .ok (.iconst 1, 1) := by decide +kernel
theorem dX4_takes_36 : decode cX4_takes 36 = .ok (.goto 23, 3) := by decide +kernel
theorem dX4_takes_39 : decode cX4_takes 39 = .ok (.iconst 0, 1) := by decide +kernel
theorem dX4_takes_40 : decode cX4_takes 40 = .ok (.goto 19, 3) := by decide +kernel
theorem dX4_takes_43 : decode cX4_takes 43 = .ok (.aload_n 1, 1) := by decide +kernel
theorem dX4_takes_44 : decode cX4_takes 44 = .ok (.getfield 65, 3) := by decide +kernel
theorem dX4_takes_47 : decode cX4_takes 47 = .ok (.aload_n 0, 1) := by decide +kernel
theorem dX4_takes_48 : decode cX4_takes 48 = .ok (.getfield 29, 3) := by decide +kernel
theorem dX4_takes_51 : decode cX4_takes 51 = .ok (.if_icmp .ne 7, 3) := by decide +kernel
theorem dX4_takes_54 : decode cX4_takes 54 = .ok (.iconst 1, 1) := by decide +kernel
theorem dX4_takes_55 : decode cX4_takes 55 = .ok (.goto 4, 3) := by decide +kernel
theorem dX4_takes_58 : decode cX4_takes 58 = .ok (.iconst 0, 1) := by decide +kernel
theorem dX4_takes_59 : decode cX4_takes 59 = .ok (.istore_n 3, 1) := by decide +kernel
theorem dX4_takes_60 : decode cX4_takes 60 = .ok (.iconst 0, 1) := by decide +kernel
theorem dX4_takes_61 : decode cX4_takes 61 = .ok (.istore 4, 2) := by decide +kernel
theorem dX4_takes_63 : decode cX4_takes 63 = .ok (.iload_n 3, 1) := by decide +kernel
theorem dX4_takes_64 : decode cX4_takes 64 = .ok (.ifCond .eq 34, 3) := by decide +kernel
theorem dX4_takes_67 : decode cX4_takes 67 = .ok (.iload 4, 2) := by decide +kernel
theorem dX4_takes_69 : decode cX4_takes 69 = .ok (.aload_n 0, 1) := by decide +kernel
theorem dX4_takes_70 : decode cX4_takes 70 = .ok (.getfield 29, 3) := by decide +kernel
theorem dX4_takes_73 : decode cX4_takes 73 = .ok (.if_icmp .ge 25, 3) := by decide +kernel
theorem dX4_takes_76 : decode cX4_takes 76 = .ok (.aload_n 0, 1) := by decide +kernel
theorem dX4_takes_77 : decode cX4_takes 77 = .ok (.iload 4, 2) := by decide +kernel
theorem dX4_takes_79 : decode cX4_takes 79 = .ok (.invokevirtual 47, 3) := by decide +kernel
theorem dX4_takes_82 : decode cX4_takes 82 = .ok (.aload_n 1, 1) := by decide +kernel
theorem dX4_takes_83 : decode cX4_takes 83 = .ok (.iload 4, 2) := by decide +kernel
theorem dX4_takes_85 : decode cX4_takes 85 = .ok (.invokevirtual 68, 3) := by decide +kernel
theorem dX4_takes_88 : decode cX4_takes 88 = .ok (.invokestatic 71, 3) := by decide +kernel
theorem dX4_takes_91 : decode cX4_takes 91 = .ok (.istore_n 3, 1) := by decide +kernel
theorem dX4_takes_92 : decode cX4_takes 92 = .ok (.iinc 4 1, 3) := by decide +kernel
theorem dX4_takes_95 : decode cX4_takes 95 = .ok (.goto (-32), 3) := by decide +kernel
theorem dX4_takes_98 : decode cX4_takes 98 = .ok (.iload_n 3, 1) := by decide +kernel
theorem dX4_takes_99 : decode cX4_takes 99 = .ok (.ireturn, 1) := by decide +kernel
theorem lp_X4_takes {r p : Nat} {s L : List Nat} {D : Mem} (hr : isR r) (hp : isPa p) (h : SEG D r s) (h2 : LET D p L) (hv : VS s) : ∀ (m : Nat) (i : Nat) (a g : Bool), i + m = pl s → (a = true → pl s ≤ L.length) → X 2 138 j_X4_takes 63 [some (.ref r), some (.ref p), some (.int (b2i g)), some (.int (b2i a)), some (.int (nI i))] [] (138, P0, D) (fun x σ => x = [.int (b2i (a && alB (tkF s L) i m))] ∧ σ = wd D) := by
  intro m
  induction m with
  | zero =>
    intro i a g hi ha
    obtain ⟨q1, q2, q3, q4, q5, q6⟩ := hr.facts
    obtain ⟨z1, z2, z3, z4, z5, z6⟩ := hp.facts
    have hb := h.1
    have hb2 := pl_le s
    have hc := h2.1
    refine X_iload_n (nx := 64) dX4_takes_63 rfl rfl rfl ?_
    refine X_if_eq (tgt := 98) (nx := 67) dX4_takes_64 rfl rfl (fun h64 => ?_) (fun h64 => ?_)
    · skip
      refine X_iload_n (nx := 99) dX4_takes_98 rfl rfl rfl ?_
      exact Y_reti dX4_takes_99 (Or.inr ⟨rfl, by first | exact Or.inl rfl | exact Or.inr rfl | exact b2i_01 _ | assumption⟩) (by simp [alB]) rfl
    · skip
      refine X_iload (nx := 69) dX4_takes_67 rfl rfl ?_
      refine X_aload_n (nx := 70) dX4_takes_69 rfl rfl rfl ?_
      refine M_getI (nx := 73) dX4_takes_70 rfl fl_RX4_29 rfl (by first | assumption | rfl | decide | omega) (by first | assumption | rfl | decide | omega) ?_
      refine X_top (h.2.2.1) ?_
      refine X_icmp_ge (tgt := 98) (nx := 76) dX4_takes_73 rfl rfl (fun h73 => ?_) (fun h73 => ?_)
      · skip
        refine X_iload_n (nx := 99) dX4_takes_98 rfl rfl rfl ?_
        exact Y_reti dX4_takes_99 (Or.inr ⟨rfl, by first | exact Or.inl rfl | exact Or.inr rfl | exact b2i_01 _ | assumption⟩) (by simp [alB]) rfl
      · exact absurd h73 (fun q => q (nI_le (by omega) (by omega)))
  | succ m ih =>
    intro i a g hi ha
    obtain ⟨q1, q2, q3, q4, q5, q6⟩ := hr.facts
    obtain ⟨z1, z2, z3, z4, z5, z6⟩ := hp.facts
    have hb := h.1
    have hb2 := pl_le s
    have hc := h2.1
    refine X_iload_n (nx := 64) dX4_takes_63 rfl rfl rfl ?_
    refine X_if_eq (tgt := 98) (nx := 67) dX4_takes_64 rfl rfl (fun h64 => ?_) (fun h64 => ?_)
    · skip
      refine X_iload_n (nx := 99) dX4_takes_98 rfl rfl rfl ?_
      exact Y_reti dX4_takes_99 (Or.inr ⟨rfl, by first | exact Or.inl rfl | exact Or.inr rfl | exact b2i_01 _ | assumption⟩) (by rw [b2i_f.mp h64]; rfl) rfl
    · skip
      have hat := b2i_t.mp h64
      have hpp := ha hat
      refine X_iload (nx := 69) dX4_takes_67 rfl rfl ?_
      refine X_aload_n (nx := 70) dX4_takes_69 rfl rfl rfl ?_
      refine M_getI (nx := 73) dX4_takes_70 rfl fl_RX4_29 rfl (by first | assumption | rfl | decide | omega) (by first | assumption | rfl | decide | omega) ?_
      refine X_top (h.2.2.1) ?_
      refine X_icmp_ge (tgt := 98) (nx := 76) dX4_takes_73 rfl rfl (fun h73 => ?_) (fun h73 => ?_)
      · exact absurd h73 (nI_ge (by omega) (by omega))
      · skip
        refine X_aload_n (nx := 77) dX4_takes_76 rfl rfl rfl ?_
        refine X_iload (nx := 79) dX4_takes_77 rfl rfl ?_
        refine Y_Vi1 (nx := 82) dX4_takes_79 rfl ml_RX4_47 kj_X4_segmentAt kv_X4_segmentAt (sp_X4_segmentAt hr h rfl (by omega)) (by first | assumption | rfl | decide | omega) (by first | assumption | rfl | decide | omega) (by decide) rfl (by first | decide | omega) (by exact Nat.le_of_ble_eq_true rfl) ?_
        refine X_aload_n (nx := 83) dX4_takes_82 rfl rfl rfl ?_
        refine X_iload (nx := 85) dX4_takes_83 rfl rfl ?_
        refine Y_Vi1 (nx := 88) dX4_takes_85 rfl ml_RX4_68 kj_X1_at kv_X1_at (sp_X1_at hp h2 rfl (by omega)) (by first | assumption | rfl | decide | omega) (by first | assumption | rfl | decide | omega) (by decide) rfl (by first | decide | omega) (by exact Nat.le_of_ble_eq_true rfl) ?_
        refine Y_Si2 (nx := 91) dX4_takes_88 rfl ml_RX4_71 kj_X7_fits ks_X7_fits (sp_X7_fits rfl (hv.plain (by omega)).1 rfl (h2.2.2.2 _ (getD_in (by omega)))) (by first | decide | omega) (by exact Nat.le_of_ble_eq_true rfl) ?_
        refine X_istore_n (i := 3) (nx := 92) dX4_takes_91 rfl rfl (by decide) rfl (st_s (st_s (st_s (st_0)))) ?_
        refine X_iinc (nx := 95) dX4_takes_92 rfl (by decide) rfl (by first | exact ii1 _ | rfl) rfl (st_s (st_s (st_s (st_s (st_0))))) ?_
        refine X_goto (tgt := 63) dX4_takes_95 rfl ?_
        rw [hat]
        exact ih (i + 1) (tkF s L i) g (by omega) (fun _ => hpp)
theorem tk_on {s L : List Nat} {mt : Bool} (h : (decide (pl s < s.length) || mt) = true) : tkB s mt L = (decide (pl s ≤ L.length) && alB (tkF s L) 0 (pl s)) := by unfold tkB; rw [if_pos h]
theorem tk_off {s L : List Nat} {mt : Bool} (h : ¬ (decide (pl s < s.length) || mt) = true) : tkB s mt L = (decide (L.length = pl s) && alB (tkF s L) 0 (pl s)) := by unfold tkB; rw [if_neg h]
theorem tk_20 {r p : Nat} {s L : List Nat} {mt g : Bool} {D : Mem} (hr : isR r) (hp : isPa p) (h : SEG D r s) (h2 : LET D p L) (hv : VS s) (hg : (decide (pl s < s.length) || mt) = g) : X 2 138 j_X4_takes 20 [some (.ref r), some (.ref p), some (.int (b2i g)), none, none] [] (138, P0, D) (fun x σ => x = [.int (b2i (tkB s mt L))] ∧ σ = wd D) := by
  obtain ⟨q1, q2, q3, q4, q5, q6⟩ := hr.facts
  obtain ⟨z1, z2, z3, z4, z5, z6⟩ := hp.facts
  have hb := h.1
  have hb2 := pl_le s
  have hc := h2.1
  refine X_iload_n (nx := 21) dX4_takes_20 rfl rfl rfl ?_
  refine X_if_eq (tgt := 43) (nx := 24) dX4_takes_21 rfl rfl (fun h21 => ?_) (fun h21 => ?_)
  · skip
    rw [b2i_f] at h21
    subst h21
    rw [tk_off (by rw [hg]; decide)]
    refine X_aload_n (nx := 44) dX4_takes_43 rfl rfl rfl ?_
    refine M_getI (nx := 47) dX4_takes_44 rfl fl_RX4_65 rfl (by first | assumption | rfl | decide | omega) (by first | assumption | rfl | decide | omega) ?_
    refine X_top (h2.2.1) ?_
    refine X_aload_n (nx := 48) dX4_takes_47 rfl rfl rfl ?_
    refine M_getI (nx := 51) dX4_takes_48 rfl fl_RX4_29 rfl (by first | assumption | rfl | decide | omega) (by first | assumption | rfl | decide | omega) ?_
    refine X_top (h.2.2.1) ?_
    refine X_icmp_ne (tgt := 58) (nx := 54) dX4_takes_51 rfl rfl (fun h51 => ?_) (fun h51 => ?_)
    · skip
      rw [nI_eq (by omega) (by omega)] at h51
      refine X_iconst (v := 0) (nx := 59) dX4_takes_58 rfl rfl ?_
      refine X_istore_n (i := 3) (nx := 60) dX4_takes_59 rfl rfl (by decide) rfl (st_s (st_s (st_s (st_0)))) ?_
      refine X_iconst (v := 0) (nx := 61) dX4_takes_60 rfl rfl ?_
      refine X_istore (i := 4) (nx := 63) dX4_takes_61 rfl (by decide) rfl (st_s (st_s (st_s (st_s (st_0))))) ?_
      first
        | (rw [decide_eq_true (show pl s ≤ L.length by omega)]; exact lp_X4_takes hr hp h h2 hv (pl s) 0 true true (by omega) (fun _ => by omega))
        | (rw [decide_eq_false (show ¬ pl s ≤ L.length by omega)]; exact lp_X4_takes hr hp h h2 hv (pl s) 0 false true (by omega) (fun q => by cases q))
        | (rw [decide_eq_true (show L.length = pl s by omega)]; exact lp_X4_takes hr hp h h2 hv (pl s) 0 true false (by omega) (fun _ => by omega))
        | (rw [decide_eq_false (show ¬ L.length = pl s by omega)]; exact lp_X4_takes hr hp h h2 hv (pl s) 0 false false (by omega) (fun q => by cases q))
    · skip
      rw [nI_eq (by omega) (by omega)] at h51
      refine X_iconst (v := 1) (nx := 55) dX4_takes_54 rfl rfl ?_
      refine X_goto (tgt := 59) dX4_takes_55 rfl ?_
      refine X_istore_n (i := 3) (nx := 60) dX4_takes_59 rfl rfl (by decide) rfl (st_s (st_s (st_s (st_0)))) ?_
      refine X_iconst (v := 0) (nx := 61) dX4_takes_60 rfl rfl ?_
      refine X_istore (i := 4) (nx := 63) dX4_takes_61 rfl (by decide) rfl (st_s (st_s (st_s (st_s (st_0))))) ?_
      first
        | (rw [decide_eq_true (show pl s ≤ L.length by omega)]; exact lp_X4_takes hr hp h h2 hv (pl s) 0 true true (by omega) (fun _ => by omega))
        | (rw [decide_eq_false (show ¬ pl s ≤ L.length by omega)]; exact lp_X4_takes hr hp h h2 hv (pl s) 0 false true (by omega) (fun q => by cases q))
        | (rw [decide_eq_true (show L.length = pl s by omega)]; exact lp_X4_takes hr hp h h2 hv (pl s) 0 true false (by omega) (fun _ => by omega))
        | (rw [decide_eq_false (show ¬ L.length = pl s by omega)]; exact lp_X4_takes hr hp h h2 hv (pl s) 0 false false (by omega) (fun q => by cases q))
  · skip
    rw [b2i_t] at h21
    subst h21
    rw [tk_on hg]
    refine X_aload_n (nx := 25) dX4_takes_24 rfl rfl rfl ?_
    refine M_getI (nx := 28) dX4_takes_25 rfl fl_RX4_65 rfl (by first | assumption | rfl | decide | omega) (by first | assumption | rfl | decide | omega) ?_
    refine X_top (h2.2.1) ?_
    refine X_aload_n (nx := 29) dX4_takes_28 rfl rfl rfl ?_
    refine M_getI (nx := 32) dX4_takes_29 rfl fl_RX4_29 rfl (by first | assumption | rfl | decide | omega) (by first | assumption | rfl | decide | omega) ?_
    refine X_top (h.2.2.1) ?_
    refine X_icmp_lt (tgt := 39) (nx := 35) dX4_takes_32 rfl rfl (fun h32 => ?_) (fun h32 => ?_)
    · skip
      rw [nI_ltI (by omega) (by omega)] at h32
      refine X_iconst (v := 0) (nx := 40) dX4_takes_39 rfl rfl ?_
      refine X_goto (tgt := 59) dX4_takes_40 rfl ?_
      refine X_istore_n (i := 3) (nx := 60) dX4_takes_59 rfl rfl (by decide) rfl (st_s (st_s (st_s (st_0)))) ?_
      refine X_iconst (v := 0) (nx := 61) dX4_takes_60 rfl rfl ?_
      refine X_istore (i := 4) (nx := 63) dX4_takes_61 rfl (by decide) rfl (st_s (st_s (st_s (st_s (st_0))))) ?_
      first
        | (rw [decide_eq_true (show pl s ≤ L.length by omega)]; exact lp_X4_takes hr hp h h2 hv (pl s) 0 true true (by omega) (fun _ => by omega))
        | (rw [decide_eq_false (show ¬ pl s ≤ L.length by omega)]; exact lp_X4_takes hr hp h h2 hv (pl s) 0 false true (by omega) (fun q => by cases q))
        | (rw [decide_eq_true (show L.length = pl s by omega)]; exact lp_X4_takes hr hp h h2 hv (pl s) 0 true false (by omega) (fun _ => by omega))
        | (rw [decide_eq_false (show ¬ L.length = pl s by omega)]; exact lp_X4_takes hr hp h h2 hv (pl s) 0 false false (by omega) (fun q => by cases q))
    · skip
      rw [nI_ltI (by omega) (by omega)] at h32
      refine X_iconst (v := 1) (nx := 36) dX4_takes_35 rfl rfl ?_
      refine X_goto (tgt := 59) dX4_takes_36 rfl ?_
      refine X_istore_n (i := 3) (nx := 60) dX4_takes_59 rfl rfl (by decide) rfl (st_s (st_s (st_s (st_0)))) ?_
      refine X_iconst (v := 0) (nx := 61) dX4_takes_60 rfl rfl ?_
      refine X_istore (i := 4) (nx := 63) dX4_takes_61 rfl (by decide) rfl (st_s (st_s (st_s (st_s (st_0))))) ?_
      first
        | (rw [decide_eq_true (show pl s ≤ L.length by omega)]; exact lp_X4_takes hr hp h h2 hv (pl s) 0 true true (by omega) (fun _ => by omega))
        | (rw [decide_eq_false (show ¬ pl s ≤ L.length by omega)]; exact lp_X4_takes hr hp h h2 hv (pl s) 0 false true (by omega) (fun q => by cases q))
        | (rw [decide_eq_true (show L.length = pl s by omega)]; exact lp_X4_takes hr hp h h2 hv (pl s) 0 true false (by omega) (fun _ => by omega))
        | (rw [decide_eq_false (show ¬ L.length = pl s by omega)]; exact lp_X4_takes hr hp h h2 hv (pl s) 0 false false (by omega) (fun q => by cases q))
theorem sp_X4_takes {r p : Nat} {s L : List Nat} {mt : Bool} {D : Mem} (hr : isR r) (hp : isPa p) (h : SEG D r s) (h2 : LET D p L) (hv : VS s) (hm : mt = decide (0 ≤ D r 5)) : Ei 2 j_X4_takes [.ref r, .ref p] D (b2i (tkB s mt L)) (D) := by
  refine E.start 3 (ls := [some (.ref r), some (.ref p), none, none, none]) (by decide +kernel) (Nat.le_of_ble_eq_true rfl) rfl (Nat.le_refl _) (Nat.le_refl _) ?_
  obtain ⟨q1, q2, q3, q4, q5, q6⟩ := hr.facts
  obtain ⟨z1, z2, z3, z4, z5, z6⟩ := hp.facts
  have hb := h.1
  have hb2 := pl_le s
  have hc := h2.1
  refine X_aload_n (nx := 1) dX4_takes_0 rfl rfl rfl ?_
  refine Y_Vi0 (nx := 4) dX4_takes_1 rfl ml_RX4_59 kj_X4_hasRest kv_X4_hasRest (sp_X4_hasRest hr h) (by first | assumption | rfl | decide | omega) (by first | assumption | rfl | decide | omega) (by decide) rfl (by first | decide | omega) (by exact Nat.le_of_ble_eq_true rfl) ?_
  refine X_if_ne (tgt := 14) (nx := 7) dX4_takes_4 rfl rfl (fun h4 => ?_) (fun h4 => ?_)
  · skip
    rw [b2i_t] at h4
    have hg : (decide (pl s < s.length) || mt) = true := by rw [h4]; rfl
    refine X_iconst (v := 1) (nx := 15) dX4_takes_14 rfl rfl ?_
    refine X_goto (tgt := 19) dX4_takes_15 rfl ?_
    refine X_istore_n (i := 2) (nx := 20) dX4_takes_19 rfl rfl (by decide) rfl (st_s (st_s (st_0))) ?_
    exact tk_20 hr hp h h2 hv hg
  · skip
    rw [b2i_f] at h4
    refine X_aload_n (nx := 8) dX4_takes_7 rfl rfl rfl ?_
    refine Y_Vi0 (nx := 11) dX4_takes_8 rfl ml_RX4_62 kj_X4_isMount kv_X4_isMount (sp_X4_isMount hr) (by first | assumption | rfl | decide | omega) (by first | assumption | rfl | decide | omega) (by decide) rfl (by first | decide | omega) (by exact Nat.le_of_ble_eq_true rfl) ?_
    refine X_if_eq (tgt := 18) (nx := 14) dX4_takes_11 rfl rfl (fun h11 => ?_) (fun h11 => ?_)
    · skip
      rw [← hm, b2i_f] at h11
      have hg : (decide (pl s < s.length) || mt) = false := by rw [h4, h11]; rfl
      refine X_iconst (v := 0) (nx := 19) dX4_takes_18 rfl rfl ?_
      refine X_istore_n (i := 2) (nx := 20) dX4_takes_19 rfl rfl (by decide) rfl (st_s (st_s (st_0))) ?_
      exact tk_20 hr hp h h2 hv hg
    · skip
      rw [← hm, b2i_t] at h11
      have hg : (decide (pl s < s.length) || mt) = true := by rw [h11, Bool.or_true]
      refine X_iconst (v := 1) (nx := 15) dX4_takes_14 rfl rfl ?_
      refine X_goto (tgt := 19) dX4_takes_15 rfl ?_
      refine X_istore_n (i := 2) (nx := 20) dX4_takes_19 rfl rfl (by decide) rfl (st_s (st_s (st_0))) ?_
      exact tk_20 hr hp h h2 hv hg
end
section
/-! PATHS by number; BOOKS -/
theorem up2_up2 {D : Mem} {a i : Nat} {v w : Int32} : up2 (up2 D a i v) a i w = up2 D a i w := by
  funext b k
  unfold up2
  split <;> rfl
def fos (n : Nat) : Nat := [0, 1, 5, 21, 85].getD n 0
theorem fosI : ∀ n, n < 5 → ([0, 1, 5, 21, 85] : List Int32).getD n 0 = nI (fos n) := by decide
/-- how many letters path n has, by its first i sizes -/
def szf (n : Nat) : Nat → Nat
  | 0 => 0
  | i + 1 => if 1 ≤ i ∧ fos i ≤ n then i else szf n i
theorem szf_le (n : Nat) : ∀ i, szf n i ≤ i - 1 := by
  intro i
  induction i with
  | zero => exact Nat.le_refl _
  | succ i ih => unfold szf; split <;> omega
def sz (n : Nat) : Nat := szf n 5
theorem sz_le (n : Nat) : sz n ≤ 4 := szf_le n 5
/-- the i-th letter of path n -/
def ltr (n i : Nat) : Nat := (n - fos (sz n)) / 4 ^ (sz n - 1 - i) % 4
def pathL (n : Nat) : List Nat := (List.range (sz n)).map (ltr n)
theorem pathL_len (n : Nat) : (pathL n).length = sz n := by simp [pathL]
theorem pathL_get {n k : Nat} (h : k < sz n) : (pathL n).getD k 0 = ltr n k := by
  rw [List.getD_eq_getElem?_getD, pathL, List.getElem?_map, List.getElem?_range h]; rfl
theorem pathL_lt {n x : Nat} (h : x ∈ pathL n) : x < 4 := by
  obtain ⟨k, -, rfl⟩ := List.mem_map.mp h
  exact Nat.mod_lt _ (by omega)
theorem fos_sz : ∀ n, n < 341 → fos (sz n) ≤ n ∧ n - fos (sz n) < 4 ^ sz n := by decide +kernel
/-- the code of the first i letters -/
def pcd (L : List Nat) : Nat → Nat
  | 0 => 0
  | i + 1 => pcd L i * 4 + L.getD i 0
def pnum (L : List Nat) : Nat := fos L.length + pcd L L.length
theorem dX1_number_0 : decode cX1_number 0 = .ok (.iconst 0, 1) := by decide +kernel
theorem dX1_number_1 : decode cX1_number 1 = .ok (.istore_n 1, 1) := by decide +kernel
theorem dX1_number_2 : decode cX1_number 2 = .ok (.iconst 0, 1) := by decide +kernel
theorem dX1_number_3 : decode cX1_number 3 = .ok (.istore_n 2, 1) := by decide +kernel
theorem dX1_number_4 : decode cX1_number 4 = .ok (.iload_n 2, 1) := by decide +kernel
theorem dX1_number_5 : decode cX1_number 5 = .ok (.aload_n 0, 1) := by decide +kernel
theorem dX1_number_6 : decode cX1_number 6 = .ok (.getfield 15, 3) := by decide +kernel
theorem dX1_number_9 : decode cX1_number 9 = .ok (.if_icmp .ge 22, 3) := by decide +kernel
theorem dX1_number_12 : decode cX1_number 12 = .ok (.iload_n 1, 1) := by decide +kernel
theorem dX1_number_13 : decode cX1_number 13 = .ok (.iconst 4, 1) := by decide +kernel
theorem dX1_number_14 : decode cX1_number 14 = .ok (.imul, 1) := by decide +kernel
theorem dX1_number_15 : decode cX1_number 15 = .ok (.aload_n 0, 1) := by decide +kernel
theorem dX1_number_16 : decode cX1_number 16 = .ok (.getfield 9, 3) := by decide +kernel
theorem dX1_number_19 : decode cX1_number 19 = .ok (.iload_n 2, 1) := by decide +kernel
theorem dX1_number_20 : decode cX1_number 20 = .ok (.invokestatic 22, 3) := by decide +kernel
theorem dX1_number_23 : decode cX1_number 23 = .ok (.iadd, 1) := by decide +kernel
theorem dX1_number_24 : decode cX1_number 24 = .ok (.istore_n 1, 1) := by decide +kernel
theorem dX1_number_25 : decode cX1_number 25 = .ok (.iinc 2 1, 3) := by decide +kernel
theorem dX1_number_28 : decode cX1_number 28 = .ok (.goto (-24), 3) := by decide +kernel
theorem dX1_number_31 : decode cX1_number 31 = .ok (.getstatic 19, 3) := by decide +kernel
theorem dX1_number_34 : decode cX1_number 34 = .ok (.aload_n 0, 1) := by decide +kernel
theorem dX1_number_35 : decode cX1_number 35 = .ok (.getfield 15, 3) := by decide +kernel
theorem dX1_number_38 : decode cX1_number 38 = .ok (.invokestatic 22, 3) := by decide +kernel
theorem dX1_number_41 : decode cX1_number 41 = .ok (.iload_n 1, 1) := by decide +kernel
theorem dX1_number_42 : decode cX1_number 42 = .ok (.iadd, 1) := by decide +kernel
theorem dX1_number_43 : decode cX1_number 43 = .ok (.ireturn, 1) := by decide +kernel
theorem lp_X1_number {p : Nat} {L : List Nat} {D : Mem} (hp : isPa p) (h : LET D p L) : ∀ (m : Nat) (i : Nat), i + m = L.length → X 2 138 j_X1_number 4 [some (.ref p), some (.int (nI (pcd L i))), some (.int (nI i))] [] (138, P0, D) (fun x σ => x = [.int (nI (pnum L))] ∧ σ = wd D) := by
  intro m
  induction m with
  | zero =>
    intro i hi
    obtain ⟨q1, q2, q3, q4, q5, q6⟩ := hp.facts
    have hb := h.1
    refine X_iload_n (nx := 5) dX1_number_4 rfl rfl rfl ?_
    refine X_aload_n (nx := 6) dX1_number_5 rfl rfl rfl ?_
    refine M_getI (nx := 9) dX1_number_6 rfl fl_RX1_15 rfl (by first | assumption | rfl | decide | omega) (by first | assumption | rfl | decide | omega) ?_
    refine X_top (h.2.1) ?_
    refine X_icmp_ge (tgt := 31) (nx := 12) dX1_number_9 rfl rfl (fun h9 => ?_) (fun h9 => ?_)
    · skip
      refine X_gs_fos (nx := 34) dX1_number_31 rfl gs_RX1_19 ?_
      refine X_aload_n (nx := 35) dX1_number_34 rfl rfl rfl ?_
      refine M_getI (nx := 38) dX1_number_35 rfl fl_RX1_15 rfl (by first | assumption | rfl | decide | omega) (by first | assumption | rfl | decide | omega) ?_
      refine X_top (h.2.1) ?_
      refine Y_Si2 (nx := 41) dX1_number_38 rfl ml_RX1_22 kj_X7_numberAt ks_X7_numberAt (sp_X7_numberAtF rfl (by omega)) (by first | decide | omega) (by exact Nat.le_of_ble_eq_true rfl) ?_
      refine X_top (fosI _ (by omega)) ?_
      refine X_iload_n (nx := 42) dX1_number_41 rfl rfl rfl ?_
      refine X_iadd (nx := 43) dX1_number_42 rfl ?_
      refine X_top (nI_add _ _) ?_
      exact Y_reti dX1_number_43 (Or.inl rfl) (by rw [show i = L.length by omega]; rfl) rfl
    · exact absurd h9 (fun q => q (nI_le (by omega) (by omega)))
  | succ m ih =>
    intro i hi
    obtain ⟨q1, q2, q3, q4, q5, q6⟩ := hp.facts
    have hb := h.1
    refine X_iload_n (nx := 5) dX1_number_4 rfl rfl rfl ?_
    refine X_aload_n (nx := 6) dX1_number_5 rfl rfl rfl ?_
    refine M_getI (nx := 9) dX1_number_6 rfl fl_RX1_15 rfl (by first | assumption | rfl | decide | omega) (by first | assumption | rfl | decide | omega) ?_
    refine X_top (h.2.1) ?_
    refine X_icmp_ge (tgt := 31) (nx := 12) dX1_number_9 rfl rfl (fun h9 => ?_) (fun h9 => ?_)
    · exact absurd h9 (nI_ge (by omega) (by omega))
    · skip
      refine X_iload_n (nx := 13) dX1_number_12 rfl rfl rfl ?_
      refine X_iconst (v := 4) (nx := 14) dX1_number_13 rfl rfl ?_
      refine X_imul (nx := 15) dX1_number_14 rfl ?_
      refine X_top (pk_mul (pcd L i) 4) ?_
      refine X_aload_n (nx := 16) dX1_number_15 rfl rfl rfl ?_
      refine M_getP (nx := 19) dX1_number_16 rfl fl_RX1_9 rfl (by first | assumption | rfl | decide | omega) (by first | assumption | rfl | decide | omega) (by first | assumption | rfl | decide | omega) ?_
      refine X_iload_n (nx := 20) dX1_number_19 rfl rfl rfl ?_
      refine Y_Si2 (nx := 23) dX1_number_20 rfl ml_RX1_22 kj_X7_numberAt ks_X7_numberAt (sp_X7_numberAt (i := i) (by omega) (by omega) rfl (by omega)) (by first | decide | omega) (by exact Nat.le_of_ble_eq_true rfl) ?_
      refine X_top (h.2.2.1 i (by omega)) ?_
      refine X_iadd (nx := 24) dX1_number_23 rfl ?_
      refine X_top (nI_add _ _) ?_
      refine X_istore_n (i := 1) (nx := 25) dX1_number_24 rfl rfl (by decide) rfl (st_s (st_0)) ?_
      refine X_iinc (nx := 28) dX1_number_25 rfl (by decide) rfl (by first | exact ii1 _ | rfl) rfl (st_s (st_s (st_0))) ?_
      refine X_goto (tgt := 4) dX1_number_28 rfl ?_
      exact ih (i + 1) (by omega)
theorem sp_X1_number {p : Nat} {L : List Nat} {D : Mem} (hp : isPa p) (h : LET D p L) : Ei 2 j_X1_number [.ref p] D (nI (pnum L)) (D) := by
  refine E.start 2 (ls := [some (.ref p), none, none]) (by decide +kernel) (Nat.le_of_ble_eq_true rfl) rfl (Nat.le_refl _) (Nat.le_refl _) ?_
  refine X_iconst (v := 0) (nx := 1) dX1_number_0 rfl rfl ?_
  refine X_istore_n (i := 1) (nx := 2) dX1_number_1 rfl rfl (by decide) rfl (st_s (st_0)) ?_
  refine X_iconst (v := 0) (nx := 3) dX1_number_2 rfl rfl ?_
  refine X_istore_n (i := 2) (nx := 4) dX1_number_3 rfl rfl (by decide) rfl (st_s (st_s (st_0))) ?_
  exact lp_X1_number hp h L.length 0 (by omega)
theorem sub_nI {a b : Nat} (h : b ≤ a) : nI a - nI b = nI (a - b) := pk_sub h
theorem and3 {n : Nat} (h : n < 4294967296) : nI n &&& 3 = nI (n % 4) := pk_andN h 2 rfl
theorem shr2 {n : Nat} (h : n < 2147483648) : nI n >>> ((2 : Int32) &&& 31) = nI (n / 4) := pk_shrN h _ 2 (by decide)
theorem dec1 (x : Int32) : x + Int32.ofInt (-1) = x - 1 := by rw [Int32.sub_eq_add_neg, show Int32.ofInt (-1) = -1 from by decide]
theorem m1_lt : nI 0 - 1 < 0 := by decide
theorem sub1 (m : Nat) : nI (m + 1) - 1 = nI m := nI_pred m
theorem dX1_read_0 : decode cX1_read 0 = .ok (.aload_n 0, 1) := by decide +kernel
theorem dX1_read_1 : decode cX1_read 1 = .ok (.iconst 0, 1) := by decide +kernel
theorem dX1_read_2 : decode cX1_read 2 = .ok (.putfield 15, 3) := by decide +kernel
theorem dX1_read_5 : decode cX1_read 5 = .ok (.iconst 1, 1) := by decide +kernel
theorem dX1_read_6 : decode cX1_read 6 = .ok (.istore_n 2, 1) := by decide +kernel
theorem dX1_read_7 : decode cX1_read 7 = .ok (.iload_n 2, 1) := by decide +kernel
theorem dX1_read_8 : decode cX1_read 8 = .ok (.getstatic 19, 3) := by decide +kernel
theorem dX1_read_11 : decode cX1_read 11 = .ok (.arraylength, 1) := by decide +kernel
theorem dX1_read_12 : decode cX1_read 12 = .ok (.if_icmp .ge 23, 3) := by decide +kernel
theorem dX1_read_15 : decode cX1_read 15 = .ok (.iload_n 1, 1) := by decide +kernel
theorem dX1_read_16 : decode cX1_read 16 = .ok (.getstatic 19, 3) := by decide +kernel
theorem dX1_read_19 : decode cX1_read 19 = .ok (.iload_n 2, 1) := by decide +kernel
theorem dX1_read_20 : decode cX1_read 20 = .ok (.iaload, 1) := by decide +kernel
theorem dX1_read_21 : decode cX1_read 21 = .ok (.if_icmp .lt 8, 3) := by decide +kernel
theorem dX1_read_24 : decode cX1_read 24 = .ok (.aload_n 0, 1) := by decide +kernel
theorem dX1_read_25 : decode cX1_read 25 = .ok (.iload_n 2, 1) := by decide +kernel
theorem dX1_read_26 : decode cX1_read 26 = .ok (.putfield 15, 3) := by decide +kernel
theorem dX1_read_29 : decode cX1_read 29 = .ok (.iinc 2 1, 3) := by decide +kernel
theorem dX1_read_32 : decode cX1_read 32 = .ok (.goto (-25), 3) := by decide +kernel
theorem dX1_read_35 : decode cX1_read 35 = .ok (.iload_n 1, 1) := by decide +kernel
theorem dX1_read_36 : decode cX1_read 36 = .ok (.getstatic 19, 3) := by decide +kernel
theorem dX1_read_39 : decode cX1_read 39 = .ok (.aload_n 0, 1) := by decide +kernel
theorem dX1_read_40 : decode cX1_read 40 = .ok (.getfield 15, 3) := by decide +kernel
theorem dX1_read_43 : decode cX1_read 43 = .ok (.invokestatic 22, 3) := by decide +kernel
theorem dX1_read_46 : decode cX1_read 46 = .ok (.isub, 1) := by decide +kernel
theorem dX1_read_47 : decode cX1_read 47 = .ok (.istore_n 2, 1) := by decide +kernel
theorem dX1_read_48 : decode cX1_read 48 = .ok (.aload_n 0, 1) := by decide +kernel
theorem dX1_read_49 : decode cX1_read 49 = .ok (.getfield 15, 3) := by decide +kernel
theorem dX1_read_52 : decode cX1_read 52 = .ok (.iconst 1, 1) := by decide +kernel
theorem dX1_read_53 : decode cX1_read 53 = .ok (.isub, 1) := by decide +kernel
theorem dX1_read_54 : decode cX1_read 54 = .ok (.istore_n 3, 1) := by decide +kernel
theorem dX1_read_55 : decode cX1_read 55 = .ok (.iload_n 3, 1) := by decide +kernel
theorem dX1_read_56 : decode cX1_read 56 = .ok (.ifCond .lt 24, 3) := by decide +kernel
theorem dX1_read_59 : decode cX1_read 59 = .ok (.aload_n 0, 1) := by decide +kernel
theorem dX1_read_60 : decode cX1_read 60 = .ok (.getfield 9, 3) := by decide +kernel
theorem dX1_read_63 : decode cX1_read 63 = .ok (.iload_n 3, 1) := by decide +kernel
theorem dX1_read_64 : decode cX1_read 64 = .ok (.iload_n 2, 1) := by decide +kernel
theorem dX1_read_65 : decode cX1_read 65 = .ok (.iconst 3, 1) := by decide +kernel
theorem dX1_read_66 : decode cX1_read 66 = .ok (.iand, 1) := by decide +kernel
theorem dX1_read_67 : decode cX1_read 67 = .ok (.invokestatic 26, 3) := by decide +kernel
theorem dX1_read_70 : decode cX1_read 70 = .ok (.iload_n 2, 1) := by decide +kernel
theorem dX1_read_71 : decode cX1_read 71 = .ok (.iconst 2, 1) := by decide +kernel
theorem dX1_read_72 : decode cX1_read 72 = .ok (.ishr, 1) := by decide +kernel
theorem dX1_read_73 : decode cX1_read 73 = .ok (.istore_n 2, 1) := by decide +kernel
theorem dX1_read_74 : decode cX1_read 74 = .ok (.iinc 3 (-1), 3) := by decide +kernel
theorem dX1_read_77 : decode cX1_read 77 = .ok (.goto (-22), 3) := by decide +kernel
theorem dX1_read_80 : decode cX1_read 80 = .ok (.return_, 1) := by decide +kernel
theorem lp_X1_read2 {p n : Nat} {D : Mem} (hp : isPa p) (hn : n < 341) : ∀ (m : Nat) (D1 : Mem), m ≤ sz n → D1 p 1 = nI (sz n) → (∀ k, m ≤ k → k < sz n → D1 (p + 1) k = nI (ltr n k)) → Fr (fun b => b = p ∨ b = p + 1) D D1 → X 2 138 j_X1_read 55 [some (.ref p), some (.int (nI n)), some (.int (nI ((n - fos (sz n)) / 4 ^ (sz n - m)))), some (.int (nI m - 1))] [] (138, P0, D1) (fun x σ => ∃ D' : Mem, x = [] ∧ σ = wd D' ∧ LET D' p (pathL n) ∧ Fr (fun b => b = p ∨ b = p + 1) D D') := by
  intro m
  induction m with
  | zero =>
    intro D1 hm hs hl hf
    obtain ⟨q1, q2, q3, q4, q5, q6⟩ := hp.facts
    refine X_iload_n (nx := 56) dX1_read_55 rfl rfl rfl ?_
    refine X_if_lt (tgt := 80) (nx := 59) dX1_read_56 rfl rfl (fun h56 => ?_) (fun h56 => ?_)
    · skip
      exact Z_retv dX1_read_80 rfl ⟨⟨by rw [pathL_len]; exact sz_le n, by rw [pathL_len]; exact hs, fun k hk => by rw [pathL_len] at hk; rw [pathL_get hk]; exact hl k (by omega) hk, fun x hx => pathL_lt hx⟩, hf⟩
    · exact absurd h56 (fun q => q m1_lt)
  | succ m ih =>
    intro D1 hm hs hl hf
    obtain ⟨q1, q2, q3, q4, q5, q6⟩ := hp.facts
    have hz := sz_le n
    have hq : (n - fos (sz n)) / 4 ^ (sz n - (m + 1)) ≤ n - fos (sz n) := Nat.div_le_self _ _
    refine X_iload_n (nx := 56) dX1_read_55 rfl rfl rfl ?_
    refine X_if_lt (tgt := 80) (nx := 59) dX1_read_56 rfl rfl (fun h56 => ?_) (fun h56 => ?_)
    · exact absurd h56 (by rw [sub1]; exact nI_neg (by omega))
    · skip
      refine X_aload_n (nx := 60) dX1_read_59 rfl rfl rfl ?_
      refine M_getP (nx := 63) dX1_read_60 rfl fl_RX1_9 rfl (by first | assumption | rfl | decide | omega) (by first | assumption | rfl | decide | omega) (by first | assumption | rfl | decide | omega) ?_
      refine X_iload_n (nx := 64) dX1_read_63 rfl rfl rfl ?_
      refine X_top (sub1 m) ?_
      refine X_iload_n (nx := 65) dX1_read_64 rfl rfl rfl ?_
      refine X_iconst (v := 3) (nx := 66) dX1_read_65 rfl rfl ?_
      refine X_iand (nx := 67) dX1_read_66 rfl ?_
      refine X_top (and3 (by omega)) ?_
      refine Y_Sv3 (nx := 70) dX1_read_67 rfl ml_RX1_26 kj_X7_put ks_X7_put (sp_X7_put (i := m) (by omega) (by omega) rfl (by omega)) (by first | decide | omega) (by exact Nat.le_of_ble_eq_true rfl) ?_
      refine X_iload_n (nx := 71) dX1_read_70 rfl rfl rfl ?_
      refine X_iconst (v := 2) (nx := 72) dX1_read_71 rfl rfl ?_
      refine X_ishr (nx := 73) dX1_read_72 rfl ?_
      refine X_top (shr2 (by omega)) ?_
      refine X_istore_n (i := 2) (nx := 74) dX1_read_73 rfl rfl (by decide) rfl (st_s (st_s (st_0))) ?_
      refine X_iinc (nx := 77) dX1_read_74 rfl (by decide) rfl (show nI (m + 1) - 1 + Int32.ofInt (-1) = nI m - 1 by rw [sub1, dec1]) rfl (st_s (st_s (st_s (st_0)))) ?_
      refine X_goto (tgt := 55) dX1_read_77 rfl ?_
      have e1 : (n - fos (sz n)) / 4 ^ (sz n - (m + 1)) / 4 = (n - fos (sz n)) / 4 ^ (sz n - m) := by rw [Nat.div_div_eq_div_mul, show sz n - m = sz n - (m + 1) + 1 by omega, Nat.pow_succ]
      rw [e1]
      refine ih _ (by omega) ((up2_other (by omega)).trans hs) (fun k h1 h2 => ?_) (hf.tr (Fr.up (Or.inr rfl)))
      by_cases hk : k = m
      · subst hk
        rw [up2_same]
        show _ = nI ((n - fos (sz n)) / 4 ^ (sz n - 1 - k) % 4)
        rw [show sz n - 1 - k = sz n - (k + 1) by omega]
      · rw [up2_other (by omega)]; exact hl k (by omega) h2
theorem fos_le : ∀ i, i < 5 → fos i ≤ 85 := by decide
theorem lp_X1_read1 {p n : Nat} {D : Mem} (hp : isPa p) (hn : n < 341) : ∀ (m : Nat) (i : Nat), i + m = 5 → 1 ≤ i → X 2 138 j_X1_read 7 [some (.ref p), some (.int (nI n)), some (.int (nI i)), none] [] (138, P0, up2 D p 1 (nI (szf n i))) (fun x σ => ∃ D' : Mem, x = [] ∧ σ = wd D' ∧ LET D' p (pathL n) ∧ Fr (fun b => b = p ∨ b = p + 1) D D') := by
  intro m
  induction m with
  | zero =>
    intro i hi h1
    obtain ⟨q1, q2, q3, q4, q5, q6⟩ := hp.facts
    have hz := sz_le n
    have hi5 : i = 5 := by omega
    subst hi5
    show X 2 138 j_X1_read 7 _ [] (138, P0, up2 D p 1 (nI (sz n))) _
    refine X_iload_n (nx := 8) dX1_read_7 rfl rfl rfl ?_
    refine X_gs_fos (nx := 11) dX1_read_8 rfl gs_RX1_19 ?_
    refine X_slen (nx := 12) dX1_read_11 rfl (n := 5) (fun _ _ => rfl) ?_
    refine X_icmp_ge (tgt := 35) (nx := 15) dX1_read_12 rfl rfl (fun h12 => ?_) (fun h12 => ?_)
    · skip
      refine X_iload_n (nx := 36) dX1_read_35 rfl rfl rfl ?_
      refine X_gs_fos (nx := 39) dX1_read_36 rfl gs_RX1_19 ?_
      refine X_aload_n (nx := 40) dX1_read_39 rfl rfl rfl ?_
      refine M_getI (nx := 43) dX1_read_40 rfl fl_RX1_15 rfl (by first | assumption | rfl | decide | omega) (by first | assumption | rfl | decide | omega) ?_
      refine X_top (up2_same) ?_
      refine Y_Si2 (nx := 46) dX1_read_43 rfl ml_RX1_22 kj_X7_numberAt ks_X7_numberAt (sp_X7_numberAtF rfl (by omega)) (by first | decide | omega) (by exact Nat.le_of_ble_eq_true rfl) ?_
      refine X_top (fosI _ (by omega)) ?_
      refine X_isub (nx := 47) dX1_read_46 rfl ?_
      refine X_top (sub_nI (fos_sz n hn).1) ?_
      refine X_istore_n (i := 2) (nx := 48) dX1_read_47 rfl rfl (by decide) rfl (st_s (st_s (st_0))) ?_
      refine X_aload_n (nx := 49) dX1_read_48 rfl rfl rfl ?_
      refine M_getI (nx := 52) dX1_read_49 rfl fl_RX1_15 rfl (by first | assumption | rfl | decide | omega) (by first | assumption | rfl | decide | omega) ?_
      refine X_top (up2_same) ?_
      refine X_iconst (v := 1) (nx := 53) dX1_read_52 rfl rfl ?_
      refine X_isub (nx := 54) dX1_read_53 rfl ?_
      refine X_istore_n (i := 3) (nx := 55) dX1_read_54 rfl rfl (by decide) rfl (st_s (st_s (st_s (st_0)))) ?_
      have hq := lp_X1_read2 hp hn (sz n) (up2 D p 1 (nI (sz n))) (Nat.le_refl _) up2_same (fun k h1 h2 => by omega) (Fr.up (Or.inl rfl))
      rw [show sz n - sz n = 0 by omega, Nat.pow_zero, Nat.div_one] at hq
      exact hq
    · exact absurd h12 (fun q => q (nI_le (by omega) (by omega)))
  | succ m ih =>
    intro i hi h1
    obtain ⟨q1, q2, q3, q4, q5, q6⟩ := hp.facts
    refine X_iload_n (nx := 8) dX1_read_7 rfl rfl rfl ?_
    refine X_gs_fos (nx := 11) dX1_read_8 rfl gs_RX1_19 ?_
    refine X_slen (nx := 12) dX1_read_11 rfl (n := 5) (fun _ _ => rfl) ?_
    refine X_icmp_ge (tgt := 35) (nx := 15) dX1_read_12 rfl rfl (fun h12 => ?_) (fun h12 => ?_)
    · exact absurd h12 (nI_ge (by omega) (by omega))
    · skip
      refine X_iload_n (nx := 16) dX1_read_15 rfl rfl rfl ?_
      refine X_gs_fos (nx := 19) dX1_read_16 rfl gs_RX1_19 ?_
      refine X_iload_n (nx := 20) dX1_read_19 rfl rfl rfl ?_
      refine X_sld (nx := 21) dX1_read_20 rfl (n := 5) (fun _ _ => rfl) (vp_in_nI (by omega) (by omega)) ?_
      refine X_top ((congrArg (fun k => ([0, 1, 5, 21, 85] : List Int32).getD k 0) (nI_clamp (by omega))).trans (fosI i (by omega))) ?_
      refine X_icmp_lt (tgt := 29) (nx := 24) dX1_read_21 rfl rfl (fun h21 => ?_) (fun h21 => ?_)
      · skip
        rw [nI_ltI (by omega) (by have := fos_le i (by omega); omega)] at h21
        refine X_iinc (nx := 32) dX1_read_29 rfl (by decide) rfl (by first | exact ii1 _ | rfl) rfl (st_s (st_s (st_0))) ?_
        refine X_goto (tgt := 7) dX1_read_32 rfl ?_
        first
          | (have e1 : szf n (i + 1) = i := if_pos ⟨h1, by omega⟩
             have e2 := ih (i + 1) (by omega) (by omega)
             rw [e1] at e2
             rw [up2_up2]; exact e2)
          | (have e1 : szf n (i + 1) = szf n i := if_neg (by omega)
             have e2 := ih (i + 1) (by omega) (by omega)
             rw [e1] at e2
             exact e2)
      · skip
        rw [nI_ltI (by omega) (by have := fos_le i (by omega); omega)] at h21
        refine X_aload_n (nx := 25) dX1_read_24 rfl rfl rfl ?_
        refine X_iload_n (nx := 26) dX1_read_25 rfl rfl rfl ?_
        refine M_putI (nx := 29) dX1_read_26 rfl fl_RX1_15 rfl rfl (by first | assumption | rfl | decide | omega) (by first | assumption | rfl | decide | omega) ?_
        refine X_iinc (nx := 32) dX1_read_29 rfl (by decide) rfl (by first | exact ii1 _ | rfl) rfl (st_s (st_s (st_0))) ?_
        refine X_goto (tgt := 7) dX1_read_32 rfl ?_
        first
          | (have e1 : szf n (i + 1) = i := if_pos ⟨h1, by omega⟩
             have e2 := ih (i + 1) (by omega) (by omega)
             rw [e1] at e2
             rw [up2_up2]; exact e2)
          | (have e1 : szf n (i + 1) = szf n i := if_neg (by omega)
             have e2 := ih (i + 1) (by omega) (by omega)
             rw [e1] at e2
             exact e2)
theorem sp_X1_read {p n : Nat} {x : Int32} {D : Mem} (hp : isPa p) (hx : x = nI n) (hn : n < 341) : Rvx 2 j_X1_read [.ref p, .int x] D (fun D' => LET D' p (pathL n) ∧ Fr (fun b => b = p ∨ b = p + 1) D D') := by
  refine E.start 2 (ls := [some (.ref p), some (.int x), none, none]) (by decide +kernel) (Nat.le_of_ble_eq_true rfl) rfl (Nat.le_refl _) (Nat.le_refl _) ?_
  subst hx
  obtain ⟨q1, q2, q3, q4, q5, q6⟩ := hp.facts
  refine X_aload_n (nx := 1) dX1_read_0 rfl rfl rfl ?_
  refine X_iconst (v := 0) (nx := 2) dX1_read_1 rfl rfl ?_
  refine M_putI (nx := 5) dX1_read_2 rfl fl_RX1_15 rfl rfl (by first | assumption | rfl | decide | omega) (by first | assumption | rfl | decide | omega) ?_
  refine X_iconst (v := nI 1) (nx := 6) dX1_read_5 rfl rfl ?_
  refine X_istore_n (i := 2) (nx := 7) dX1_read_6 rfl rfl (by decide) rfl (st_s (st_s (st_0))) ?_
  exact lp_X1_read1 hp hn 4 1 rfl (Nat.le_refl _)
end
section
/-! BOOKS: routers and routes, abstractly -/
/-- kinds, figures, how many came, there, router, verb, mounted, segments -/
abbrev Bk := (Nat → Nat) × (Nat → Nat) × Nat × (Nat → Bool) × (Nat → Nat) × (Nat → Int32) × (Nat → Int32) × (Nat → List Nat)
def kd_ (B : Bk) : Nat → Nat := B.1
def fg_ (B : Bk) : Nat → Nat := B.2.1
def cm_ (B : Bk) : Nat := B.2.2.1
def th_ (B : Bk) : Nat → Bool := B.2.2.2.1
def ro_ (B : Bk) : Nat → Nat := B.2.2.2.2.1
def vb_ (B : Bk) : Nat → Int32 := B.2.2.2.2.2.1
def mo_ (B : Bk) : Nat → Int32 := B.2.2.2.2.2.2.1
def sg_ (B : Bk) : Nat → List Nat := B.2.2.2.2.2.2.2
/-- the cells of a book hold it -/
def Enc (D : Mem) (b : Nat) (B : Bk) : Prop :=
  (∀ i, i < 3 → D (b + 1) i = nI (kd_ B i) ∧ D (b + 2) i = nI (fg_ B i)) ∧ D b 4 = nI (cm_ B) ∧ cm_ B ≤ 10 ∧ ∀ i, i < cm_ B → RT D (rt b i) (th_ B i) (ro_ B i) (vb_ B i) (mo_ B i) (sg_ B i)
/-- the booleans of a book's cells are booleans -/
def ZB (D : Mem) (b : Nat) : Prop := ∀ i, i < 10 → D (rt b i) 6 = 0 ∨ D (rt b i) 6 = 1
def inB (b x : Nat) : Prop := b ≤ x ∧ x < b + 26
theorem Enc.fr {D D' : Mem} {b : Nat} {B : Bk} (h : Enc D b B) (hf : ∀ x, inB b x → D' x = D x) : Enc D' b B := by
  obtain ⟨h1, h2, h3, h4⟩ := h
  refine ⟨fun i hi => ⟨by rw [hf _ ⟨by omega, by omega⟩]; exact (h1 i hi).1, by rw [hf _ ⟨by omega, by omega⟩]; exact (h1 i hi).2⟩, by rw [hf _ ⟨by omega, by omega⟩]; exact h2, h3, fun i hi => (h4 i hi).fr (hf _ ⟨by unfold rt; omega, by unfold rt; omega⟩) (hf _ ⟨by unfold rt; omega, by unfold rt; omega⟩)⟩
theorem ZB.fr {D D' : Mem} {b : Nat} (h : ZB D b) (hf : ∀ x, inB b x → D' x = D x) : ZB D' b := fun i hi => by
  rw [hf _ ⟨by unfold rt; omega, by unfold rt; omega⟩]; exact h i hi
/-- whether a number is a route's that is there -/
def isTh (B : Bk) (x : Int32) : Bool := decide (0 ≤ x ∧ x < nI (cm_ B)) && th_ B x.toNatClampNeg
def thN (B : Bk) (i : Nat) : Bool := decide (i < cm_ B) && th_ B i
theorem isTh_n {B : Bk} {i : Nat} (hc : cm_ B ≤ 10) (hi : i < 2147483648) : isTh B (nI i) = thN B i := by
  unfold isTh thN
  rw [nI_clamp hi]
  congr 1
  exact decide_eq_decide.mpr ⟨fun q => (nI_ltI hi (by omega)).mp q.2, fun q => ⟨nI_pos' hi, nI_lt q (by omega)⟩⟩
theorem isTh_t {B : Bk} {x : Int32} (hc : cm_ B ≤ 10) (h : isTh B x = true) : ∃ i, i < cm_ B ∧ x = nI i ∧ th_ B i = true := by
  unfold isTh at h
  simp only [Bool.and_eq_true, decide_eq_true_eq] at h
  obtain ⟨⟨h1, h2⟩, h3⟩ := h
  obtain ⟨i, hi, rfl⟩ := nI_of (Int32.not_lt.mpr h1)
  refine ⟨i, (nI_ltI hi (by omega)).mp h2, rfl, ?_⟩
  rw [nI_clamp hi] at h3
  exact h3
/-- whether it is a mount -/
def mtB (B : Bk) (i : Nat) : Bool := decide (0 ≤ mo_ B i)
def sumN (f : Nat → Nat) : Nat → Nat
  | 0 => 0
  | n + 1 => sumN f n + f n
def sgs (B : Bk) (i : Nat) : Nat := if thN B i = true then (sg_ B i).length else 0
theorem dX0_at_0 : decode cX0_at 0 = .ok (.iload_n 1, 1) := by decide +kernel
theorem dX0_at_1 : decode cX0_at 1 = .ok (.ifCond .lt 12, 3) := by decide +kernel
theorem dX0_at_4 : decode cX0_at 4 = .ok (.iload_n 1, 1) := by decide +kernel
theorem dX0_at_5 : decode cX0_at 5 = .ok (.aload_n 0, 1) := by decide +kernel
theorem dX0_at_6 : decode cX0_at 6 = .ok (.getfield 20, 3) := by decide +kernel
theorem dX0_at_9 : decode cX0_at 9 = .ok (.arraylength, 1) := by decide +kernel
theorem dX0_at_10 : decode cX0_at 10 = .ok (.if_icmp .lt 8, 3) := by decide +kernel
theorem dX0_at_13 : decode cX0_at 13 = .ok (.aload_n 0, 1) := by decide +kernel
theorem dX0_at_14 : decode cX0_at 14 = .ok (.getfield 25, 3) := by decide +kernel
theorem dX0_at_17 : decode cX0_at 17 = .ok (.areturn, 1) := by decide +kernel
theorem dX0_at_18 : decode cX0_at 18 = .ok (.aload_n 0, 1) := by decide +kernel
theorem dX0_at_19 : decode cX0_at 19 = .ok (.getfield 20, 3) := by decide +kernel
theorem dX0_at_22 : decode cX0_at 22 = .ok (.iload_n 1, 1) := by decide +kernel
theorem dX0_at_23 : decode cX0_at 23 = .ok (.aaload, 1) := by decide +kernel
theorem dX0_at_24 : decode cX0_at 24 = .ok (.astore_n 2, 1) := by decide +kernel
theorem dX0_at_25 : decode cX0_at 25 = .ok (.aload_n 2, 1) := by decide +kernel
theorem dX0_at_26 : decode cX0_at 26 = .ok (.ifnonnull 10, 3) := by decide +kernel
theorem dX0_at_29 : decode cX0_at 29 = .ok (.aload_n 0, 1) := by decide +kernel
theorem dX0_at_30 : decode cX0_at 30 = .ok (.getfield 25, 3) := by decide +kernel
theorem dX0_at_33 : decode cX0_at 33 = .ok (.goto 4, 3) := by decide +kernel
theorem dX0_at_36 : decode cX0_at 36 = .ok (.aload_n 2, 1) := by decide +kernel
theorem dX0_at_37 : decode cX0_at 37 = .ok (.areturn, 1) := by decide +kernel
theorem sp_X0_at {b i : Nat} {x : Int32} {D : Mem} (hb : isB b) (hx : x = nI i) (hi : i < 10) : Er 1 j_X0_at [.ref b, .int x] D (rt b i) (D) := by
  refine E.start 1 (ls := [some (.ref b), some (.int x), none]) (by decide +kernel) (Nat.le_of_ble_eq_true rfl) rfl (Nat.le_refl _) (Nat.le_refl _) ?_
  subst hx
  obtain ⟨⟨b1, b2⟩, ⟨b3, b4, b5, b6⟩, ⟨b7, b8, b9⟩, ⟨c1, c2, c3⟩, ⟨c4, c5, c6⟩, c7, c8⟩ := hb.facts
  have hin : vp_in (nI i) (lay (b + 3)).2 := vp_in_nI (by omega) (by omega)
  have hpp : P0 (b + 3) (nI i).toNatClampNeg = some (rt b i) := by rw [nI_clamp (by omega)]; exact (c8 i hi).1
  refine X_iload_n (nx := 1) dX0_at_0 rfl rfl rfl ?_
  refine X_if_lt (tgt := 13) (nx := 4) dX0_at_1 rfl rfl (fun h1 => ?_) (fun h1 => ?_)
  · exact absurd h1 (nI_neg (by omega))
  · skip
    refine X_iload_n (nx := 5) dX0_at_4 rfl rfl rfl ?_
    refine X_aload_n (nx := 6) dX0_at_5 rfl rfl rfl ?_
    refine M_getP (nx := 9) dX0_at_6 rfl fl_RX0_20 rfl (by first | assumption | rfl | decide | omega) (by first | assumption | rfl | decide | omega) (by first | assumption | rfl | decide | omega) ?_
    refine M_alen (nx := 10) dX0_at_9 rfl (by first | assumption | rfl | decide | omega) (Or.inr (by assumption)) ?_
    refine X_icmp_lt (tgt := 18) (nx := 13) dX0_at_10 rfl rfl (fun h10 => ?_) (fun h10 => ?_)
    · skip
      refine X_aload_n (nx := 19) dX0_at_18 rfl rfl rfl ?_
      refine M_getP (nx := 22) dX0_at_19 rfl fl_RX0_20 rfl (by first | assumption | rfl | decide | omega) (by first | assumption | rfl | decide | omega) (by first | assumption | rfl | decide | omega) ?_
      refine X_iload_n (nx := 23) dX0_at_22 rfl rfl rfl ?_
      refine M_aald (nx := 24) dX0_at_23 rfl (by first | assumption | rfl | decide | omega) (by first | assumption | rfl | decide | omega) hin (by assumption) ?_
      refine X_astore_n (i := 2) (nx := 25) dX0_at_24 rfl rfl (by decide) rfl (st_s (st_s (st_0))) ?_
      refine X_aload_n (nx := 26) dX0_at_25 rfl rfl rfl ?_
      refine X_ifnonnull (tgt := 36) dX0_at_26 rfl ?_
      refine X_aload_n (nx := 37) dX0_at_36 rfl rfl rfl ?_
      exact Y_reta dX0_at_37 ⟨_, rfl⟩ rfl rfl
    · exact absurd h10 (fun q => q (nI_lt (by omega) (by omega)))
theorem dX0_isThere_0 : decode cX0_isThere 0 = .ok (.iload_n 1, 1) := by decide +kernel
theorem dX0_isThere_1 : decode cX0_isThere 1 = .ok (.ifCond .lt 26, 3) := by decide +kernel
theorem dX0_isThere_4 : decode cX0_isThere 4 = .ok (.iload_n 1, 1) := by decide +kernel
theorem dX0_isThere_5 : decode cX0_isThere 5 = .ok (.aload_n 0, 1) := by decide +kernel
theorem dX0_isThere_6 : decode cX0_isThere 6 = .ok (.getfield 45, 3) := by decide +kernel
theorem dX0_isThere_9 : decode cX0_isThere 9 = .ok (.if_icmp .ge 18, 3) := by decide +kernel
theorem dX0_isThere_12 : decode cX0_isThere 12 = .ok (.aload_n 0, 1) := by decide +kernel
theorem dX0_isThere_13 : decode cX0_isThere 13 = .ok (.iload_n 1, 1) := by decide +kernel
theorem dX0_isThere_14 : decode cX0_isThere 14 = .ok (.invokevirtual 37, 3) := by decide +kernel
theorem dX0_isThere_17 : decode cX0_isThere 17 = .ok (.getfield 49, 3) := by decide +kernel
theorem dX0_isThere_20 : decode cX0_isThere 20 = .ok (.ifCond .eq 7, 3) := by decide +kernel
theorem dX0_isThere_23 : decode cX0_isThere 23 = .ok (.iconst 1, 1) := by decide +kernel
theorem dX0_isThere_24 : decode cX0_isThere 24 = .ok (.goto 4, 3) := by decide +kernel
theorem dX0_isThere_27 : decode cX0_isThere 27 = .ok (.iconst 0, 1) := by decide +kernel
theorem dX0_isThere_28 : decode cX0_isThere 28 = .ok (.ireturn, 1) := by decide +kernel
theorem sp_X0_isThere {b : Nat} {B : Bk} {x : Int32} {D : Mem} (hb : isB b) (h : Enc D b B) : Ei 2 j_X0_isThere [.ref b, .int x] D (b2i (isTh B x)) (D) := by
  obtain ⟨⟨b1, b2⟩, ⟨b3, b4, b5, b6⟩, ⟨b7, b8, b9⟩, ⟨c1, c2, c3⟩, ⟨c4, c5, c6⟩, c7, c8⟩ := hb.facts
  have hc := h.2.2.1
  refine E.start 0 (ls := [some (.ref b), some (.int x)]) (by decide +kernel) (Nat.le_of_ble_eq_true rfl) rfl (Nat.le_refl _) (Nat.le_refl _) ?_
  refine X_iload_n (nx := 1) dX0_isThere_0 rfl rfl rfl ?_
  refine X_if_lt (tgt := 27) (nx := 4) dX0_isThere_1 rfl rfl (fun h1 => ?_) (fun h1 => ?_)
  · skip
    refine X_iconst (v := 0) (nx := 28) dX0_isThere_27 rfl rfl ?_
    exact Y_reti dX0_isThere_28 (Or.inr ⟨rfl, by first | exact Or.inl rfl | exact Or.inr rfl | exact b2i_01 _ | assumption⟩) (by first | (unfold isTh; rw [decide_eq_false (fun q => absurd q.1 (Int32.not_le.mpr (by assumption)))]; rfl) | (unfold isTh; rw [decide_eq_false (fun q => absurd q.2 (Int32.not_lt.mpr (by assumption)))]; rfl) | (rw [hr.1, b2i_f] at h20; rw [h20]; rfl) | (rw [hr.1, b2i_t] at h20; rw [h20]; rfl)) rfl
  · skip
    refine X_iload_n (nx := 5) dX0_isThere_4 rfl rfl rfl ?_
    refine X_aload_n (nx := 6) dX0_isThere_5 rfl rfl rfl ?_
    refine M_getI (nx := 9) dX0_isThere_6 rfl fl_RX0_45 rfl (by first | assumption | rfl | decide | omega) (by first | assumption | rfl | decide | omega) ?_
    refine X_top (h.2.1) ?_
    refine X_icmp_ge (tgt := 27) (nx := 12) dX0_isThere_9 rfl rfl (fun h9 => ?_) (fun h9 => ?_)
    · skip
      refine X_iconst (v := 0) (nx := 28) dX0_isThere_27 rfl rfl ?_
      exact Y_reti dX0_isThere_28 (Or.inr ⟨rfl, by first | exact Or.inl rfl | exact Or.inr rfl | exact b2i_01 _ | assumption⟩) (by first | (unfold isTh; rw [decide_eq_false (fun q => absurd q.1 (Int32.not_le.mpr (by assumption)))]; rfl) | (unfold isTh; rw [decide_eq_false (fun q => absurd q.2 (Int32.not_lt.mpr (by assumption)))]; rfl) | (rw [hr.1, b2i_f] at h20; rw [h20]; rfl) | (rw [hr.1, b2i_t] at h20; rw [h20]; rfl)) rfl
    · skip
      obtain ⟨i, hi, rfl⟩ := nI_of h1
      have hic : i < cm_ B := (nI_ltI hi (by omega)).mp (Int32.not_le.mp h9)
      have hri := (c8 i (by omega)).2.facts
      have hr := h.2.2.2 i hic
      rw [isTh_n hc hi]
      unfold thN
      rw [decide_eq_true hic, Bool.true_and]
      refine X_aload_n (nx := 13) dX0_isThere_12 rfl rfl rfl ?_
      refine X_iload_n (nx := 14) dX0_isThere_13 rfl rfl rfl ?_
      refine Y_Vr1 (nx := 17) dX0_isThere_14 rfl ml_RX0_37 kj_X0_at kv_X0_at (sp_X0_at hb (i := i) rfl (by omega)) (by first | assumption | rfl | decide | omega) (by first | assumption | rfl | decide | omega) (by decide) rfl (by first | decide | omega) (by exact Nat.le_of_ble_eq_true rfl) ?_
      obtain ⟨r1, r2, r3, r4, r5, r6⟩ := hri
      refine M_getI (nx := 20) dX0_isThere_17 rfl fl_RX0_49 rfl (by first | assumption | rfl | decide | omega) (by first | assumption | rfl | decide | omega) ?_
      refine X_if_eq (tgt := 27) (nx := 23) dX0_isThere_20 rfl rfl (fun h20 => ?_) (fun h20 => ?_)
      · skip
        refine X_iconst (v := 0) (nx := 28) dX0_isThere_27 rfl rfl ?_
        exact Y_reti dX0_isThere_28 (Or.inr ⟨rfl, by first | exact Or.inl rfl | exact Or.inr rfl | exact b2i_01 _ | assumption⟩) (by first | (unfold isTh; rw [decide_eq_false (fun q => absurd q.1 (Int32.not_le.mpr (by assumption)))]; rfl) | (unfold isTh; rw [decide_eq_false (fun q => absurd q.2 (Int32.not_lt.mpr (by assumption)))]; rfl) | (rw [hr.1, b2i_f] at h20; rw [h20]; rfl) | (rw [hr.1, b2i_t] at h20; rw [h20]; rfl)) rfl
      · skip
        refine X_iconst (v := 1) (nx := 24) dX0_isThere_23 rfl rfl ?_
        refine X_goto (tgt := 28) dX0_isThere_24 rfl ?_
        exact Y_reti dX0_isThere_28 (Or.inr ⟨rfl, by first | exact Or.inl rfl | exact Or.inr rfl | exact b2i_01 _ | assumption⟩) (by first | (unfold isTh; rw [decide_eq_false (fun q => absurd q.1 (Int32.not_le.mpr (by assumption)))]; rfl) | (unfold isTh; rw [decide_eq_false (fun q => absurd q.2 (Int32.not_lt.mpr (by assumption)))]; rfl) | (rw [hr.1, b2i_f] at h20; rw [h20]; rfl) | (rw [hr.1, b2i_t] at h20; rw [h20]; rfl)) rfl
theorem dX0_isFull_0 : decode cX0_isFull 0 = .ok (.aload_n 0, 1) := by decide +kernel
theorem dX0_isFull_1 : decode cX0_isFull 1 = .ok (.getfield 45, 3) := by decide +kernel
theorem dX0_isFull_4 : decode cX0_isFull 4 = .ok (.bipush 10, 2) := by decide +kernel
theorem dX0_isFull_6 : decode cX0_isFull 6 = .ok (.if_icmp .lt 7, 3) := by decide +kernel
theorem dX0_isFull_9 : decode cX0_isFull 9 = .ok (.iconst 1, 1) := by decide +kernel
theorem dX0_isFull_10 : decode cX0_isFull 10 = .ok (.goto 4, 3) := by decide +kernel
theorem dX0_isFull_13 : decode cX0_isFull 13 = .ok (.iconst 0, 1) := by decide +kernel
theorem dX0_isFull_14 : decode cX0_isFull 14 = .ok (.ireturn, 1) := by decide +kernel
theorem sp_X0_isFull {b : Nat} {B : Bk} {D : Mem} (hb : isB b) (h : Enc D b B) : Ei 1 j_X0_isFull [.ref b] D (b2i (decide (10 ≤ cm_ B))) (D) := by
  obtain ⟨⟨b1, b2⟩, ⟨b3, b4, b5, b6⟩, ⟨b7, b8, b9⟩, ⟨c1, c2, c3⟩, ⟨c4, c5, c6⟩, c7, c8⟩ := hb.facts
  have hc := h.2.2.1
  refine E.start 0 (ls := [some (.ref b)]) (by decide +kernel) (Nat.le_of_ble_eq_true rfl) rfl (Nat.le_refl _) (Nat.le_refl _) ?_
  refine X_aload_n (nx := 1) dX0_isFull_0 rfl rfl rfl ?_
  refine M_getI (nx := 4) dX0_isFull_1 rfl fl_RX0_45 rfl (by first | assumption | rfl | decide | omega) (by first | assumption | rfl | decide | omega) ?_
  refine X_top (h.2.1) ?_
  refine X_bipush (v := nI 10) (nx := 6) dX0_isFull_4 rfl rfl ?_
  refine X_icmp_lt (tgt := 13) (nx := 9) dX0_isFull_6 rfl rfl (fun h6 => ?_) (fun h6 => ?_)
  · skip
    rw [nI_ltI (by omega) (by omega)] at h6
    refine X_iconst (v := 0) (nx := 14) dX0_isFull_13 rfl rfl ?_
    exact Y_reti dX0_isFull_14 (Or.inr ⟨rfl, by first | exact Or.inl rfl | exact Or.inr rfl | exact b2i_01 _ | assumption⟩) (by first | exact cl_t (by omega) | exact cl_f (by omega)) rfl
  · skip
    rw [nI_ltI (by omega) (by omega)] at h6
    refine X_iconst (v := 1) (nx := 10) dX0_isFull_9 rfl rfl ?_
    refine X_goto (tgt := 14) dX0_isFull_10 rfl ?_
    exact Y_reti dX0_isFull_14 (Or.inr ⟨rfl, by first | exact Or.inl rfl | exact Or.inr rfl | exact b2i_01 _ | assumption⟩) (by first | exact cl_t (by omega) | exact cl_f (by omega)) rfl
theorem dX0_draft_0 : decode cX0_draft 0 = .ok (.aload_n 0, 1) := by decide +kernel
theorem dX0_draft_1 : decode cX0_draft 1 = .ok (.aload_n 0, 1) := by decide +kernel
theorem dX0_draft_2 : decode cX0_draft 2 = .ok (.getfield 45, 3) := by decide +kernel
theorem dX0_draft_5 : decode cX0_draft 5 = .ok (.invokevirtual 37, 3) := by decide +kernel
theorem dX0_draft_8 : decode cX0_draft 8 = .ok (.areturn, 1) := by decide +kernel
theorem sp_X0_draft {b : Nat} {B : Bk} {D : Mem} (hb : isB b) (h : Enc D b B) (hl : cm_ B < 10) : Er 2 j_X0_draft [.ref b] D (rt b (cm_ B)) (D) := by
  obtain ⟨⟨b1, b2⟩, ⟨b3, b4, b5, b6⟩, ⟨b7, b8, b9⟩, ⟨c1, c2, c3⟩, ⟨c4, c5, c6⟩, c7, c8⟩ := hb.facts
  have hc := h.2.2.1
  refine E.start 0 (ls := [some (.ref b)]) (by decide +kernel) (Nat.le_of_ble_eq_true rfl) rfl (Nat.le_refl _) (Nat.le_refl _) ?_
  refine X_aload_n (nx := 1) dX0_draft_0 rfl rfl rfl ?_
  refine X_aload_n (nx := 2) dX0_draft_1 rfl rfl rfl ?_
  refine M_getI (nx := 5) dX0_draft_2 rfl fl_RX0_45 rfl (by first | assumption | rfl | decide | omega) (by first | assumption | rfl | decide | omega) ?_
  refine X_top (h.2.1) ?_
  refine Y_Vr1 (nx := 8) dX0_draft_5 rfl ml_RX0_37 kj_X0_at kv_X0_at (sp_X0_at hb rfl hl) (by first | assumption | rfl | decide | omega) (by first | assumption | rfl | decide | omega) (by decide) rfl (by first | decide | omega) (by exact Nat.le_of_ble_eq_true rfl) ?_
  exact Y_reta dX0_draft_8 ⟨_, rfl⟩ rfl rfl
theorem dX0_addDraft_0 : decode cX0_addDraft 0 = .ok (.aload_n 0, 1) := by decide +kernel
theorem dX0_addDraft_1 : decode cX0_addDraft 1 = .ok (.invokevirtual 53, 3) := by decide +kernel
theorem dX0_addDraft_4 : decode cX0_addDraft 4 = .ok (.ifCond .ne 25, 3) := by decide +kernel
theorem dX0_addDraft_7 : decode cX0_addDraft 7 = .ok (.aload_n 0, 1) := by decide +kernel
theorem dX0_addDraft_8 : decode cX0_addDraft 8 = .ok (.aload_n 0, 1) := by decide +kernel
theorem dX0_addDraft_9 : decode cX0_addDraft 9 = .ok (.getfield 45, 3) := by decide +kernel
theorem dX0_addDraft_12 : decode cX0_addDraft 12 = .ok (.invokevirtual 37, 3) := by decide +kernel
theorem dX0_addDraft_15 : decode cX0_addDraft 15 = .ok (.iconst 1, 1) := by decide +kernel
theorem dX0_addDraft_16 : decode cX0_addDraft 16 = .ok (.putfield 49, 3) := by decide +kernel
theorem dX0_addDraft_19 : decode cX0_addDraft 19 = .ok (.aload_n 0, 1) := by decide +kernel
theorem dX0_addDraft_20 : decode cX0_addDraft 20 = .ok (.dup, 1) := by decide +kernel
theorem dX0_addDraft_21 : decode cX0_addDraft 21 = .ok (.getfield 45, 3) := by decide +kernel
theorem dX0_addDraft_24 : decode cX0_addDraft 24 = .ok (.iconst 1, 1) := by decide +kernel
theorem dX0_addDraft_25 : decode cX0_addDraft 25 = .ok (.iadd, 1) := by decide +kernel
theorem dX0_addDraft_26 : decode cX0_addDraft 26 = .ok (.putfield 45, 3) := by decide +kernel
theorem dX0_addDraft_29 : decode cX0_addDraft 29 = .ok (.return_, 1) := by decide +kernel
theorem sp_X0_addDraft {b : Nat} {B : Bk} {D : Mem} (hb : isB b) (h : Enc D b B) (hl : cm_ B < 10) : Ev 2 j_X0_addDraft [.ref b] D (up2 (up2 D (rt b (cm_ B)) 6 1) b 4 (nI (cm_ B + 1))) := by
  obtain ⟨⟨b1, b2⟩, ⟨b3, b4, b5, b6⟩, ⟨b7, b8, b9⟩, ⟨c1, c2, c3⟩, ⟨c4, c5, c6⟩, c7, c8⟩ := hb.facts
  obtain ⟨r1, r2, r3, r4, r5, r6⟩ := (c8 _ hl).2.facts
  have hne : ¬ b = rt b (cm_ B) := by unfold rt; omega
  refine E.start 0 (ls := [some (.ref b)]) (by decide +kernel) (Nat.le_of_ble_eq_true rfl) rfl (Nat.le_refl _) (Nat.le_refl _) ?_
  refine X_aload_n (nx := 1) dX0_addDraft_0 rfl rfl rfl ?_
  refine Y_Vi0 (nx := 4) dX0_addDraft_1 rfl ml_RX0_53 kj_X0_isFull kv_X0_isFull (sp_X0_isFull hb h) (by first | assumption | rfl | decide | omega) (by first | assumption | rfl | decide | omega) (by decide) rfl (by first | decide | omega) (by exact Nat.le_of_ble_eq_true rfl) ?_
  refine X_if_ne (tgt := 29) (nx := 7) dX0_addDraft_4 rfl rfl (fun h4 => ?_) (fun h4 => ?_)
  · exact absurd h4 (fun q => q (by rw [decide_eq_false (by omega)]; rfl))
  · skip
    refine X_aload_n (nx := 8) dX0_addDraft_7 rfl rfl rfl ?_
    refine X_aload_n (nx := 9) dX0_addDraft_8 rfl rfl rfl ?_
    refine M_getI (nx := 12) dX0_addDraft_9 rfl fl_RX0_45 rfl (by first | assumption | rfl | decide | omega) (by first | assumption | rfl | decide | omega) ?_
    refine X_top (h.2.1) ?_
    refine Y_Vr1 (nx := 15) dX0_addDraft_12 rfl ml_RX0_37 kj_X0_at kv_X0_at (sp_X0_at hb rfl hl) (by first | assumption | rfl | decide | omega) (by first | assumption | rfl | decide | omega) (by decide) rfl (by first | decide | omega) (by exact Nat.le_of_ble_eq_true rfl) ?_
    refine X_iconst (v := 1) (nx := 16) dX0_addDraft_15 rfl rfl ?_
    refine M_putZ (nx := 19) dX0_addDraft_16 rfl fl_RX0_49 rfl rfl (Or.inr rfl) (by first | assumption | rfl | decide | omega) (by first | assumption | rfl | decide | omega) ?_
    refine X_aload_n (nx := 20) dX0_addDraft_19 rfl rfl rfl ?_
    refine X_dup (nx := 21) dX0_addDraft_20 rfl rfl ?_
    refine M_getI (nx := 24) dX0_addDraft_21 rfl fl_RX0_45 rfl (by first | assumption | rfl | decide | omega) (by first | assumption | rfl | decide | omega) ?_
    refine X_top ((up2_other (fun q => hne q.1)).trans h.2.1) ?_
    refine X_iconst (v := 1) (nx := 25) dX0_addDraft_24 rfl rfl ?_
    refine X_iadd (nx := 26) dX0_addDraft_25 rfl ?_
    refine X_top (nI_1 _) ?_
    refine M_putI (nx := 29) dX0_addDraft_26 rfl fl_RX0_45 rfl rfl (by first | assumption | rfl | decide | omega) (by first | assumption | rfl | decide | omega) ?_
    exact Y_retv dX0_addDraft_29 rfl rfl
theorem dX0_thereBits_0 : decode cX0_thereBits 0 = .ok (.iconst 0, 1) := by decide +kernel
theorem dX0_thereBits_1 : decode cX0_thereBits 1 = .ok (.istore_n 1, 1) := by decide +kernel
theorem dX0_thereBits_2 : decode cX0_thereBits 2 = .ok (.iconst 0, 1) := by decide +kernel
theorem dX0_thereBits_3 : decode cX0_thereBits 3 = .ok (.istore_n 2, 1) := by decide +kernel
theorem dX0_thereBits_4 : decode cX0_thereBits 4 = .ok (.iload_n 2, 1) := by decide +kernel
theorem dX0_thereBits_5 : decode cX0_thereBits 5 = .ok (.bipush 10, 2) := by decide +kernel
theorem dX0_thereBits_7 : decode cX0_thereBits 7 = .ok (.if_icmp .ge 23, 3) := by decide +kernel
theorem dX0_thereBits_10 : decode cX0_thereBits 10 = .ok (.aload_n 0, 1) := by decide +kernel
theorem dX0_thereBits_11 : decode cX0_thereBits 11 = .ok (.iload_n 2, 1) := by decide +kernel
theorem dX0_thereBits_12 : decode cX0_thereBits 12 = .ok (.invokevirtual 57, 3) := by decide +kernel
theorem dX0_thereBits_15 : decode cX0_thereBits 15 = .ok (.ifCond .eq 9, 3) := by decide +kernel
theorem dX0_thereBits_18 : decode cX0_thereBits 18 = .ok (.iload_n 1, 1) := by decide +kernel
theorem dX0_thereBits_19 : decode cX0_thereBits 19 = .ok (.iconst 1, 1) := by decide +kernel
theorem dX0_thereBits_20 : decode cX0_thereBits 20 = .ok (.iload_n 2, 1) := by decide +kernel
theorem dX0_thereBits_21 : decode cX0_thereBits 21 = .ok (.ishl, 1) := by decide +kernel
theorem dX0_thereBits_22 : decode cX0_thereBits 22 = .ok (.ior, 1) := by decide +kernel
theorem dX0_thereBits_23 : decode cX0_thereBits 23 = .ok (.istore_n 1, 1) := by decide +kernel
theorem dX0_thereBits_24 : decode cX0_thereBits 24 = .ok (.iinc 2 1, 3) := by decide +kernel
theorem dX0_thereBits_27 : decode cX0_thereBits 27 = .ok (.goto (-23), 3) := by decide +kernel
theorem dX0_thereBits_30 : decode cX0_thereBits 30 = .ok (.iload_n 1, 1) := by decide +kernel
theorem dX0_thereBits_31 : decode cX0_thereBits 31 = .ok (.ireturn, 1) := by decide +kernel
theorem lp_X0_thereBits {b : Nat} {B : Bk} {D : Mem} (hb : isB b) (h : Enc D b B) : ∀ (m : Nat) (i : Nat), i + m = 10 → X 3 138 j_X0_thereBits 4 [some (.ref b), some (.int (nI (mkn (thN B) i))), some (.int (nI i))] [] (138, P0, D) (fun r σ => r = [.int (nI (mkn (thN B) 10))] ∧ σ = wd D) := by
  intro m
  induction m with
  | zero =>
    intro i hi
    obtain ⟨⟨b1, b2⟩, ⟨b3, b4, b5, b6⟩, ⟨b7, b8, b9⟩, ⟨c1, c2, c3⟩, ⟨c4, c5, c6⟩, c7, c8⟩ := hb.facts
    refine X_iload_n (nx := 5) dX0_thereBits_4 rfl rfl rfl ?_
    refine X_bipush (v := nI 10) (nx := 7) dX0_thereBits_5 rfl rfl ?_
    refine X_icmp_ge (tgt := 30) (nx := 10) dX0_thereBits_7 rfl rfl (fun h7 => ?_) (fun h7 => ?_)
    · skip
      refine X_iload_n (nx := 31) dX0_thereBits_30 rfl rfl rfl ?_
      exact Y_reti dX0_thereBits_31 (Or.inl rfl) (by rw [show i = 10 by omega]) rfl
    · exact absurd h7 (fun q => q (nI_le (by omega) (by omega)))
  | succ m ih =>
    intro i hi
    obtain ⟨⟨b1, b2⟩, ⟨b3, b4, b5, b6⟩, ⟨b7, b8, b9⟩, ⟨c1, c2, c3⟩, ⟨c4, c5, c6⟩, c7, c8⟩ := hb.facts
    refine X_iload_n (nx := 5) dX0_thereBits_4 rfl rfl rfl ?_
    refine X_bipush (v := nI 10) (nx := 7) dX0_thereBits_5 rfl rfl ?_
    refine X_icmp_ge (tgt := 30) (nx := 10) dX0_thereBits_7 rfl rfl (fun h7 => ?_) (fun h7 => ?_)
    · exact absurd h7 (nI_ge (by omega) (by omega))
    · skip
      refine X_aload_n (nx := 11) dX0_thereBits_10 rfl rfl rfl ?_
      refine X_iload_n (nx := 12) dX0_thereBits_11 rfl rfl rfl ?_
      refine Y_Vi1 (nx := 15) dX0_thereBits_12 rfl ml_RX0_57 kj_X0_isThere kv_X0_isThere (sp_X0_isThere hb h) (by first | assumption | rfl | decide | omega) (by first | assumption | rfl | decide | omega) (by decide) rfl (by first | decide | omega) (by exact Nat.le_of_ble_eq_true rfl) ?_
      refine X_if_eq (tgt := 24) (nx := 18) dX0_thereBits_15 rfl rfl (fun h15 => ?_) (fun h15 => ?_)
      · skip
        rw [isTh_n h.2.2.1 (by omega), b2i_f] at h15
        rw [ior_skip h15]
        refine X_iinc (nx := 27) dX0_thereBits_24 rfl (by decide) rfl (by first | exact ii1 _ | rfl) rfl (st_s (st_s (st_0))) ?_
        refine X_goto (tgt := 4) dX0_thereBits_27 rfl ?_
        exact ih (i + 1) (by omega)
      · skip
        rw [isTh_n h.2.2.1 (by omega), b2i_t] at h15
        refine X_iload_n (nx := 19) dX0_thereBits_18 rfl rfl rfl ?_
        refine X_iconst (v := 1) (nx := 20) dX0_thereBits_19 rfl rfl ?_
        refine X_iload_n (nx := 21) dX0_thereBits_20 rfl rfl rfl ?_
        refine X_ishl (nx := 22) dX0_thereBits_21 rfl ?_
        refine X_ior (nx := 23) dX0_thereBits_22 rfl ?_
        refine X_top (ior_step (p := thN B) h15 (by omega)) ?_
        refine X_istore_n (i := 1) (nx := 24) dX0_thereBits_23 rfl rfl (by decide) rfl (st_s (st_0)) ?_
        refine X_iinc (nx := 27) dX0_thereBits_24 rfl (by decide) rfl (by first | exact ii1 _ | rfl) rfl (st_s (st_s (st_0))) ?_
        refine X_goto (tgt := 4) dX0_thereBits_27 rfl ?_
        exact ih (i + 1) (by omega)
theorem sp_X0_thereBits {b : Nat} {B : Bk} {D : Mem} (hb : isB b) (h : Enc D b B) : Ei 3 j_X0_thereBits [.ref b] D (nI (mkn (thN B) 10)) (D) := by
  refine E.start 2 (ls := [some (.ref b), none, none]) (by decide +kernel) (Nat.le_of_ble_eq_true rfl) rfl (Nat.le_refl _) (Nat.le_refl _) ?_
  refine X_iconst (v := 0) (nx := 1) dX0_thereBits_0 rfl rfl ?_
  refine X_istore_n (i := 1) (nx := 2) dX0_thereBits_1 rfl rfl (by decide) rfl (st_s (st_0)) ?_
  refine X_iconst (v := 0) (nx := 3) dX0_thereBits_2 rfl rfl ?_
  refine X_istore_n (i := 2) (nx := 4) dX0_thereBits_3 rfl rfl (by decide) rfl (st_s (st_s (st_0))) ?_
  exact lp_X0_thereBits hb h 10 0 rfl
theorem dX0_mountBits_0 : decode cX0_mountBits 0 = .ok (.iconst 0, 1) := by decide +kernel
theorem dX0_mountBits_1 : decode cX0_mountBits 1 = .ok (.istore_n 1, 1) := by decide +kernel
theorem dX0_mountBits_2 : decode cX0_mountBits 2 = .ok (.iconst 0, 1) := by decide +kernel
theorem dX0_mountBits_3 : decode cX0_mountBits 3 = .ok (.istore_n 2, 1) := by decide +kernel
theorem dX0_mountBits_4 : decode cX0_mountBits 4 = .ok (.iload_n 2, 1) := by decide +kernel
theorem dX0_mountBits_5 : decode cX0_mountBits 5 = .ok (.bipush 10, 2) := by decide +kernel
theorem dX0_mountBits_7 : decode cX0_mountBits 7 = .ok (.if_icmp .ge 34, 3) := by decide +kernel
theorem dX0_mountBits_10 : decode cX0_mountBits 10 = .ok (.aload_n 0, 1) := by decide +kernel
theorem dX0_mountBits_11 : decode cX0_mountBits 11 = .ok (.iload_n 2, 1) := by decide +kernel
theorem dX0_mountBits_12 : decode cX0_mountBits 12 = .ok (.invokevirtual 57, 3) := by decide +kernel
theorem dX0_mountBits_15 : decode cX0_mountBits 15 = .ok (.ifCond .eq 20, 3) := by decide +kernel
theorem dX0_mountBits_18 : decode cX0_mountBits 18 = .ok (.aload_n 0, 1) := by decide +kernel
theorem dX0_mountBits_19 : decode cX0_mountBits 19 = .ok (.iload_n 2, 1) := by decide +kernel
theorem dX0_mountBits_20 : decode cX0_mountBits 20 = .ok (.invokevirtual 37, 3) := by decide +kernel
theorem dX0_mountBits_23 : decode cX0_mountBits 23 = .ok (.invokevirtual 61, 3) := by decide +kernel
theorem dX0_mountBits_26 : decode cX0_mountBits 26 = .ok (.ifCond .eq 9, 3) := by decide +kernel
theorem dX0_mountBits_29 : decode cX0_mountBits 29 = .ok (.iload_n 1, 1) := by decide +kernel
theorem dX0_mountBits_30 : decode cX0_mountBits 30 = .ok (.iconst 1, 1) := by decide +kernel
theorem dX0_mountBits_31 : decode cX0_mountBits 31 = .ok (.iload_n 2, 1) := by decide +kernel
theorem dX0_mountBits_32 : decode cX0_mountBits 32 = .ok (.ishl, 1) := by decide +kernel
theorem dX0_mountBits_33 : decode cX0_mountBits 33 = .ok (.ior, 1) := by decide +kernel
theorem dX0_mountBits_34 : decode cX0_mountBits 34 = .ok (.istore_n 1, 1) := by decide +kernel
theorem dX0_mountBits_35 : decode cX0_mountBits 35 = .ok (.iinc 2 1, 3) := by decide +kernel
theorem dX0_mountBits_38 : decode cX0_mountBits 38 = .ok (.goto (-34), 3) := by decide +kernel
theorem dX0_mountBits_41 : decode cX0_mountBits 41 = .ok (.iload_n 1, 1) := by decide +kernel
theorem dX0_mountBits_42 : decode cX0_mountBits 42 = .ok (.ireturn, 1) := by decide +kernel
theorem lp_X0_mountBits {b : Nat} {B : Bk} {D : Mem} (hb : isB b) (h : Enc D b B) : ∀ (m : Nat) (i : Nat), i + m = 10 → X 3 138 j_X0_mountBits 4 [some (.ref b), some (.int (nI (mkn (fun i => thN B i && mtB B i) i))), some (.int (nI i))] [] (138, P0, D) (fun r σ => r = [.int (nI (mkn (fun i => thN B i && mtB B i) 10))] ∧ σ = wd D) := by
  intro m
  induction m with
  | zero =>
    intro i hi
    obtain ⟨⟨b1, b2⟩, ⟨b3, b4, b5, b6⟩, ⟨b7, b8, b9⟩, ⟨c1, c2, c3⟩, ⟨c4, c5, c6⟩, c7, c8⟩ := hb.facts
    refine X_iload_n (nx := 5) dX0_mountBits_4 rfl rfl rfl ?_
    refine X_bipush (v := nI 10) (nx := 7) dX0_mountBits_5 rfl rfl ?_
    refine X_icmp_ge (tgt := 41) (nx := 10) dX0_mountBits_7 rfl rfl (fun h7 => ?_) (fun h7 => ?_)
    · skip
      refine X_iload_n (nx := 42) dX0_mountBits_41 rfl rfl rfl ?_
      exact Y_reti dX0_mountBits_42 (Or.inl rfl) (by rw [show i = 10 by omega]) rfl
    · exact absurd h7 (fun q => q (nI_le (by omega) (by omega)))
  | succ m ih =>
    intro i hi
    obtain ⟨⟨b1, b2⟩, ⟨b3, b4, b5, b6⟩, ⟨b7, b8, b9⟩, ⟨c1, c2, c3⟩, ⟨c4, c5, c6⟩, c7, c8⟩ := hb.facts
    refine X_iload_n (nx := 5) dX0_mountBits_4 rfl rfl rfl ?_
    refine X_bipush (v := nI 10) (nx := 7) dX0_mountBits_5 rfl rfl ?_
    refine X_icmp_ge (tgt := 41) (nx := 10) dX0_mountBits_7 rfl rfl (fun h7 => ?_) (fun h7 => ?_)
    · exact absurd h7 (nI_ge (by omega) (by omega))
    · skip
      refine X_aload_n (nx := 11) dX0_mountBits_10 rfl rfl rfl ?_
      refine X_iload_n (nx := 12) dX0_mountBits_11 rfl rfl rfl ?_
      refine Y_Vi1 (nx := 15) dX0_mountBits_12 rfl ml_RX0_57 kj_X0_isThere kv_X0_isThere (sp_X0_isThere hb h) (by first | assumption | rfl | decide | omega) (by first | assumption | rfl | decide | omega) (by decide) rfl (by first | decide | omega) (by exact Nat.le_of_ble_eq_true rfl) ?_
      refine X_if_eq (tgt := 35) (nx := 18) dX0_mountBits_15 rfl rfl (fun h15 => ?_) (fun h15 => ?_)
      · skip
        rw [isTh_n h.2.2.1 (by omega), b2i_f] at h15
        rw [ior_skip (p := (fun i => thN B i && mtB B i)) (by show (thN B i && _) = false; rw [h15]; rfl)]
        refine X_iinc (nx := 38) dX0_mountBits_35 rfl (by decide) rfl (by first | exact ii1 _ | rfl) rfl (st_s (st_s (st_0))) ?_
        refine X_goto (tgt := 4) dX0_mountBits_38 rfl ?_
        exact ih (i + 1) (by omega)
      · skip
        rw [isTh_n h.2.2.1 (by omega), b2i_t] at h15
        have hic : i < cm_ B := by unfold thN at h15; simp only [Bool.and_eq_true, decide_eq_true_eq] at h15; exact h15.1
        have hr := h.2.2.2 i hic
        obtain ⟨r1, r2, r3, r4, r5, r6⟩ := (c8 i (by omega)).2.facts
        refine X_aload_n (nx := 19) dX0_mountBits_18 rfl rfl rfl ?_
        refine X_iload_n (nx := 20) dX0_mountBits_19 rfl rfl rfl ?_
        refine Y_Vr1 (nx := 23) dX0_mountBits_20 rfl ml_RX0_37 kj_X0_at kv_X0_at (sp_X0_at hb (i := i) rfl (by omega)) (by first | assumption | rfl | decide | omega) (by first | assumption | rfl | decide | omega) (by decide) rfl (by first | decide | omega) (by exact Nat.le_of_ble_eq_true rfl) ?_
        refine Y_Vi0 (nx := 26) dX0_mountBits_23 rfl ml_RX0_61 kj_X4_isMount kv_X4_isMount (sp_X4_isMount (c8 i (by omega)).2) (by first | assumption | rfl | decide | omega) (by first | assumption | rfl | decide | omega) (by decide) rfl (by first | decide | omega) (by exact Nat.le_of_ble_eq_true rfl) ?_
        refine X_if_eq (tgt := 35) (nx := 29) dX0_mountBits_26 rfl rfl (fun h26 => ?_) (fun h26 => ?_)
        · skip
          rw [hr.2.2.2.1, b2i_f] at h26
          rw [ior_skip (p := (fun i => thN B i && mtB B i)) (by show (thN B i && decide (0 ≤ mo_ B i)) = false; rw [h26]; simp)]
          refine X_iinc (nx := 38) dX0_mountBits_35 rfl (by decide) rfl (by first | exact ii1 _ | rfl) rfl (st_s (st_s (st_0))) ?_
          refine X_goto (tgt := 4) dX0_mountBits_38 rfl ?_
          exact ih (i + 1) (by omega)
        · skip
          rw [hr.2.2.2.1, b2i_t] at h26
          refine X_iload_n (nx := 30) dX0_mountBits_29 rfl rfl rfl ?_
          refine X_iconst (v := 1) (nx := 31) dX0_mountBits_30 rfl rfl ?_
          refine X_iload_n (nx := 32) dX0_mountBits_31 rfl rfl rfl ?_
          refine X_ishl (nx := 33) dX0_mountBits_32 rfl ?_
          refine X_ior (nx := 34) dX0_mountBits_33 rfl ?_
          refine X_top (ior_step (p := (fun i => thN B i && mtB B i)) (by show (thN B i && decide (0 ≤ mo_ B i)) = true; rw [h15, h26]; rfl) (by omega)) ?_
          refine X_istore_n (i := 1) (nx := 35) dX0_mountBits_34 rfl rfl (by decide) rfl (st_s (st_0)) ?_
          refine X_iinc (nx := 38) dX0_mountBits_35 rfl (by decide) rfl (by first | exact ii1 _ | rfl) rfl (st_s (st_s (st_0))) ?_
          refine X_goto (tgt := 4) dX0_mountBits_38 rfl ?_
          exact ih (i + 1) (by omega)
theorem sp_X0_mountBits {b : Nat} {B : Bk} {D : Mem} (hb : isB b) (h : Enc D b B) : Ei 3 j_X0_mountBits [.ref b] D (nI (mkn (fun i => thN B i && mtB B i) 10)) (D) := by
  refine E.start 2 (ls := [some (.ref b), none, none]) (by decide +kernel) (Nat.le_of_ble_eq_true rfl) rfl (Nat.le_refl _) (Nat.le_refl _) ?_
  refine X_iconst (v := 0) (nx := 1) dX0_mountBits_0 rfl rfl ?_
  refine X_istore_n (i := 1) (nx := 2) dX0_mountBits_1 rfl rfl (by decide) rfl (st_s (st_0)) ?_
  refine X_iconst (v := 0) (nx := 3) dX0_mountBits_2 rfl rfl ?_
  refine X_istore_n (i := 2) (nx := 4) dX0_mountBits_3 rfl rfl (by decide) rfl (st_s (st_s (st_0))) ?_
  exact lp_X0_mountBits hb h 10 0 rfl
theorem dX0_segmentsThere_0 : decode cX0_segmentsThere 0 = .ok (.iconst 0, 1) := by decide +kernel
theorem dX0_segmentsThere_1 : decode cX0_segmentsThere 1 = .ok (.istore_n 1, 1) := by decide +kernel
theorem dX0_segmentsThere_2 : decode cX0_segmentsThere 2 = .ok (.iconst 0, 1) := by decide +kernel
theorem dX0_segmentsThere_3 : decode cX0_segmentsThere 3 = .ok (.istore_n 2, 1) := by decide +kernel
theorem dX0_segmentsThere_4 : decode cX0_segmentsThere 4 = .ok (.iload_n 2, 1) := by decide +kernel
theorem dX0_segmentsThere_5 : decode cX0_segmentsThere 5 = .ok (.bipush 10, 2) := by decide +kernel
theorem dX0_segmentsThere_7 : decode cX0_segmentsThere 7 = .ok (.if_icmp .ge 28, 3) := by decide +kernel
theorem dX0_segmentsThere_10 : decode cX0_segmentsThere 10 = .ok (.aload_n 0, 1) := by decide +kernel
theorem dX0_segmentsThere_11 : decode cX0_segmentsThere 11 = .ok (.iload_n 2, 1) := by decide +kernel
theorem dX0_segmentsThere_12 : decode cX0_segmentsThere 12 = .ok (.invokevirtual 57, 3) := by decide +kernel
theorem dX0_segmentsThere_15 : decode cX0_segmentsThere 15 = .ok (.ifCond .eq 14, 3) := by decide +kernel
theorem dX0_segmentsThere_18 : decode cX0_segmentsThere 18 = .ok (.iload_n 1, 1) := by decide +kernel
theorem dX0_segmentsThere_19 : decode cX0_segmentsThere 19 = .ok (.aload_n 0, 1) := by decide +kernel
theorem dX0_segmentsThere_20 : decode cX0_segmentsThere 20 = .ok (.iload_n 2, 1) := by decide +kernel
theorem dX0_segmentsThere_21 : decode cX0_segmentsThere 21 = .ok (.invokevirtual 37, 3) := by decide +kernel
theorem dX0_segmentsThere_24 : decode cX0_segmentsThere 24 = .ok (.getfield 64, 3) := by decide +kernel
theorem dX0_segmentsThere_27 : decode cX0_segmentsThere 27 = .ok (.iadd, 1) := by decide +kernel
theorem dX0_segmentsThere_28 : decode cX0_segmentsThere 28 = .ok (.istore_n 1, 1) := by decide +kernel
theorem dX0_segmentsThere_29 : decode cX0_segmentsThere 29 = .ok (.iinc 2 1, 3) := by decide +kernel
theorem dX0_segmentsThere_32 : decode cX0_segmentsThere 32 = .ok (.goto (-28), 3) := by decide +kernel
theorem dX0_segmentsThere_35 : decode cX0_segmentsThere 35 = .ok (.iload_n 1, 1) := by decide +kernel
theorem dX0_segmentsThere_36 : decode cX0_segmentsThere 36 = .ok (.ireturn, 1) := by decide +kernel
theorem lp_X0_segmentsThere {b : Nat} {B : Bk} {D : Mem} (hb : isB b) (h : Enc D b B) : ∀ (m : Nat) (i : Nat), i + m = 10 → X 3 138 j_X0_segmentsThere 4 [some (.ref b), some (.int (nI (sumN (sgs B) i))), some (.int (nI i))] [] (138, P0, D) (fun r σ => r = [.int (nI (sumN (sgs B) 10))] ∧ σ = wd D) := by
  intro m
  induction m with
  | zero =>
    intro i hi
    obtain ⟨⟨b1, b2⟩, ⟨b3, b4, b5, b6⟩, ⟨b7, b8, b9⟩, ⟨c1, c2, c3⟩, ⟨c4, c5, c6⟩, c7, c8⟩ := hb.facts
    refine X_iload_n (nx := 5) dX0_segmentsThere_4 rfl rfl rfl ?_
    refine X_bipush (v := nI 10) (nx := 7) dX0_segmentsThere_5 rfl rfl ?_
    refine X_icmp_ge (tgt := 35) (nx := 10) dX0_segmentsThere_7 rfl rfl (fun h7 => ?_) (fun h7 => ?_)
    · skip
      refine X_iload_n (nx := 36) dX0_segmentsThere_35 rfl rfl rfl ?_
      exact Y_reti dX0_segmentsThere_36 (Or.inl rfl) (by rw [show i = 10 by omega]) rfl
    · exact absurd h7 (fun q => q (nI_le (by omega) (by omega)))
  | succ m ih =>
    intro i hi
    obtain ⟨⟨b1, b2⟩, ⟨b3, b4, b5, b6⟩, ⟨b7, b8, b9⟩, ⟨c1, c2, c3⟩, ⟨c4, c5, c6⟩, c7, c8⟩ := hb.facts
    refine X_iload_n (nx := 5) dX0_segmentsThere_4 rfl rfl rfl ?_
    refine X_bipush (v := nI 10) (nx := 7) dX0_segmentsThere_5 rfl rfl ?_
    refine X_icmp_ge (tgt := 35) (nx := 10) dX0_segmentsThere_7 rfl rfl (fun h7 => ?_) (fun h7 => ?_)
    · exact absurd h7 (nI_ge (by omega) (by omega))
    · skip
      refine X_aload_n (nx := 11) dX0_segmentsThere_10 rfl rfl rfl ?_
      refine X_iload_n (nx := 12) dX0_segmentsThere_11 rfl rfl rfl ?_
      refine Y_Vi1 (nx := 15) dX0_segmentsThere_12 rfl ml_RX0_57 kj_X0_isThere kv_X0_isThere (sp_X0_isThere hb h) (by first | assumption | rfl | decide | omega) (by first | assumption | rfl | decide | omega) (by decide) rfl (by first | decide | omega) (by exact Nat.le_of_ble_eq_true rfl) ?_
      refine X_if_eq (tgt := 29) (nx := 18) dX0_segmentsThere_15 rfl rfl (fun h15 => ?_) (fun h15 => ?_)
      · skip
        rw [isTh_n h.2.2.1 (by omega), b2i_f] at h15
        have e1 : sumN (sgs B) (i + 1) = sumN (sgs B) i := by show _ + sgs B i = _; unfold sgs; rw [if_neg (by rw [h15]; decide)]; rfl
        rw [← e1]
        refine X_iinc (nx := 32) dX0_segmentsThere_29 rfl (by decide) rfl (by first | exact ii1 _ | rfl) rfl (st_s (st_s (st_0))) ?_
        refine X_goto (tgt := 4) dX0_segmentsThere_32 rfl ?_
        exact ih (i + 1) (by omega)
      · skip
        rw [isTh_n h.2.2.1 (by omega), b2i_t] at h15
        have hic : i < cm_ B := by unfold thN at h15; simp only [Bool.and_eq_true, decide_eq_true_eq] at h15; exact h15.1
        have hr := h.2.2.2 i hic
        obtain ⟨r1, r2, r3, r4, r5, r6⟩ := (c8 i (by omega)).2.facts
        have e1 : sumN (sgs B) i + (sg_ B i).length = sumN (sgs B) (i + 1) := by show _ = _ + sgs B i; unfold sgs; rw [if_pos h15]
        refine X_iload_n (nx := 19) dX0_segmentsThere_18 rfl rfl rfl ?_
        refine X_aload_n (nx := 20) dX0_segmentsThere_19 rfl rfl rfl ?_
        refine X_iload_n (nx := 21) dX0_segmentsThere_20 rfl rfl rfl ?_
        refine Y_Vr1 (nx := 24) dX0_segmentsThere_21 rfl ml_RX0_37 kj_X0_at kv_X0_at (sp_X0_at hb (i := i) rfl (by omega)) (by first | assumption | rfl | decide | omega) (by first | assumption | rfl | decide | omega) (by decide) rfl (by first | decide | omega) (by exact Nat.le_of_ble_eq_true rfl) ?_
        refine M_getI (nx := 27) dX0_segmentsThere_24 rfl fl_RX0_64 rfl (by first | assumption | rfl | decide | omega) (by first | assumption | rfl | decide | omega) ?_
        refine X_top (hr.2.2.2.2.2.1) ?_
        refine X_iadd (nx := 28) dX0_segmentsThere_27 rfl ?_
        refine X_top ((nI_add _ _).trans (congrArg nI e1)) ?_
        refine X_istore_n (i := 1) (nx := 29) dX0_segmentsThere_28 rfl rfl (by decide) rfl (st_s (st_0)) ?_
        refine X_iinc (nx := 32) dX0_segmentsThere_29 rfl (by decide) rfl (by first | exact ii1 _ | rfl) rfl (st_s (st_s (st_0))) ?_
        refine X_goto (tgt := 4) dX0_segmentsThere_32 rfl ?_
        exact ih (i + 1) (by omega)
theorem sp_X0_segmentsThere {b : Nat} {B : Bk} {D : Mem} (hb : isB b) (h : Enc D b B) : Ei 3 j_X0_segmentsThere [.ref b] D (nI (sumN (sgs B) 10)) (D) := by
  refine E.start 2 (ls := [some (.ref b), none, none]) (by decide +kernel) (Nat.le_of_ble_eq_true rfl) rfl (Nat.le_refl _) (Nat.le_refl _) ?_
  refine X_iconst (v := 0) (nx := 1) dX0_segmentsThere_0 rfl rfl ?_
  refine X_istore_n (i := 1) (nx := 2) dX0_segmentsThere_1 rfl rfl (by decide) rfl (st_s (st_0)) ?_
  refine X_iconst (v := 0) (nx := 3) dX0_segmentsThere_2 rfl rfl ?_
  refine X_istore_n (i := 2) (nx := 4) dX0_segmentsThere_3 rfl rfl (by decide) rfl (st_s (st_s (st_0))) ?_
  exact lp_X0_segmentsThere hb h 10 0 rfl
/-- the first i segments of o stand in r -/
def cpS (D : Mem) (r o i : Nat) : Mem := fun b x => if b = r + 1 ∧ x < i then D (o + 1) x else D b x
theorem cpS_0 (D : Mem) (r o : Nat) : cpS D r o 0 = D := by funext b x; simp [cpS]
theorem cpS_s {D : Mem} {r o i : Nat} (h : o ≠ r) : up2 (cpS D r o i) (r + 1) i (cpS D r o i (o + 1) i) = cpS D r o (i + 1) := by
  funext b x
  unfold up2 cpS
  by_cases h1 : b = r + 1
  · subst h1
    by_cases h2 : x = i
    · subst h2
      rw [if_pos ⟨rfl, rfl⟩, if_neg (by omega), if_pos ⟨rfl, by omega⟩]
    · rw [if_neg (by omega)]
      by_cases h3 : x < i
      · rw [if_pos ⟨rfl, h3⟩, if_pos ⟨rfl, by omega⟩]
      · rw [if_neg (by omega), if_neg (by omega)]
  · rw [if_neg (by omega), if_neg (by omega), if_neg (by omega)]
theorem cpS_o {D : Mem} {r o i b x : Nat} (h : b ≠ r + 1) : cpS D r o i b x = D b x := by
  unfold cpS
  rw [if_neg (fun q => h q.1)]
def CPR (D D' : Mem) (r o : Nat) : Prop := (∀ x, x < 4 → D' (r + 1) x = D (o + 1) x) ∧ (∀ x, 1 ≤ x → x ≤ 6 → D' r x = D o x) ∧ Fr (fun b => b = r ∨ b = r + 1) D D'
theorem CPR.rt {D D' : Mem} {r o R : Nat} {t : Bool} {v m : Int32} {s : List Nat} (h : CPR D D' r o) (hr : RT D o t R v m s) : RT D' r t R v m s := by
  obtain ⟨h1, h2, h3⟩ := h
  obtain ⟨a, b, c, d, e1, e2, e3, e4, e5⟩ := hr
  exact ⟨(h2 6 (by omega) (by omega)).trans a, (h2 3 (by omega) (by omega)).trans b, (h2 4 (by omega) (by omega)).trans c, (h2 5 (by omega) (by omega)).trans d, e1, (h2 1 (by omega) (by omega)).trans e2, (h2 2 (by omega) (by omega)).trans e3, fun k hk => (h1 k (by omega)).trans (e4 k hk), e5⟩
theorem dX4_copyFrom_0 : decode cX4_copyFrom 0 = .ok (.iconst 0, 1) := by decide +kernel
theorem dX4_copyFrom_1 : decode cX4_copyFrom 1 = .ok (.istore_n 2, 1) := by decide +kernel
theorem dX4_copyFrom_2 : decode cX4_copyFrom 2 = .ok (.iload_n 2, 1) := by decide +kernel
theorem dX4_copyFrom_3 : decode cX4_copyFrom 3 = .ok (.aload_n 0, 1) := by decide +kernel
theorem dX4_copyFrom_4 : decode cX4_copyFrom 4 = .ok (.getfield 9, 3) := by decide +kernel
theorem dX4_copyFrom_7 : decode cX4_copyFrom 7 = .ok (.arraylength, 1) := by decide +kernel
theorem dX4_copyFrom_8 : decode cX4_copyFrom 8 = .ok (.if_icmp .ge 23, 3) := by decide +kernel
theorem dX4_copyFrom_11 : decode cX4_copyFrom 11 = .ok (.aload_n 0, 1) := by decide +kernel
theorem dX4_copyFrom_12 : decode cX4_copyFrom 12 = .ok (.getfield 9, 3) := by decide +kernel
theorem dX4_copyFrom_15 : decode cX4_copyFrom 15 = .ok (.iload_n 2, 1) := by decide +kernel
theorem dX4_copyFrom_16 : decode cX4_copyFrom 16 = .ok (.aload_n 1, 1) := by decide +kernel
theorem dX4_copyFrom_17 : decode cX4_copyFrom 17 = .ok (.getfield 9, 3) := by decide +kernel
theorem dX4_copyFrom_20 : decode cX4_copyFrom 20 = .ok (.iload_n 2, 1) := by decide +kernel
theorem dX4_copyFrom_21 : decode cX4_copyFrom 21 = .ok (.invokestatic 22, 3) := by decide +kernel
theorem dX4_copyFrom_24 : decode cX4_copyFrom 24 = .ok (.iastore, 1) := by decide +kernel
theorem dX4_copyFrom_25 : decode cX4_copyFrom 25 = .ok (.iinc 2 1, 3) := by decide +kernel
theorem dX4_copyFrom_28 : decode cX4_copyFrom 28 = .ok (.goto (-26), 3) := by decide +kernel
theorem dX4_copyFrom_31 : decode cX4_copyFrom 31 = .ok (.aload_n 0, 1) := by decide +kernel
theorem dX4_copyFrom_32 : decode cX4_copyFrom 32 = .ok (.aload_n 1, 1) := by decide +kernel
theorem dX4_copyFrom_33 : decode cX4_copyFrom 33 = .ok (.getfield 26, 3) := by decide +kernel
theorem dX4_copyFrom_36 : decode cX4_copyFrom 36 = .ok (.putfield 26, 3) := by decide +kernel
theorem dX4_copyFrom_39 : decode cX4_copyFrom 39 = .ok (.aload_n 0, 1) := by decide +kernel
theorem dX4_copyFrom_40 : decode cX4_copyFrom 40 = .ok (.aload_n 1, 1) := by decide +kernel
theorem dX4_copyFrom_41 : decode cX4_copyFrom 41 = .ok (.getfield 29, 3) := by decide +kernel
theorem dX4_copyFrom_44 : decode cX4_copyFrom 44 = .ok (.putfield 29, 3) := by decide +kernel
theorem dX4_copyFrom_47 : decode cX4_copyFrom 47 = .ok (.aload_n 0, 1) := by decide +kernel
theorem dX4_copyFrom_48 : decode cX4_copyFrom 48 = .ok (.aload_n 1, 1) := by decide +kernel
theorem dX4_copyFrom_49 : decode cX4_copyFrom 49 = .ok (.getfield 32, 3) := by decide +kernel
theorem dX4_copyFrom_52 : decode cX4_copyFrom 52 = .ok (.putfield 32, 3) := by decide +kernel
theorem dX4_copyFrom_55 : decode cX4_copyFrom 55 = .ok (.aload_n 0, 1) := by decide +kernel
theorem dX4_copyFrom_56 : decode cX4_copyFrom 56 = .ok (.aload_n 1, 1) := by decide +kernel
theorem dX4_copyFrom_57 : decode cX4_copyFrom 57 = .ok (.getfield 15, 3) := by decide +kernel
theorem dX4_copyFrom_60 : decode cX4_copyFrom 60 = .ok (.putfield 15, 3) := by decide +kernel
theorem dX4_copyFrom_63 : decode cX4_copyFrom 63 = .ok (.aload_n 0, 1) := by decide +kernel
theorem dX4_copyFrom_64 : decode cX4_copyFrom 64 = .ok (.aload_n 1, 1) := by decide +kernel
theorem dX4_copyFrom_65 : decode cX4_copyFrom 65 = .ok (.getfield 19, 3) := by decide +kernel
theorem dX4_copyFrom_68 : decode cX4_copyFrom 68 = .ok (.putfield 19, 3) := by decide +kernel
theorem dX4_copyFrom_71 : decode cX4_copyFrom 71 = .ok (.aload_n 0, 1) := by decide +kernel
theorem dX4_copyFrom_72 : decode cX4_copyFrom 72 = .ok (.aload_n 1, 1) := by decide +kernel
theorem dX4_copyFrom_73 : decode cX4_copyFrom 73 = .ok (.getfield 35, 3) := by decide +kernel
theorem dX4_copyFrom_76 : decode cX4_copyFrom 76 = .ok (.putfield 35, 3) := by decide +kernel
theorem dX4_copyFrom_79 : decode cX4_copyFrom 79 = .ok (.return_, 1) := by decide +kernel
theorem lp_X4_copyFrom {r o : Nat} {D : Mem} (hr : isR r) (ho : isR o) (hne : o ≠ r) (hz : D o 6 = 0 ∨ D o 6 = 1) : ∀ (m : Nat) (i : Nat), i + m = 4 → X 2 138 j_X4_copyFrom 2 [some (.ref r), some (.ref o), some (.int (nI i))] [] (138, P0, cpS D r o i) (fun x σ => ∃ D' : Mem, x = [] ∧ σ = wd D' ∧ CPR D D' r o) := by
  intro m
  induction m with
  | zero =>
    intro i hi
    obtain ⟨q1, q2, q3, q4, q5, q6⟩ := hr.facts
    obtain ⟨z1, z2, z3, z4, z5, z6⟩ := ho.facts
    have hd1 : o ≠ r + 1 := fun e => by rw [e] at z2; omega
    have hd2 : o + 1 ≠ r := fun e => by rw [← e] at q2; omega
    have hi4 : i = 4 := by omega
    subst hi4
    refine X_iload_n (nx := 3) dX4_copyFrom_2 rfl rfl rfl ?_
    refine X_aload_n (nx := 4) dX4_copyFrom_3 rfl rfl rfl ?_
    refine M_getP (nx := 7) dX4_copyFrom_4 rfl fl_RX4_9 rfl (by first | assumption | rfl | decide | omega) (by first | assumption | rfl | decide | omega) (by first | assumption | rfl | decide | omega) ?_
    refine M_alen (nx := 8) dX4_copyFrom_7 rfl (by first | assumption | rfl | decide | omega) (Or.inl (by first | assumption | rfl | decide | omega)) ?_
    refine X_icmp_ge (tgt := 31) (nx := 11) dX4_copyFrom_8 rfl rfl (fun h8 => ?_) (fun h8 => ?_)
    · skip
      refine X_aload_n (nx := 32) dX4_copyFrom_31 rfl rfl rfl ?_
      refine X_aload_n (nx := 33) dX4_copyFrom_32 rfl rfl rfl ?_
      refine M_getI (nx := 36) dX4_copyFrom_33 rfl fl_RX4_26 rfl (by first | assumption | rfl | decide | omega) (by first | assumption | rfl | decide | omega) ?_
      refine X_top ((cpS_o (by omega))) ?_
      refine M_putI (nx := 39) dX4_copyFrom_36 rfl fl_RX4_26 rfl rfl (by first | assumption | rfl | decide | omega) (by first | assumption | rfl | decide | omega) ?_
      refine X_aload_n (nx := 40) dX4_copyFrom_39 rfl rfl rfl ?_
      refine X_aload_n (nx := 41) dX4_copyFrom_40 rfl rfl rfl ?_
      refine M_getI (nx := 44) dX4_copyFrom_41 rfl fl_RX4_29 rfl (by first | assumption | rfl | decide | omega) (by first | assumption | rfl | decide | omega) ?_
      refine X_top (((up2_other (by omega)).trans (cpS_o (by omega)))) ?_
      refine M_putI (nx := 47) dX4_copyFrom_44 rfl fl_RX4_29 rfl rfl (by first | assumption | rfl | decide | omega) (by first | assumption | rfl | decide | omega) ?_
      refine X_aload_n (nx := 48) dX4_copyFrom_47 rfl rfl rfl ?_
      refine X_aload_n (nx := 49) dX4_copyFrom_48 rfl rfl rfl ?_
      refine M_getI (nx := 52) dX4_copyFrom_49 rfl fl_RX4_32 rfl (by first | assumption | rfl | decide | omega) (by first | assumption | rfl | decide | omega) ?_
      refine X_top (((up2_other (by omega)).trans ((up2_other (by omega)).trans (cpS_o (by omega))))) ?_
      refine M_putI (nx := 55) dX4_copyFrom_52 rfl fl_RX4_32 rfl rfl (by first | assumption | rfl | decide | omega) (by first | assumption | rfl | decide | omega) ?_
      refine X_aload_n (nx := 56) dX4_copyFrom_55 rfl rfl rfl ?_
      refine X_aload_n (nx := 57) dX4_copyFrom_56 rfl rfl rfl ?_
      refine M_getI (nx := 60) dX4_copyFrom_57 rfl fl_RX4_15 rfl (by first | assumption | rfl | decide | omega) (by first | assumption | rfl | decide | omega) ?_
      refine X_top (((up2_other (by omega)).trans ((up2_other (by omega)).trans ((up2_other (by omega)).trans (cpS_o (by omega)))))) ?_
      refine M_putI (nx := 63) dX4_copyFrom_60 rfl fl_RX4_15 rfl rfl (by first | assumption | rfl | decide | omega) (by first | assumption | rfl | decide | omega) ?_
      refine X_aload_n (nx := 64) dX4_copyFrom_63 rfl rfl rfl ?_
      refine X_aload_n (nx := 65) dX4_copyFrom_64 rfl rfl rfl ?_
      refine M_getI (nx := 68) dX4_copyFrom_65 rfl fl_RX4_19 rfl (by first | assumption | rfl | decide | omega) (by first | assumption | rfl | decide | omega) ?_
      refine X_top (((up2_other (by omega)).trans ((up2_other (by omega)).trans ((up2_other (by omega)).trans ((up2_other (by omega)).trans (cpS_o (by omega))))))) ?_
      refine M_putI (nx := 71) dX4_copyFrom_68 rfl fl_RX4_19 rfl rfl (by first | assumption | rfl | decide | omega) (by first | assumption | rfl | decide | omega) ?_
      refine X_aload_n (nx := 72) dX4_copyFrom_71 rfl rfl rfl ?_
      refine X_aload_n (nx := 73) dX4_copyFrom_72 rfl rfl rfl ?_
      refine M_getI (nx := 76) dX4_copyFrom_73 rfl fl_RX4_35 rfl (by first | assumption | rfl | decide | omega) (by first | assumption | rfl | decide | omega) ?_
      refine X_top (((up2_other (by omega)).trans ((up2_other (by omega)).trans ((up2_other (by omega)).trans ((up2_other (by omega)).trans ((up2_other (by omega)).trans (cpS_o (by omega)))))))) ?_
      refine M_putZ (nx := 79) dX4_copyFrom_76 rfl fl_RX4_35 rfl rfl (by assumption) (by first | assumption | rfl | decide | omega) (by first | assumption | rfl | decide | omega) ?_
      exact Z_retv dX4_copyFrom_79 rfl ⟨fun x hx => by simp [up2, cpS]; intro; omega, fun x h1 h2 => by obtain rfl | rfl | rfl | rfl | rfl | rfl : x = 1 ∨ x = 2 ∨ x = 3 ∨ x = 4 ∨ x = 5 ∨ x = 6 := (by omega) <;> simp [up2], fun b hb => by funext x; simp [up2, cpS]; simp at hb; simp [hb]⟩
    · exact absurd h8 (fun q => q (nI_le (by omega) (by omega)))
  | succ m ih =>
    intro i hi
    obtain ⟨q1, q2, q3, q4, q5, q6⟩ := hr.facts
    obtain ⟨z1, z2, z3, z4, z5, z6⟩ := ho.facts
    have hd1 : o ≠ r + 1 := fun e => by rw [e] at z2; omega
    have hd2 : o + 1 ≠ r := fun e => by rw [← e] at q2; omega
    refine X_iload_n (nx := 3) dX4_copyFrom_2 rfl rfl rfl ?_
    refine X_aload_n (nx := 4) dX4_copyFrom_3 rfl rfl rfl ?_
    refine M_getP (nx := 7) dX4_copyFrom_4 rfl fl_RX4_9 rfl (by first | assumption | rfl | decide | omega) (by first | assumption | rfl | decide | omega) (by first | assumption | rfl | decide | omega) ?_
    refine M_alen (nx := 8) dX4_copyFrom_7 rfl (by first | assumption | rfl | decide | omega) (Or.inl (by first | assumption | rfl | decide | omega)) ?_
    refine X_icmp_ge (tgt := 31) (nx := 11) dX4_copyFrom_8 rfl rfl (fun h8 => ?_) (fun h8 => ?_)
    · exact absurd h8 (nI_ge (by omega) (by omega))
    · skip
      refine X_aload_n (nx := 12) dX4_copyFrom_11 rfl rfl rfl ?_
      refine M_getP (nx := 15) dX4_copyFrom_12 rfl fl_RX4_9 rfl (by first | assumption | rfl | decide | omega) (by first | assumption | rfl | decide | omega) (by first | assumption | rfl | decide | omega) ?_
      refine X_iload_n (nx := 16) dX4_copyFrom_15 rfl rfl rfl ?_
      refine X_aload_n (nx := 17) dX4_copyFrom_16 rfl rfl rfl ?_
      refine M_getP (nx := 20) dX4_copyFrom_17 rfl fl_RX4_9 rfl (by first | assumption | rfl | decide | omega) (by first | assumption | rfl | decide | omega) (by first | assumption | rfl | decide | omega) ?_
      refine X_iload_n (nx := 21) dX4_copyFrom_20 rfl rfl rfl ?_
      refine Y_Si2 (nx := 24) dX4_copyFrom_21 rfl ml_RX4_22 kj_X7_numberAt ks_X7_numberAt (sp_X7_numberAt (i := i) (by omega) (by omega) rfl (by omega)) (by first | decide | omega) (by exact Nat.le_of_ble_eq_true rfl) ?_
      refine M_iast (nx := 25) dX4_copyFrom_24 rfl (by first | assumption | rfl | decide | omega) (by first | assumption | rfl | decide | omega) (vp_in_nI (by omega) (by omega)) ?_
      refine X_iinc (nx := 28) dX4_copyFrom_25 rfl (by decide) rfl (by first | exact ii1 _ | rfl) rfl (st_s (st_s (st_0))) ?_
      refine X_goto (tgt := 2) dX4_copyFrom_28 rfl ?_
      rw [nI_clamp (by omega), cpS_s hne]
      exact ih (i + 1) (by omega)
theorem sp_X4_copyFrom {r o : Nat} {D : Mem} (hr : isR r) (ho : isR o) (hne : o ≠ r) (hz : D o 6 = 0 ∨ D o 6 = 1) : Rvx 2 j_X4_copyFrom [.ref r, .ref o] D (fun D' => CPR D D' r o) := by
  refine E.start 1 (ls := [some (.ref r), some (.ref o), none]) (by decide +kernel) (Nat.le_of_ble_eq_true rfl) rfl (Nat.le_refl _) (Nat.le_refl _) ?_
  refine X_iconst (v := 0) (nx := 1) dX4_copyFrom_0 rfl rfl ?_
  refine X_istore_n (i := 2) (nx := 2) dX4_copyFrom_1 rfl rfl (by decide) rfl (st_s (st_s (st_0))) ?_
  have hq := lp_X4_copyFrom hr ho hne hz 4 0 rfl
  rw [cpS_0] at hq
  exact hq
end
section
theorem isB_far {b o : Nat} (hb : isB b) (ho : isB o) (hne : o ≠ b) : o + 26 ≤ b ∨ b + 26 ≤ o := by
  rcases hb with rfl | rfl | rfl <;> rcases ho with rfl | rfl | rfl <;> omega
/-- what the loops of a book's copy have reached -/
def CB1 (D D1 : Mem) (b o i : Nat) : Prop := (∀ k, k < i → D1 (b + 1) k = D (o + 1) k ∧ D1 (b + 2) k = D (o + 2) k) ∧ Fr (inB b) D D1
def CB2 (D D1 : Mem) (b o i : Nat) : Prop := CB1 D D1 b o 3 ∧ ∀ k, k < i → (∀ x, x < 4 → D1 (rt b k + 1) x = D (rt o k + 1) x) ∧ ∀ x, 1 ≤ x → x ≤ 6 → D1 (rt b k) x = D (rt o k) x
theorem CB1.step {D D1 : Mem} {b o i : Nat} (hf : o + 26 ≤ b ∨ b + 26 ≤ o) (hi : i < 3) (h : CB1 D D1 b o i) : CB1 D (up2 (up2 D1 (b + 1) i (D1 (o + 1) i)) (b + 2) i (up2 D1 (b + 1) i (D1 (o + 1) i) (o + 2) i)) b o (i + 1) := by
  obtain ⟨h1, h2⟩ := h
  have e1 : D1 (o + 1) = D (o + 1) := h2 _ (by unfold inB; omega)
  have e2 : D1 (o + 2) = D (o + 2) := h2 _ (by unfold inB; omega)
  refine ⟨fun k hk => ?_, (h2.tr (Fr.up ⟨by omega, by omega⟩)).tr (Fr.up ⟨by omega, by omega⟩)⟩
  by_cases hk2 : k = i
  · subst hk2
    refine ⟨?_, ?_⟩
    · rw [up2_other (by omega), up2_same, e1]
    · rw [up2_same, up2_other (by omega), e2]
  · refine ⟨?_, ?_⟩
    · rw [up2_other (by omega), up2_other (by omega)]; exact (h1 k (by omega)).1
    · rw [up2_other (by omega), up2_other (by omega)]; exact (h1 k (by omega)).2
theorem CB2.step {D D1 D2 : Mem} {b o i : Nat} (hf : o + 26 ≤ b ∨ b + 26 ≤ o) (hi : i < 10) (h : CB2 D D1 b o i) (hc : CPR D1 D2 (rt b i) (rt o i)) : CB2 D D2 b o (i + 1) := by
  obtain ⟨⟨h1, h2⟩, h3⟩ := h
  obtain ⟨c1, c2, c3⟩ := hc
  have fo : ∀ x, o ≤ x → x < o + 26 → D1 x = D x := fun x hx hx2 => h2 x (by unfold inB; omega)
  have fk : ∀ x, ¬ (x = rt b i ∨ x = rt b i + 1) → D2 x = D1 x := c3
  have hrt : rt b i = b + 6 + 2 * i ∧ rt o i = o + 6 + 2 * i := ⟨rfl, rfl⟩
  refine ⟨⟨fun k hk => ⟨?_, ?_⟩, h2.tr (c3.mono fun x hx => by unfold inB; omega)⟩, fun k hk => ?_⟩
  · rw [fk _ (by omega)]; exact (h1 k hk).1
  · rw [fk _ (by omega)]; exact (h1 k hk).2
  · have hrk : rt b k = b + 6 + 2 * k ∧ rt o k = o + 6 + 2 * k := ⟨rfl, rfl⟩
    by_cases hk2 : k = i
    · subst hk2
      refine ⟨fun x hx => ?_, fun x hx hx2 => ?_⟩
      · rw [c1 x hx, fo _ (by omega) (by omega)]
      · rw [c2 x hx hx2, fo _ (by omega) (by omega)]
    · refine ⟨fun x hx => ?_, fun x hx hx2 => ?_⟩
      · rw [fk _ (by omega)]; exact (h3 k (by omega)).1 x hx
      · rw [fk _ (by omega)]; exact (h3 k (by omega)).2 x hx hx2
theorem CB2.enc {D D1 : Mem} {b o : Nat} {B : Bk} (hf : o + 26 ≤ b ∨ b + 26 ≤ o) (h : CB2 D D1 b o 10) (he : Enc D o B) (hz : ZB D o) : Enc (up2 D1 b 4 (D1 o 4)) b B ∧ ZB (up2 D1 b 4 (D1 o 4)) b ∧ Fr (inB b) D (up2 D1 b 4 (D1 o 4)) := by
  obtain ⟨⟨h1, h2⟩, h3⟩ := h
  obtain ⟨g1, g2, g3, g4⟩ := he
  have nb : ∀ x, x ≠ b → up2 D1 b 4 (D1 o 4) x = D1 x := fun x hx => up2_ne hx
  refine ⟨⟨fun i hi => ⟨?_, ?_⟩, ?_, g3, fun i hi => ?_⟩, fun i hi => ?_, h2.tr (Fr.up ⟨by omega, by omega⟩)⟩
  · rw [nb _ (by omega), (h1 i hi).1]; exact (g1 i hi).1
  · rw [nb _ (by omega), (h1 i hi).2]; exact (g1 i hi).2
  · rw [up2_same, h2 o (by unfold inB; omega)]; exact g2
  · have hrk : rt b i = b + 6 + 2 * i := rfl
    obtain ⟨a, b', c, d, e1, e2, e3, e4, e5⟩ := g4 i hi
    obtain ⟨c1, c2⟩ := h3 i (by omega)
    have n1 := nb (rt b i) (by omega)
    have n2 := nb (rt b i + 1) (by omega)
    exact ⟨by rw [n1, c2 6 (by omega) (by omega)]; exact a, by rw [n1, c2 3 (by omega) (by omega)]; exact b', by rw [n1, c2 4 (by omega) (by omega)]; exact c, by rw [n1, c2 5 (by omega) (by omega)]; exact d, e1, by rw [n1, c2 1 (by omega) (by omega)]; exact e2, by rw [n1, c2 2 (by omega) (by omega)]; exact e3, fun k hk => by rw [n2, c1 k (by omega)]; exact e4 k hk, e5⟩
  · have hrk : rt b i = b + 6 + 2 * i := rfl
    rw [nb (rt b i) (by omega), (h3 i hi).2 6 (by omega) (by omega)]
    exact hz i hi
theorem dX0_copyFrom_0 : decode cX0_copyFrom 0 = .ok (.iconst 0, 1) := by decide +kernel
theorem dX0_copyFrom_1 : decode cX0_copyFrom 1 = .ok (.istore_n 2, 1) := by decide +kernel
theorem dX0_copyFrom_2 : decode cX0_copyFrom 2 = .ok (.iload_n 2, 1) := by decide +kernel
theorem dX0_copyFrom_3 : decode cX0_copyFrom 3 = .ok (.iconst 3, 1) := by decide +kernel
theorem dX0_copyFrom_4 : decode cX0_copyFrom 4 = .ok (.if_icmp .ge 41, 3) := by decide +kernel
theorem dX0_copyFrom_7 : decode cX0_copyFrom 7 = .ok (.aload_n 0, 1) := by decide +kernel
theorem dX0_copyFrom_8 : decode cX0_copyFrom 8 = .ok (.getfield 9, 3) := by decide +kernel
theorem dX0_copyFrom_11 : decode cX0_copyFrom 11 = .ok (.iload_n 2, 1) := by decide +kernel
theorem dX0_copyFrom_12 : decode cX0_copyFrom 12 = .ok (.aload_n 1, 1) := by decide +kernel
theorem dX0_copyFrom_13 : decode cX0_copyFrom 13 = .ok (.getfield 9, 3) := by decide +kernel
theorem dX0_copyFrom_16 : decode cX0_copyFrom 16 = .ok (.iload_n 2, 1) := by decide +kernel
theorem dX0_copyFrom_17 : decode cX0_copyFrom 17 = .ok (.invokestatic 29, 3) := by decide +kernel
theorem dX0_copyFrom_20 : decode cX0_copyFrom 20 = .ok (.invokestatic 33, 3) := by decide +kernel
theorem dX0_copyFrom_23 : decode cX0_copyFrom 23 = .ok (.aload_n 0, 1) := by decide +kernel
theorem dX0_copyFrom_24 : decode cX0_copyFrom 24 = .ok (.getfield 15, 3) := by decide +kernel
theorem dX0_copyFrom_27 : decode cX0_copyFrom 27 = .ok (.iload_n 2, 1) := by decide +kernel
theorem dX0_copyFrom_28 : decode cX0_copyFrom 28 = .ok (.aload_n 1, 1) := by decide +kernel
theorem dX0_copyFrom_29 : decode cX0_copyFrom 29 = .ok (.getfield 15, 3) := by decide +kernel
theorem dX0_copyFrom_32 : decode cX0_copyFrom 32 = .ok (.iload_n 2, 1) := by decide +kernel
theorem dX0_copyFrom_33 : decode cX0_copyFrom 33 = .ok (.invokestatic 29, 3) := by decide +kernel
theorem dX0_copyFrom_36 : decode cX0_copyFrom 36 = .ok (.invokestatic 33, 3) := by decide +kernel
theorem dX0_copyFrom_39 : decode cX0_copyFrom 39 = .ok (.iinc 2 1, 3) := by decide +kernel
theorem dX0_copyFrom_42 : decode cX0_copyFrom 42 = .ok (.goto (-40), 3) := by decide +kernel
theorem dX0_copyFrom_45 : decode cX0_copyFrom 45 = .ok (.iconst 0, 1) := by decide +kernel
theorem dX0_copyFrom_46 : decode cX0_copyFrom 46 = .ok (.istore_n 2, 1) := by decide +kernel
theorem dX0_copyFrom_47 : decode cX0_copyFrom 47 = .ok (.iload_n 2, 1) := by decide +kernel
theorem dX0_copyFrom_48 : decode cX0_copyFrom 48 = .ok (.bipush 10, 2) := by decide +kernel
theorem dX0_copyFrom_50 : decode cX0_copyFrom 50 = .ok (.if_icmp .ge 22, 3) := by decide +kernel
theorem dX0_copyFrom_53 : decode cX0_copyFrom 53 = .ok (.aload_n 0, 1) := by decide +kernel
theorem dX0_copyFrom_54 : decode cX0_copyFrom 54 = .ok (.iload_n 2, 1) := by decide +kernel
theorem dX0_copyFrom_55 : decode cX0_copyFrom 55 = .ok (.invokevirtual 37, 3) := by decide +kernel
theorem dX0_copyFrom_58 : decode cX0_copyFrom 58 = .ok (.aload_n 1, 1) := by decide +kernel
theorem dX0_copyFrom_59 : decode cX0_copyFrom 59 = .ok (.iload_n 2, 1) := by decide +kernel
theorem dX0_copyFrom_60 : decode cX0_copyFrom 60 = .ok (.invokevirtual 37, 3) := by decide +kernel
theorem dX0_copyFrom_63 : decode cX0_copyFrom 63 = .ok (.invokevirtual 41, 3) := by decide +kernel
theorem dX0_copyFrom_66 : decode cX0_copyFrom 66 = .ok (.iinc 2 1, 3) := by decide +kernel
theorem dX0_copyFrom_69 : decode cX0_copyFrom 69 = .ok (.goto (-22), 3) := by decide +kernel
theorem dX0_copyFrom_72 : decode cX0_copyFrom 72 = .ok (.aload_n 0, 1) := by decide +kernel
theorem dX0_copyFrom_73 : decode cX0_copyFrom 73 = .ok (.aload_n 1, 1) := by decide +kernel
theorem dX0_copyFrom_74 : decode cX0_copyFrom 74 = .ok (.getfield 45, 3) := by decide +kernel
theorem dX0_copyFrom_77 : decode cX0_copyFrom 77 = .ok (.putfield 45, 3) := by decide +kernel
theorem dX0_copyFrom_80 : decode cX0_copyFrom 80 = .ok (.return_, 1) := by decide +kernel
theorem lp_X0_copyFrom2 {b o : Nat} {B : Bk} {D : Mem} (hb : isB b) (ho : isB o) (hne : o ≠ b) (h : Enc D o B) (hz : ZB D o) : ∀ (m : Nat) (i : Nat) (D1 : Mem), i + m = 10 → CB2 D D1 b o i → X 3 138 j_X0_copyFrom 47 [some (.ref b), some (.ref o), some (.int (nI i))] [] (138, P0, D1) (fun x σ => ∃ D' : Mem, x = [] ∧ σ = wd D' ∧ Enc D' b B ∧ ZB D' b ∧ Fr (inB b) D D') := by
  intro m
  induction m with
  | zero =>
    intro i D1 hi hc
    obtain ⟨⟨b1, b2⟩, ⟨b3, b4, b5, b6⟩, ⟨b7, b8, b9⟩, ⟨c1, c2, c3⟩, ⟨c4, c5, c6⟩, c7, c8⟩ := hb.facts
    obtain ⟨⟨b1o, b2o⟩, ⟨b3o, b4o, b5o, b6o⟩, ⟨b7o, b8o, b9o⟩, ⟨c1o, c2o, c3o⟩, ⟨c4o, c5o, c6o⟩, c7o, c8o⟩ := ho.facts
    have hf := isB_far hb ho hne
    have hi10 : i = 10 := by omega
    subst hi10
    refine X_iload_n (nx := 48) dX0_copyFrom_47 rfl rfl rfl ?_
    refine X_bipush (v := nI 10) (nx := 50) dX0_copyFrom_48 rfl rfl ?_
    refine X_icmp_ge (tgt := 72) (nx := 53) dX0_copyFrom_50 rfl rfl (fun h50 => ?_) (fun h50 => ?_)
    · skip
      refine X_aload_n (nx := 73) dX0_copyFrom_72 rfl rfl rfl ?_
      refine X_aload_n (nx := 74) dX0_copyFrom_73 rfl rfl rfl ?_
      refine M_getI (nx := 77) dX0_copyFrom_74 rfl fl_RX0_45 rfl (by first | assumption | rfl | decide | omega) (by first | assumption | rfl | decide | omega) ?_
      refine M_putI (nx := 80) dX0_copyFrom_77 rfl fl_RX0_45 rfl rfl (by first | assumption | rfl | decide | omega) (by first | assumption | rfl | decide | omega) ?_
      exact Z_retv dX0_copyFrom_80 rfl (CB2.enc hf hc h hz)
    · exact absurd h50 (fun q => q (nI_le (by omega) (by omega)))
  | succ m ih =>
    intro i D1 hi hc
    obtain ⟨⟨b1, b2⟩, ⟨b3, b4, b5, b6⟩, ⟨b7, b8, b9⟩, ⟨c1, c2, c3⟩, ⟨c4, c5, c6⟩, c7, c8⟩ := hb.facts
    obtain ⟨⟨b1o, b2o⟩, ⟨b3o, b4o, b5o, b6o⟩, ⟨b7o, b8o, b9o⟩, ⟨c1o, c2o, c3o⟩, ⟨c4o, c5o, c6o⟩, c7o, c8o⟩ := ho.facts
    have hf := isB_far hb ho hne
    obtain ⟨r1, r2, r3, r4, r5, r6⟩ := (c8 i (by omega)).2.facts
    refine X_iload_n (nx := 48) dX0_copyFrom_47 rfl rfl rfl ?_
    refine X_bipush (v := nI 10) (nx := 50) dX0_copyFrom_48 rfl rfl ?_
    refine X_icmp_ge (tgt := 72) (nx := 53) dX0_copyFrom_50 rfl rfl (fun h50 => ?_) (fun h50 => ?_)
    · exact absurd h50 (nI_ge (by omega) (by omega))
    · skip
      refine X_aload_n (nx := 54) dX0_copyFrom_53 rfl rfl rfl ?_
      refine X_iload_n (nx := 55) dX0_copyFrom_54 rfl rfl rfl ?_
      refine Y_Vr1 (nx := 58) dX0_copyFrom_55 rfl ml_RX0_37 kj_X0_at kv_X0_at (sp_X0_at hb (i := i) rfl (by omega)) (by first | assumption | rfl | decide | omega) (by first | assumption | rfl | decide | omega) (by decide) rfl (by first | decide | omega) (by exact Nat.le_of_ble_eq_true rfl) ?_
      refine X_aload_n (nx := 59) dX0_copyFrom_58 rfl rfl rfl ?_
      refine X_iload_n (nx := 60) dX0_copyFrom_59 rfl rfl rfl ?_
      refine Y_Vr1 (nx := 63) dX0_copyFrom_60 rfl ml_RX0_37 kj_X0_at kv_X0_at (sp_X0_at ho (i := i) rfl (by omega)) (by first | assumption | rfl | decide | omega) (by first | assumption | rfl | decide | omega) (by decide) rfl (by first | decide | omega) (by exact Nat.le_of_ble_eq_true rfl) ?_
      refine Z_Vv1 (nx := 66) dX0_copyFrom_63 rfl ml_RX0_41 kj_X4_copyFrom kv_X4_copyFrom (sp_X4_copyFrom (c8 i (by omega)).2 (c8o i (by omega)).2 (by unfold rt; omega) (by rw [hc.1.2 (rt o i) (by unfold inB rt; omega)]; exact hz i (by omega))) (by first | assumption | rfl | decide | omega) (by first | assumption | rfl | decide | omega) (by decide) rfl (by first | decide | omega) (by exact Nat.le_of_ble_eq_true rfl) (fun D63 g63 => ?_)
      refine X_iinc (nx := 69) dX0_copyFrom_66 rfl (by decide) rfl (by first | exact ii1 _ | rfl) rfl (st_s (st_s (st_0))) ?_
      refine X_goto (tgt := 47) dX0_copyFrom_69 rfl ?_
      exact ih (i + 1) _ (by omega) (hc.step hf (by omega) g63)
theorem lp_X0_copyFrom1 {b o : Nat} {B : Bk} {D : Mem} (hb : isB b) (ho : isB o) (hne : o ≠ b) (h : Enc D o B) (hz : ZB D o) : ∀ (m : Nat) (i : Nat) (D1 : Mem), i + m = 3 → CB1 D D1 b o i → X 3 138 j_X0_copyFrom 2 [some (.ref b), some (.ref o), some (.int (nI i))] [] (138, P0, D1) (fun x σ => ∃ D' : Mem, x = [] ∧ σ = wd D' ∧ Enc D' b B ∧ ZB D' b ∧ Fr (inB b) D D') := by
  intro m
  induction m with
  | zero =>
    intro i D1 hi hc
    obtain ⟨⟨b1, b2⟩, ⟨b3, b4, b5, b6⟩, ⟨b7, b8, b9⟩, ⟨c1, c2, c3⟩, ⟨c4, c5, c6⟩, c7, c8⟩ := hb.facts
    obtain ⟨⟨b1o, b2o⟩, ⟨b3o, b4o, b5o, b6o⟩, ⟨b7o, b8o, b9o⟩, ⟨c1o, c2o, c3o⟩, ⟨c4o, c5o, c6o⟩, c7o, c8o⟩ := ho.facts
    have hf := isB_far hb ho hne
    have hi3 : i = 3 := by omega
    subst hi3
    refine X_iload_n (nx := 3) dX0_copyFrom_2 rfl rfl rfl ?_
    refine X_iconst (v := nI 3) (nx := 4) dX0_copyFrom_3 rfl rfl ?_
    refine X_icmp_ge (tgt := 45) (nx := 7) dX0_copyFrom_4 rfl rfl (fun h4 => ?_) (fun h4 => ?_)
    · skip
      refine X_iconst (v := 0) (nx := 46) dX0_copyFrom_45 rfl rfl ?_
      refine X_istore_n (i := 2) (nx := 47) dX0_copyFrom_46 rfl rfl (by decide) rfl (st_s (st_s (st_0))) ?_
      exact lp_X0_copyFrom2 hb ho hne h hz 10 0 _ rfl ⟨hc, fun k hk => by omega⟩
    · exact absurd h4 (fun q => q (nI_le (by omega) (by omega)))
  | succ m ih =>
    intro i D1 hi hc
    obtain ⟨⟨b1, b2⟩, ⟨b3, b4, b5, b6⟩, ⟨b7, b8, b9⟩, ⟨c1, c2, c3⟩, ⟨c4, c5, c6⟩, c7, c8⟩ := hb.facts
    obtain ⟨⟨b1o, b2o⟩, ⟨b3o, b4o, b5o, b6o⟩, ⟨b7o, b8o, b9o⟩, ⟨c1o, c2o, c3o⟩, ⟨c4o, c5o, c6o⟩, c7o, c8o⟩ := ho.facts
    have hf := isB_far hb ho hne
    refine X_iload_n (nx := 3) dX0_copyFrom_2 rfl rfl rfl ?_
    refine X_iconst (v := nI 3) (nx := 4) dX0_copyFrom_3 rfl rfl ?_
    refine X_icmp_ge (tgt := 45) (nx := 7) dX0_copyFrom_4 rfl rfl (fun h4 => ?_) (fun h4 => ?_)
    · exact absurd h4 (nI_ge (by omega) (by omega))
    · skip
      refine X_aload_n (nx := 8) dX0_copyFrom_7 rfl rfl rfl ?_
      refine M_getP (nx := 11) dX0_copyFrom_8 rfl fl_RX0_9 rfl (by first | assumption | rfl | decide | omega) (by first | assumption | rfl | decide | omega) (by first | assumption | rfl | decide | omega) ?_
      refine X_iload_n (nx := 12) dX0_copyFrom_11 rfl rfl rfl ?_
      refine X_aload_n (nx := 13) dX0_copyFrom_12 rfl rfl rfl ?_
      refine M_getP (nx := 16) dX0_copyFrom_13 rfl fl_RX0_9 rfl (by first | assumption | rfl | decide | omega) (by first | assumption | rfl | decide | omega) (by first | assumption | rfl | decide | omega) ?_
      refine X_iload_n (nx := 17) dX0_copyFrom_16 rfl rfl rfl ?_
      refine Y_Si2 (nx := 20) dX0_copyFrom_17 rfl ml_RX0_29 kj_X7_numberAt ks_X7_numberAt (sp_X7_numberAt (i := i) (by omega) (by omega) rfl (by omega)) (by first | decide | omega) (by exact Nat.le_of_ble_eq_true rfl) ?_
      refine Y_Sv3 (nx := 23) dX0_copyFrom_20 rfl ml_RX0_33 kj_X7_put ks_X7_put (sp_X7_put (i := i) (by omega) (by omega) rfl (by omega)) (by first | decide | omega) (by exact Nat.le_of_ble_eq_true rfl) ?_
      refine X_aload_n (nx := 24) dX0_copyFrom_23 rfl rfl rfl ?_
      refine M_getP (nx := 27) dX0_copyFrom_24 rfl fl_RX0_15 rfl (by first | assumption | rfl | decide | omega) (by first | assumption | rfl | decide | omega) (by first | assumption | rfl | decide | omega) ?_
      refine X_iload_n (nx := 28) dX0_copyFrom_27 rfl rfl rfl ?_
      refine X_aload_n (nx := 29) dX0_copyFrom_28 rfl rfl rfl ?_
      refine M_getP (nx := 32) dX0_copyFrom_29 rfl fl_RX0_15 rfl (by first | assumption | rfl | decide | omega) (by first | assumption | rfl | decide | omega) (by first | assumption | rfl | decide | omega) ?_
      refine X_iload_n (nx := 33) dX0_copyFrom_32 rfl rfl rfl ?_
      refine Y_Si2 (nx := 36) dX0_copyFrom_33 rfl ml_RX0_29 kj_X7_numberAt ks_X7_numberAt (sp_X7_numberAt (i := i) (by omega) (by omega) rfl (by omega)) (by first | decide | omega) (by exact Nat.le_of_ble_eq_true rfl) ?_
      refine Y_Sv3 (nx := 39) dX0_copyFrom_36 rfl ml_RX0_33 kj_X7_put ks_X7_put (sp_X7_put (i := i) (by omega) (by omega) rfl (by omega)) (by first | decide | omega) (by exact Nat.le_of_ble_eq_true rfl) ?_
      refine X_iinc (nx := 42) dX0_copyFrom_39 rfl (by decide) rfl (by first | exact ii1 _ | rfl) rfl (st_s (st_s (st_0))) ?_
      refine X_goto (tgt := 2) dX0_copyFrom_42 rfl ?_
      exact ih (i + 1) _ (by omega) (hc.step hf (by omega))
theorem sp_X0_copyFrom {b o : Nat} {B : Bk} {D : Mem} (hb : isB b) (ho : isB o) (hne : o ≠ b) (h : Enc D o B) (hz : ZB D o) : Rvx 3 j_X0_copyFrom [.ref b, .ref o] D (fun D' => Enc D' b B ∧ ZB D' b ∧ Fr (inB b) D D') := by
  refine E.start 1 (ls := [some (.ref b), some (.ref o), none]) (by decide +kernel) (Nat.le_of_ble_eq_true rfl) rfl (Nat.le_refl _) (Nat.le_refl _) ?_
  refine X_iconst (v := 0) (nx := 1) dX0_copyFrom_0 rfl rfl ?_
  refine X_istore_n (i := 2) (nx := 2) dX0_copyFrom_1 rfl rfl (by decide) rfl (st_s (st_s (st_0))) ?_
  exact lp_X0_copyFrom1 hb ho hne h hz 3 0 _ rfl ⟨fun k hk => by omega, Fr.rf⟩
end
section
/-! THE TRIE -/
abbrev Nd := Nat × List Nat
def ng (nl : List Nd) (j : Nat) : Nd := nl.getD j (9, [])
def nix (nl : List Nd) (q : Nd) : Option Nat := fst_ (fun j => decide (ng nl j = q)) 0 nl.length
/-- the plain segments' types -/
def es_ (B : Bk) (i : Nat) : List Nat := ((sg_ B i).filter (fun x => decide (x ≠ 40))).map typ
def PSf (B : Bk) (q : Nd) (r : Nat) : Bool := thN B r && (decide (ro_ B r = q.1) && (decide (q.2 ≠ []) && q.2.isPrefixOf (es_ B r)))
def AT_ (B : Bk) (q : Nd) (r : Nat) : Bool := thN B r && (decide (ro_ B r = q.1) && decide (es_ B r = q.2))
def rsB (B : Bk) (r : Nat) : Bool := decide (pl (sg_ B r) < (sg_ B r).length)
def ENf (B : Bk) (q : Nd) (r : Nat) : Bool := AT_ B q r && (!mtB B r && !rsB B r)
def RSf (B : Bk) (q : Nd) (r : Nat) : Bool := AT_ B q r && (!mtB B r && rsB B r)
def MNf (B : Bk) (q : Nd) (r : Nat) : Bool := AT_ B q r && mtB B r
def srvm (v : Nat) : Nat := [3, 2, 4, 15].getD v 0
/-- which verbs an end serves -/
def srv (x : Int32) : Nat := if x = 0 then 3 else if x = 1 then 2 else if x = 2 then 4 else if x = 3 then 15 else 0
def SVf (B : Bk) (v r : Nat) : Bool := thN B r && (!mtB B r && (srv (vb_ B r)).testBit v)

/-- node lists: the three roots first, each node once -/
def NL (nl : List Nd) : Prop := 3 ≤ nl.length ∧ nl.length ≤ 43 ∧ (∀ i, i < 3 → ng nl i = (i, [])) ∧ (∀ i j, i < nl.length → j < nl.length → ng nl i = ng nl j → i = j) ∧ ∀ k, k < nl.length → ∀ p e, (ng nl k).2 = p ++ [e] → ∃ j, j < nl.length ∧ ng nl j = ((ng nl k).1, p)
/-- what is told of a node is told of one that is there -/
def CLS (nl : List Nd) (PS EN RS MN : Nd → Nat → Bool) : Prop := ∀ q, (∀ k, k < nl.length → ng nl k ≠ q) → ∀ r, r < 10 → PS q r = false ∧ EN q r = false ∧ RS q r = false ∧ MN q r = false
/-- a node's cells -/
def NOD (D : Mem) (nl : List Nd) (PS EN RS MN : Nd → Nat → Bool) (j : Nat) : Prop :=
  D 82 j = nI (ng nl j).1 ∧ D 83 j = nI (mkn (PS (ng nl j)) 10) ∧ D 84 j = nI (mkn (EN (ng nl j)) 10) ∧ D 85 j = nI (mkn (RS (ng nl j)) 10) ∧ D 86 j = nI (mkn (MN (ng nl j)) 10) ∧ ∀ e, e < 7 → D 81 (j * 7 + e) = opI (nix nl ((ng nl j).1, (ng nl j).2 ++ [e]))
def TE (D : Mem) (B : Bk) (nl : List Nd) (PS EN RS MN : Nd → Nat → Bool) (SV : Nat → Nat → Bool) (MO : Nat → Bool) : Prop :=
  D 80 11 = nI nl.length ∧ NL nl ∧ (∀ j, j < nl.length → NOD D nl PS EN RS MN j) ∧ (∀ v, v < 4 → D 88 v = nI (mkn (SV v) 10)) ∧ (∀ r, r < 10 → MO r = true → D 87 r = mo_ B r) ∧ CLS nl PS EN RS MN
theorem nix_some {nl : List Nd} {q : Nd} {k : Nat} (h : nix nl q = some k) : k < nl.length ∧ ng nl k = q := by
  obtain ⟨_, h2, h3, _⟩ := fst_some h
  exact ⟨by omega, of_decide_eq_true h3⟩
theorem nix_of {nl : List Nd} {k : Nat} (hn : NL nl) (h : k < nl.length) : nix nl (ng nl k) = some k := by
  refine fst_intro (Nat.zero_le _) (by omega) (decide_eq_true rfl) (fun x _ hx => decide_eq_false fun e => ?_)
  have := hn.2.2.2.1 x k (by omega) h e
  omega
theorem nix_none {nl : List Nd} {q : Nd} (h : nix nl q = none) {k : Nat} (hk : k < nl.length) : ng nl k ≠ q := by
  have := fst_none h k (Nat.zero_le _) (by omega)
  exact of_decide_eq_false this
/-- the cells behind a node that is added -/
def anL (D : Mem) (n i : Nat) : Mem := fun b x => if b = 81 ∧ n * 7 ≤ x ∧ x < n * 7 + i then -9 else D b x
def anD (D : Mem) (n R : Nat) : Mem := fun b x => if b = 80 ∧ x = 11 then nI (n + 1) else if b = 82 ∧ x = n then nI R else if (83 ≤ b ∧ b ≤ 86) ∧ x = n then 0 else if b = 81 ∧ n * 7 ≤ x ∧ x < n * 7 + 7 then -9 else D b x
theorem anL_0 (D : Mem) (n : Nat) : anL D n 0 = D := by
  funext b x
  unfold anL
  rw [if_neg (by omega)]
theorem anL_s (D : Mem) (n i : Nat) : up2 (anL D n i) 81 (n * 7 + i) (-9) = anL D n (i + 1) := by
  funext b x
  unfold up2 anL
  by_cases h1 : b = 81 ∧ x = n * 7 + i
  · rw [if_pos h1, if_pos ⟨h1.1, by omega, by omega⟩]
  · rw [if_neg h1]
    by_cases h2 : b = 81 ∧ n * 7 ≤ x ∧ x < n * 7 + i
    · rw [if_pos h2, if_pos ⟨h2.1, by omega, by omega⟩]
    · rw [if_neg h2, if_neg (by omega)]
theorem anD_eq (D : Mem) (n R : Nat) : up2 (anL (up2 (up2 (up2 (up2 (up2 D 82 n (nI R)) 83 n 0) 84 n 0) 85 n 0) 86 n 0) n 7) 80 11 (nI (n + 1)) = anD D n R := by
  funext b x
  unfold anD
  by_cases h1 : b = 80 ∧ x = 11
  · rw [if_pos h1]; obtain ⟨rfl, rfl⟩ := h1; exact up2_same
  · rw [if_neg h1, up2_other h1]
    unfold anL
    by_cases h2 : b = 82 ∧ x = n
    · rw [if_pos h2, if_neg (by omega), up2_other (by omega), up2_other (by omega), up2_other (by omega), up2_other (by omega)]
      obtain ⟨rfl, rfl⟩ := h2; exact up2_same
    · rw [if_neg h2]
      by_cases h3 : (83 ≤ b ∧ b ≤ 86) ∧ x = n
      · rw [if_pos h3, if_neg (by omega)]
        obtain ⟨⟨g1, g2⟩, rfl⟩ := h3
        obtain rfl | rfl | rfl | rfl : b = 83 ∨ b = 84 ∨ b = 85 ∨ b = 86 := by omega
        · rw [up2_other (by omega), up2_other (by omega), up2_other (by omega)]; exact up2_same
        · rw [up2_other (by omega), up2_other (by omega)]; exact up2_same
        · rw [up2_other (by omega)]; exact up2_same
        · exact up2_same
      · rw [if_neg h3]
        by_cases h4 : b = 81 ∧ n * 7 ≤ x ∧ x < n * 7 + 7
        · rw [if_pos h4, if_pos h4]
        · rw [if_neg h4, if_neg h4, up2_other (by omega), up2_other (by omega), up2_other (by omega), up2_other (by omega), up2_other h2]
theorem mul7 (n i : Nat) : nI n * 7 + nI i = nI (n * 7 + i) := by
  rw [show nI n * 7 = nI (n * 7) from pk_mul n 7, nI_add]
theorem dX5_addNode_0 : decode cX5_addNode 0 = .ok (.aload_n 0, 1) := by decide +kernel
theorem dX5_addNode_1 : decode cX5_addNode 1 = .ok (.getfield 48, 3) := by decide +kernel
theorem dX5_addNode_4 : decode cX5_addNode 4 = .ok (.istore_n 2, 1) := by decide +kernel
theorem dX5_addNode_5 : decode cX5_addNode 5 = .ok (.aload_n 0, 1) := by decide +kernel
theorem dX5_addNode_6 : decode cX5_addNode 6 = .ok (.getfield 15, 3) := by decide +kernel
theorem dX5_addNode_9 : decode cX5_addNode 9 = .ok (.iload_n 2, 1) := by decide +kernel
theorem dX5_addNode_10 : decode cX5_addNode 10 = .ok (.iload_n 1, 1) := by decide +kernel
theorem dX5_addNode_11 : decode cX5_addNode 11 = .ok (.invokestatic 56, 3) := by decide +kernel
theorem dX5_addNode_14 : decode cX5_addNode 14 = .ok (.aload_n 0, 1) := by decide +kernel
theorem dX5_addNode_15 : decode cX5_addNode 15 = .ok (.getfield 18, 3) := by decide +kernel
theorem dX5_addNode_18 : decode cX5_addNode 18 = .ok (.iload_n 2, 1) := by decide +kernel
theorem dX5_addNode_19 : decode cX5_addNode 19 = .ok (.iconst 0, 1) := by decide +kernel
theorem dX5_addNode_20 : decode cX5_addNode 20 = .ok (.invokestatic 56, 3) := by decide +kernel
theorem dX5_addNode_23 : decode cX5_addNode 23 = .ok (.aload_n 0, 1) := by decide +kernel
theorem dX5_addNode_24 : decode cX5_addNode 24 = .ok (.getfield 21, 3) := by decide +kernel
theorem dX5_addNode_27 : decode cX5_addNode 27 = .ok (.iload_n 2, 1) := by decide +kernel
theorem dX5_addNode_28 : decode cX5_addNode 28 = .ok (.iconst 0, 1) := by decide +kernel
theorem dX5_addNode_29 : decode cX5_addNode 29 = .ok (.invokestatic 56, 3) := by decide +kernel
theorem dX5_addNode_32 : decode cX5_addNode 32 = .ok (.aload_n 0, 1) := by decide +kernel
theorem dX5_addNode_33 : decode cX5_addNode 33 = .ok (.getfield 24, 3) := by decide +kernel
theorem dX5_addNode_36 : decode cX5_addNode 36 = .ok (.iload_n 2, 1) := by decide +kernel
theorem dX5_addNode_37 : decode cX5_addNode 37 = .ok (.iconst 0, 1) := by decide +kernel
theorem dX5_addNode_38 : decode cX5_addNode 38 = .ok (.invokestatic 56, 3) := by decide +kernel
theorem dX5_addNode_41 : decode cX5_addNode 41 = .ok (.aload_n 0, 1) := by decide +kernel
theorem dX5_addNode_42 : decode cX5_addNode 42 = .ok (.getfield 27, 3) := by decide +kernel
theorem dX5_addNode_45 : decode cX5_addNode 45 = .ok (.iload_n 2, 1) := by decide +kernel
theorem dX5_addNode_46 : decode cX5_addNode 46 = .ok (.iconst 0, 1) := by decide +kernel
theorem dX5_addNode_47 : decode cX5_addNode 47 = .ok (.invokestatic 56, 3) := by decide +kernel
theorem dX5_addNode_50 : decode cX5_addNode 50 = .ok (.iconst 0, 1) := by decide +kernel
theorem dX5_addNode_51 : decode cX5_addNode 51 = .ok (.istore_n 3, 1) := by decide +kernel
theorem dX5_addNode_52 : decode cX5_addNode 52 = .ok (.iload_n 3, 1) := by decide +kernel
theorem dX5_addNode_53 : decode cX5_addNode 53 = .ok (.bipush 7, 2) := by decide +kernel
theorem dX5_addNode_55 : decode cX5_addNode 55 = .ok (.if_icmp .ge 24, 3) := by decide +kernel
theorem dX5_addNode_58 : decode cX5_addNode 58 = .ok (.aload_n 0, 1) := by decide +kernel
theorem dX5_addNode_59 : decode cX5_addNode 59 = .ok (.getfield 11, 3) := by decide +kernel
theorem dX5_addNode_62 : decode cX5_addNode 62 = .ok (.iload_n 2, 1) := by decide +kernel
theorem dX5_addNode_63 : decode cX5_addNode 63 = .ok (.bipush 7, 2) := by decide +kernel
theorem dX5_addNode_65 : decode cX5_addNode 65 = .ok (.imul, 1) := by decide +kernel
theorem dX5_addNode_66 : decode cX5_addNode 66 = .ok (.iload_n 3, 1) := by decide +kernel
theorem dX5_addNode_67 : decode cX5_addNode 67 = .ok (.iadd, 1) := by decide +kernel
theorem dX5_addNode_68 : decode cX5_addNode 68 = .ok (.bipush (-9), 2) := by decide +kernel
theorem dX5_addNode_70 : decode cX5_addNode 70 = .ok (.invokestatic 56, 3) := by decide +kernel
theorem dX5_addNode_73 : decode cX5_addNode 73 = .ok (.iinc 3 1, 3) := by decide +kernel
theorem dX5_addNode_76 : decode cX5_addNode 76 = .ok (.goto (-24), 3) := by decide +kernel
theorem dX5_addNode_79 : decode cX5_addNode 79 = .ok (.aload_n 0, 1) := by decide +kernel
theorem dX5_addNode_80 : decode cX5_addNode 80 = .ok (.dup, 1) := by decide +kernel
theorem dX5_addNode_81 : decode cX5_addNode 81 = .ok (.getfield 48, 3) := by decide +kernel
theorem dX5_addNode_84 : decode cX5_addNode 84 = .ok (.iconst 1, 1) := by decide +kernel
theorem dX5_addNode_85 : decode cX5_addNode 85 = .ok (.iadd, 1) := by decide +kernel
theorem dX5_addNode_86 : decode cX5_addNode 86 = .ok (.putfield 48, 3) := by decide +kernel
theorem dX5_addNode_89 : decode cX5_addNode 89 = .ok (.iload_n 2, 1) := by decide +kernel
theorem dX5_addNode_90 : decode cX5_addNode 90 = .ok (.ireturn, 1) := by decide +kernel
theorem lp_X5_addNode {n R : Nat} {D1 D : Mem} (hn : n < 43) (hs : D1 80 11 = nI n) (he : up2 (anL D1 n 7) 80 11 (nI (n + 1)) = anD D n R) : ∀ (m : Nat) (i : Nat), i + m = 7 → X 2 138 j_X5_addNode 52 [some (.ref 80), some (.int (nI R)), some (.int (nI n)), some (.int (nI i))] [] (138, P0, anL D1 n i) (fun x σ => x = [.int (nI n)] ∧ σ = wd (anD D n R)) := by
  intro m
  induction m with
  | zero =>
    intro i hi
    have hly : (lay 82).2 = 43 ∧ (lay 83).2 = 43 ∧ (lay 84).2 = 43 ∧ (lay 85).2 = 43 ∧ (lay 86).2 = 43 ∧ (lay 81).2 = 301 ∧ (lay 87).2 = 10 ∧ (lay 88).2 = 4 ∧ (lay 89).2 = 3 ∧ (lay 90).2 = 3 ∧ (lay 91).2 = 3 := by decide
    refine X_iload_n (nx := 53) dX5_addNode_52 rfl rfl rfl ?_
    refine X_bipush (v := nI 7) (nx := 55) dX5_addNode_53 rfl rfl ?_
    refine X_icmp_ge (tgt := 79) (nx := 58) dX5_addNode_55 rfl rfl (fun h55 => ?_) (fun h55 => ?_)
    · skip
      refine X_aload_n (nx := 80) dX5_addNode_79 rfl rfl rfl ?_
      refine X_dup (nx := 81) dX5_addNode_80 rfl rfl ?_
      refine M_getI (nx := 84) dX5_addNode_81 rfl fl_RX5_48 rfl (by first | assumption | rfl | decide | omega) (by first | assumption | rfl | decide | omega) ?_
      refine X_top ((show anL D1 n i 80 11 = nI n by unfold anL; rw [if_neg (by omega)]; exact hs)) ?_
      refine X_iconst (v := 1) (nx := 85) dX5_addNode_84 rfl rfl ?_
      refine X_iadd (nx := 86) dX5_addNode_85 rfl ?_
      refine X_top (nI_1 _) ?_
      refine M_putI (nx := 89) dX5_addNode_86 rfl fl_RX5_48 rfl rfl (by first | assumption | rfl | decide | omega) (by first | assumption | rfl | decide | omega) ?_
      refine X_iload_n (nx := 90) dX5_addNode_89 rfl rfl rfl ?_
      exact Y_reti dX5_addNode_90 (Or.inl rfl) rfl (by rw [show i = 7 by omega]; exact he)
    · exact absurd h55 (fun q => q (nI_le (by omega) (by omega)))
  | succ m ih =>
    intro i hi
    have hly : (lay 82).2 = 43 ∧ (lay 83).2 = 43 ∧ (lay 84).2 = 43 ∧ (lay 85).2 = 43 ∧ (lay 86).2 = 43 ∧ (lay 81).2 = 301 ∧ (lay 87).2 = 10 ∧ (lay 88).2 = 4 ∧ (lay 89).2 = 3 ∧ (lay 90).2 = 3 ∧ (lay 91).2 = 3 := by decide
    refine X_iload_n (nx := 53) dX5_addNode_52 rfl rfl rfl ?_
    refine X_bipush (v := nI 7) (nx := 55) dX5_addNode_53 rfl rfl ?_
    refine X_icmp_ge (tgt := 79) (nx := 58) dX5_addNode_55 rfl rfl (fun h55 => ?_) (fun h55 => ?_)
    · exact absurd h55 (nI_ge (by omega) (by omega))
    · skip
      refine X_aload_n (nx := 59) dX5_addNode_58 rfl rfl rfl ?_
      refine M_getP (nx := 62) dX5_addNode_59 rfl fl_RX5_11 rfl (by first | assumption | rfl | decide | omega) (by first | assumption | rfl | decide | omega) (by first | assumption | rfl | decide | omega) ?_
      refine X_iload_n (nx := 63) dX5_addNode_62 rfl rfl rfl ?_
      refine X_bipush (v := 7) (nx := 65) dX5_addNode_63 rfl rfl ?_
      refine X_imul (nx := 66) dX5_addNode_65 rfl ?_
      refine X_iload_n (nx := 67) dX5_addNode_66 rfl rfl rfl ?_
      refine X_iadd (nx := 68) dX5_addNode_67 rfl ?_
      refine X_top (mul7 n i) ?_
      refine X_bipush (v := -9) (nx := 70) dX5_addNode_68 rfl rfl ?_
      refine Y_Sv3 (nx := 73) dX5_addNode_70 rfl ml_RX5_56 kj_X7_put ks_X7_put (sp_X7_put (i := n * 7 + i) (by decide) (by decide) rfl (by omega)) (by first | decide | omega) (by exact Nat.le_of_ble_eq_true rfl) ?_
      refine X_iinc (nx := 76) dX5_addNode_73 rfl (by decide) rfl (by first | exact ii1 _ | rfl) rfl (st_s (st_s (st_s (st_0)))) ?_
      refine X_goto (tgt := 52) dX5_addNode_76 rfl ?_
      rw [anL_s]
      exact ih (i + 1) (by omega)
theorem sp_X5_addNode {n R : Nat} {x : Int32} {D : Mem} (hx : x = nI R) (hn : n < 43) (hs : D 80 11 = nI n) : Ei 2 j_X5_addNode [.ref 80, .int x] D (nI n) (anD D n R) := by
  refine E.start 2 (ls := [some (.ref 80), some (.int x), none, none]) (by decide +kernel) (Nat.le_of_ble_eq_true rfl) rfl (Nat.le_refl _) (Nat.le_refl _) ?_
  subst hx
  have hly : (lay 82).2 = 43 ∧ (lay 83).2 = 43 ∧ (lay 84).2 = 43 ∧ (lay 85).2 = 43 ∧ (lay 86).2 = 43 ∧ (lay 81).2 = 301 ∧ (lay 87).2 = 10 ∧ (lay 88).2 = 4 ∧ (lay 89).2 = 3 ∧ (lay 90).2 = 3 ∧ (lay 91).2 = 3 := by decide
  refine X_aload_n (nx := 1) dX5_addNode_0 rfl rfl rfl ?_
  refine M_getI (nx := 4) dX5_addNode_1 rfl fl_RX5_48 rfl (by first | assumption | rfl | decide | omega) (by first | assumption | rfl | decide | omega) ?_
  refine X_top (hs) ?_
  refine X_istore_n (i := 2) (nx := 5) dX5_addNode_4 rfl rfl (by decide) rfl (st_s (st_s (st_0))) ?_
  refine X_aload_n (nx := 6) dX5_addNode_5 rfl rfl rfl ?_
  refine M_getP (nx := 9) dX5_addNode_6 rfl fl_RX5_15 rfl (by first | assumption | rfl | decide | omega) (by first | assumption | rfl | decide | omega) (by first | assumption | rfl | decide | omega) ?_
  refine X_iload_n (nx := 10) dX5_addNode_9 rfl rfl rfl ?_
  refine X_iload_n (nx := 11) dX5_addNode_10 rfl rfl rfl ?_
  refine Y_Sv3 (nx := 14) dX5_addNode_11 rfl ml_RX5_56 kj_X7_put ks_X7_put (sp_X7_put (i := n) (by decide) (by decide) rfl (by omega)) (by first | decide | omega) (by exact Nat.le_of_ble_eq_true rfl) ?_
  refine X_aload_n (nx := 15) dX5_addNode_14 rfl rfl rfl ?_
  refine M_getP (nx := 18) dX5_addNode_15 rfl fl_RX5_18 rfl (by first | assumption | rfl | decide | omega) (by first | assumption | rfl | decide | omega) (by first | assumption | rfl | decide | omega) ?_
  refine X_iload_n (nx := 19) dX5_addNode_18 rfl rfl rfl ?_
  refine X_iconst (v := 0) (nx := 20) dX5_addNode_19 rfl rfl ?_
  refine Y_Sv3 (nx := 23) dX5_addNode_20 rfl ml_RX5_56 kj_X7_put ks_X7_put (sp_X7_put (i := n) (by decide) (by decide) rfl (by omega)) (by first | decide | omega) (by exact Nat.le_of_ble_eq_true rfl) ?_
  refine X_aload_n (nx := 24) dX5_addNode_23 rfl rfl rfl ?_
  refine M_getP (nx := 27) dX5_addNode_24 rfl fl_RX5_21 rfl (by first | assumption | rfl | decide | omega) (by first | assumption | rfl | decide | omega) (by first | assumption | rfl | decide | omega) ?_
  refine X_iload_n (nx := 28) dX5_addNode_27 rfl rfl rfl ?_
  refine X_iconst (v := 0) (nx := 29) dX5_addNode_28 rfl rfl ?_
  refine Y_Sv3 (nx := 32) dX5_addNode_29 rfl ml_RX5_56 kj_X7_put ks_X7_put (sp_X7_put (i := n) (by decide) (by decide) rfl (by omega)) (by first | decide | omega) (by exact Nat.le_of_ble_eq_true rfl) ?_
  refine X_aload_n (nx := 33) dX5_addNode_32 rfl rfl rfl ?_
  refine M_getP (nx := 36) dX5_addNode_33 rfl fl_RX5_24 rfl (by first | assumption | rfl | decide | omega) (by first | assumption | rfl | decide | omega) (by first | assumption | rfl | decide | omega) ?_
  refine X_iload_n (nx := 37) dX5_addNode_36 rfl rfl rfl ?_
  refine X_iconst (v := 0) (nx := 38) dX5_addNode_37 rfl rfl ?_
  refine Y_Sv3 (nx := 41) dX5_addNode_38 rfl ml_RX5_56 kj_X7_put ks_X7_put (sp_X7_put (i := n) (by decide) (by decide) rfl (by omega)) (by first | decide | omega) (by exact Nat.le_of_ble_eq_true rfl) ?_
  refine X_aload_n (nx := 42) dX5_addNode_41 rfl rfl rfl ?_
  refine M_getP (nx := 45) dX5_addNode_42 rfl fl_RX5_27 rfl (by first | assumption | rfl | decide | omega) (by first | assumption | rfl | decide | omega) (by first | assumption | rfl | decide | omega) ?_
  refine X_iload_n (nx := 46) dX5_addNode_45 rfl rfl rfl ?_
  refine X_iconst (v := 0) (nx := 47) dX5_addNode_46 rfl rfl ?_
  refine Y_Sv3 (nx := 50) dX5_addNode_47 rfl ml_RX5_56 kj_X7_put ks_X7_put (sp_X7_put (i := n) (by decide) (by decide) rfl (by omega)) (by first | decide | omega) (by exact Nat.le_of_ble_eq_true rfl) ?_
  refine X_iconst (v := 0) (nx := 51) dX5_addNode_50 rfl rfl ?_
  refine X_istore_n (i := 3) (nx := 52) dX5_addNode_51 rfl rfl (by decide) rfl (st_s (st_s (st_s (st_0)))) ?_
  have hq := lp_X5_addNode (D1 := up2 (up2 (up2 (up2 (up2 D 82 n (nI R)) 83 n 0) 84 n 0) 85 n 0) 86 n 0) hn (by rw [up2_other (by omega), up2_other (by omega), up2_other (by omega), up2_other (by omega), up2_other (by omega)]; exact hs) (anD_eq D n R) 7 0 rfl
  rw [anL_0] at hq
  exact hq
theorem dX5_mark_0 : decode cX5_mark 0 = .ok (.aload_n 0, 1) := by decide +kernel
theorem dX5_mark_1 : decode cX5_mark 1 = .ok (.iload_n 1, 1) := by decide +kernel
theorem dX5_mark_2 : decode cX5_mark 2 = .ok (.aload_n 0, 1) := by decide +kernel
theorem dX5_mark_3 : decode cX5_mark 3 = .ok (.iload_n 1, 1) := by decide +kernel
theorem dX5_mark_4 : decode cX5_mark 4 = .ok (.invokestatic 63, 3) := by decide +kernel
theorem dX5_mark_7 : decode cX5_mark 7 = .ok (.iconst 1, 1) := by decide +kernel
theorem dX5_mark_8 : decode cX5_mark 8 = .ok (.iload_n 2, 1) := by decide +kernel
theorem dX5_mark_9 : decode cX5_mark 9 = .ok (.ishl, 1) := by decide +kernel
theorem dX5_mark_10 : decode cX5_mark 10 = .ok (.ior, 1) := by decide +kernel
theorem dX5_mark_11 : decode cX5_mark 11 = .ok (.invokestatic 56, 3) := by decide +kernel
theorem dX5_mark_14 : decode cX5_mark 14 = .ok (.return_, 1) := by decide +kernel
theorem sp_X5_mark {a i k w : Nat} {x y : Int32} {D : Mem} (ha : a < 138) (hc : (lay a).1 = 8) (hx : x = nI i) (hi : i < (lay a).2) (hy : y = nI k) (hk : k < 31) (hw : D a i = nI w) : Ev 2 j_X5_mark [.ref a, .int x, .int y] D (up2 D a i (nI (w ||| 2 ^ k))) := by
  refine E.start 0 (ls := [some (.ref a), some (.int x), some (.int y)]) (by decide +kernel) (Nat.le_of_ble_eq_true rfl) rfl (Nat.le_refl _) (Nat.le_refl _) ?_
  subst hx; subst hy
  refine X_aload_n (nx := 1) dX5_mark_0 rfl rfl rfl ?_
  refine X_iload_n (nx := 2) dX5_mark_1 rfl rfl rfl ?_
  refine X_aload_n (nx := 3) dX5_mark_2 rfl rfl rfl ?_
  refine X_iload_n (nx := 4) dX5_mark_3 rfl rfl rfl ?_
  refine Y_Si2 (nx := 7) dX5_mark_4 rfl ml_RX5_63 kj_X7_numberAt ks_X7_numberAt (sp_X7_numberAt ha hc rfl hi) (by first | decide | omega) (by exact Nat.le_of_ble_eq_true rfl) ?_
  refine X_iconst (v := 1) (nx := 8) dX5_mark_7 rfl rfl ?_
  refine X_iload_n (nx := 9) dX5_mark_8 rfl rfl rfl ?_
  refine X_ishl (nx := 10) dX5_mark_9 rfl ?_
  refine X_ior (nx := 11) dX5_mark_10 rfl ?_
  refine X_top ((by rw [hw, one_shl k hk, nI_or])) ?_
  refine Y_Sv3 (nx := 14) dX5_mark_11 rfl ml_RX5_56 kj_X7_put ks_X7_put (sp_X7_put ha hc rfl hi) (by first | decide | omega) (by exact Nat.le_of_ble_eq_true rfl) ?_
  exact Y_retv dX5_mark_14 rfl rfl
/-- how many of the first n nodes are a router's -/
def ndc (nl : List Nd) (R : Nat) : Nat → Nat
  | 0 => 0
  | n + 1 => if (ng nl n).1 = R then ndc nl R n + 1 else ndc nl R n
theorem dX5_nodesOf_0 : decode cX5_nodesOf 0 = .ok (.iconst 0, 1) := by decide +kernel
theorem dX5_nodesOf_1 : decode cX5_nodesOf 1 = .ok (.istore_n 2, 1) := by decide +kernel
theorem dX5_nodesOf_2 : decode cX5_nodesOf 2 = .ok (.iconst 0, 1) := by decide +kernel
theorem dX5_nodesOf_3 : decode cX5_nodesOf 3 = .ok (.istore_n 3, 1) := by decide +kernel
theorem dX5_nodesOf_4 : decode cX5_nodesOf 4 = .ok (.iload_n 3, 1) := by decide +kernel
theorem dX5_nodesOf_5 : decode cX5_nodesOf 5 = .ok (.aload_n 0, 1) := by decide +kernel
theorem dX5_nodesOf_6 : decode cX5_nodesOf 6 = .ok (.getfield 48, 3) := by decide +kernel
theorem dX5_nodesOf_9 : decode cX5_nodesOf 9 = .ok (.if_icmp .ge 24, 3) := by decide +kernel
theorem dX5_nodesOf_12 : decode cX5_nodesOf 12 = .ok (.aload_n 0, 1) := by decide +kernel
theorem dX5_nodesOf_13 : decode cX5_nodesOf 13 = .ok (.getfield 15, 3) := by decide +kernel
theorem dX5_nodesOf_16 : decode cX5_nodesOf 16 = .ok (.iload_n 3, 1) := by decide +kernel
theorem dX5_nodesOf_17 : decode cX5_nodesOf 17 = .ok (.invokestatic 63, 3) := by decide +kernel
theorem dX5_nodesOf_20 : decode cX5_nodesOf 20 = .ok (.iload_n 1, 1) := by decide +kernel
theorem dX5_nodesOf_21 : decode cX5_nodesOf 21 = .ok (.if_icmp .ne 6, 3) := by decide +kernel
theorem dX5_nodesOf_24 : decode cX5_nodesOf 24 = .ok (.iinc 2 1, 3) := by decide +kernel
theorem dX5_nodesOf_27 : decode cX5_nodesOf 27 = .ok (.iinc 3 1, 3) := by decide +kernel
theorem dX5_nodesOf_30 : decode cX5_nodesOf 30 = .ok (.goto (-26), 3) := by decide +kernel
theorem dX5_nodesOf_33 : decode cX5_nodesOf 33 = .ok (.iload_n 2, 1) := by decide +kernel
theorem dX5_nodesOf_34 : decode cX5_nodesOf 34 = .ok (.ireturn, 1) := by decide +kernel
theorem lp_X5_nodesOf {B : Bk} {nl : List Nd} {PS EN RS MN : Nd → Nat → Bool} {SV : Nat → Nat → Bool} {MO : Nat → Bool} {D : Mem} (h : TE D B nl PS EN RS MN SV MO) {R : Nat} (hR : R < 3) (hO : ∀ j, j < nl.length → (ng nl j).1 < 3) : ∀ (m : Nat) (i : Nat), i + m = nl.length → X 2 138 j_X5_nodesOf 4 [some (.ref 80), some (.int (nI R)), some (.int (nI (ndc nl R i))), some (.int (nI i))] [] (138, P0, D) (fun x σ => x = [.int (nI (ndc nl R nl.length))] ∧ σ = wd D) := by
  intro m
  induction m with
  | zero =>
    intro i hi
    have hn := h.2.1.2.1
    have hn3 := h.2.1.1
    have hly : (lay 82).2 = 43 ∧ (lay 83).2 = 43 ∧ (lay 84).2 = 43 ∧ (lay 85).2 = 43 ∧ (lay 86).2 = 43 ∧ (lay 81).2 = 301 ∧ (lay 87).2 = 10 ∧ (lay 88).2 = 4 ∧ (lay 89).2 = 3 ∧ (lay 90).2 = 3 ∧ (lay 91).2 = 3 := by decide
    refine X_iload_n (nx := 5) dX5_nodesOf_4 rfl rfl rfl ?_
    refine X_aload_n (nx := 6) dX5_nodesOf_5 rfl rfl rfl ?_
    refine M_getI (nx := 9) dX5_nodesOf_6 rfl fl_RX5_48 rfl (by first | assumption | rfl | decide | omega) (by first | assumption | rfl | decide | omega) ?_
    refine X_top (h.1) ?_
    refine X_icmp_ge (tgt := 33) (nx := 12) dX5_nodesOf_9 rfl rfl (fun h9 => ?_) (fun h9 => ?_)
    · skip
      refine X_iload_n (nx := 34) dX5_nodesOf_33 rfl rfl rfl ?_
      exact Y_reti dX5_nodesOf_34 (Or.inl rfl) (by rw [show i = nl.length by omega]) rfl
    · exact absurd h9 (fun q => q (nI_le (by omega) (by omega)))
  | succ m ih =>
    intro i hi
    have hn := h.2.1.2.1
    have hn3 := h.2.1.1
    have hly : (lay 82).2 = 43 ∧ (lay 83).2 = 43 ∧ (lay 84).2 = 43 ∧ (lay 85).2 = 43 ∧ (lay 86).2 = 43 ∧ (lay 81).2 = 301 ∧ (lay 87).2 = 10 ∧ (lay 88).2 = 4 ∧ (lay 89).2 = 3 ∧ (lay 90).2 = 3 ∧ (lay 91).2 = 3 := by decide
    refine X_iload_n (nx := 5) dX5_nodesOf_4 rfl rfl rfl ?_
    refine X_aload_n (nx := 6) dX5_nodesOf_5 rfl rfl rfl ?_
    refine M_getI (nx := 9) dX5_nodesOf_6 rfl fl_RX5_48 rfl (by first | assumption | rfl | decide | omega) (by first | assumption | rfl | decide | omega) ?_
    refine X_top (h.1) ?_
    refine X_icmp_ge (tgt := 33) (nx := 12) dX5_nodesOf_9 rfl rfl (fun h9 => ?_) (fun h9 => ?_)
    · exact absurd h9 (nI_ge (by omega) (by omega))
    · skip
      refine X_aload_n (nx := 13) dX5_nodesOf_12 rfl rfl rfl ?_
      refine M_getP (nx := 16) dX5_nodesOf_13 rfl fl_RX5_15 rfl (by first | assumption | rfl | decide | omega) (by first | assumption | rfl | decide | omega) (by first | assumption | rfl | decide | omega) ?_
      refine X_iload_n (nx := 17) dX5_nodesOf_16 rfl rfl rfl ?_
      refine Y_Si2 (nx := 20) dX5_nodesOf_17 rfl ml_RX5_63 kj_X7_numberAt ks_X7_numberAt (sp_X7_numberAt (i := i) (by decide) (by decide) rfl (by omega)) (by first | decide | omega) (by exact Nat.le_of_ble_eq_true rfl) ?_
      refine X_top ((h.2.2.1 i (by omega)).1) ?_
      refine X_iload_n (nx := 21) dX5_nodesOf_20 rfl rfl rfl ?_
      refine X_icmp_ne (tgt := 27) (nx := 24) dX5_nodesOf_21 rfl rfl (fun h21 => ?_) (fun h21 => ?_)
      · skip
        rw [nI_eq (by have := hO i (by omega); omega) (by omega)] at h21
        refine X_iinc (nx := 30) dX5_nodesOf_27 rfl (by decide) rfl (by first | exact ii1 _ | rfl) rfl (st_s (st_s (st_s (st_0)))) ?_
        refine X_goto (tgt := 4) dX5_nodesOf_30 rfl ?_
        first
          | (have e1 : ndc nl R (i + 1) = ndc nl R i + 1 := if_pos h21; rw [← e1]; exact ih (i + 1) (by omega))
          | (have e1 : ndc nl R (i + 1) = ndc nl R i := if_neg h21; rw [← e1]; exact ih (i + 1) (by omega))
      · skip
        rw [nI_eq (by have := hO i (by omega); omega) (by omega)] at h21
        refine X_iinc (nx := 27) dX5_nodesOf_24 rfl (by decide) rfl (by first | exact ii1 _ | rfl) rfl (st_s (st_s (st_0))) ?_
        refine X_iinc (nx := 30) dX5_nodesOf_27 rfl (by decide) rfl (by first | exact ii1 _ | rfl) rfl (st_s (st_s (st_s (st_0)))) ?_
        refine X_goto (tgt := 4) dX5_nodesOf_30 rfl ?_
        first
          | (have e1 : ndc nl R (i + 1) = ndc nl R i + 1 := if_pos h21; rw [← e1]; exact ih (i + 1) (by omega))
          | (have e1 : ndc nl R (i + 1) = ndc nl R i := if_neg h21; rw [← e1]; exact ih (i + 1) (by omega))
theorem sp_X5_nodesOf {B : Bk} {nl : List Nd} {PS EN RS MN : Nd → Nat → Bool} {SV : Nat → Nat → Bool} {MO : Nat → Bool} {R : Nat} {x : Int32} {D : Mem} (h : TE D B nl PS EN RS MN SV MO) (hx : x = nI R) (hR : R < 3) (hO : ∀ j, j < nl.length → (ng nl j).1 < 3) : Ei 2 j_X5_nodesOf [.ref 80, .int x] D (nI (ndc nl R nl.length)) (D) := by
  refine E.start 2 (ls := [some (.ref 80), some (.int x), none, none]) (by decide +kernel) (Nat.le_of_ble_eq_true rfl) rfl (Nat.le_refl _) (Nat.le_refl _) ?_
  subst hx
  refine X_iconst (v := 0) (nx := 1) dX5_nodesOf_0 rfl rfl ?_
  refine X_istore_n (i := 2) (nx := 2) dX5_nodesOf_1 rfl rfl (by decide) rfl (st_s (st_s (st_0))) ?_
  refine X_iconst (v := 0) (nx := 3) dX5_nodesOf_2 rfl rfl ?_
  refine X_istore_n (i := 3) (nx := 4) dX5_nodesOf_3 rfl rfl (by decide) rfl (st_s (st_s (st_s (st_0)))) ?_
  exact lp_X5_nodesOf h hR hO nl.length 0 (by omega)
/-- the node behind by an edge, if a route of w goes through it -/
def nbh (nl : List Nd) (PS : Nd → Nat → Bool) (q : Nd) (e w : Nat) : Option Nat := match nix nl (q.1, q.2 ++ [e]) with
  | none => none
  | some k => if mkn (PS (q.1, q.2 ++ [e])) 10 &&& w = 0 then none else some k
theorem nI_0' {n : Nat} (h : n < 2147483648) : nI n = 0 ↔ n = 0 := by
  rw [show (0 : Int32) = nI 0 from rfl]
  exact nI_eq (by omega) (by omega)
theorem dX5_nodeBehind_0 : decode cX5_nodeBehind 0 = .ok (.aload_n 0, 1) := by decide +kernel
theorem dX5_nodeBehind_1 : decode cX5_nodeBehind 1 = .ok (.getfield 11, 3) := by decide +kernel
theorem dX5_nodeBehind_4 : decode cX5_nodeBehind 4 = .ok (.iload_n 1, 1) := by decide +kernel
theorem dX5_nodeBehind_5 : decode cX5_nodeBehind 5 = .ok (.bipush 7, 2) := by decide +kernel
theorem dX5_nodeBehind_7 : decode cX5_nodeBehind 7 = .ok (.imul, 1) := by decide +kernel
theorem dX5_nodeBehind_8 : decode cX5_nodeBehind 8 = .ok (.iload_n 2, 1) := by decide +kernel
theorem dX5_nodeBehind_9 : decode cX5_nodeBehind 9 = .ok (.iadd, 1) := by decide +kernel
theorem dX5_nodeBehind_10 : decode cX5_nodeBehind 10 = .ok (.invokestatic 63, 3) := by decide +kernel
theorem dX5_nodeBehind_13 : decode cX5_nodeBehind 13 = .ok (.istore 4, 2) := by decide +kernel
theorem dX5_nodeBehind_15 : decode cX5_nodeBehind 15 = .ok (.iload 4, 2) := by decide +kernel
theorem dX5_nodeBehind_17 : decode cX5_nodeBehind 17 = .ok (.ifCond .lt 21, 3) := by decide +kernel
theorem dX5_nodeBehind_20 : decode cX5_nodeBehind 20 = .ok (.aload_n 0, 1) := by decide +kernel
theorem dX5_nodeBehind_21 : decode cX5_nodeBehind 21 = .ok (.getfield 18, 3) := by decide +kernel
theorem dX5_nodeBehind_24 : decode cX5_nodeBehind 24 = .ok (.iload 4, 2) := by decide +kernel
theorem dX5_nodeBehind_26 : decode cX5_nodeBehind 26 = .ok (.invokestatic 63, 3) := by decide +kernel
theorem dX5_nodeBehind_29 : decode cX5_nodeBehind 29 = .ok (.iload_n 3, 1) := by decide +kernel
theorem dX5_nodeBehind_30 : decode cX5_nodeBehind 30 = .ok (.iand, 1) := by decide +kernel
theorem dX5_nodeBehind_31 : decode cX5_nodeBehind 31 = .ok (.ifCond .eq 7, 3) := by decide +kernel
theorem dX5_nodeBehind_34 : decode cX5_nodeBehind 34 = .ok (.iconst 1, 1) := by decide +kernel
theorem dX5_nodeBehind_35 : decode cX5_nodeBehind 35 = .ok (.goto 4, 3) := by decide +kernel
theorem dX5_nodeBehind_38 : decode cX5_nodeBehind 38 = .ok (.iconst 0, 1) := by decide +kernel
theorem dX5_nodeBehind_39 : decode cX5_nodeBehind 39 = .ok (.istore 5, 2) := by decide +kernel
theorem dX5_nodeBehind_41 : decode cX5_nodeBehind 41 = .ok (.iload 5, 2) := by decide +kernel
theorem dX5_nodeBehind_43 : decode cX5_nodeBehind 43 = .ok (.ifCond .eq 8, 3) := by decide +kernel
theorem dX5_nodeBehind_46 : decode cX5_nodeBehind 46 = .ok (.iload 4, 2) := by decide +kernel
theorem dX5_nodeBehind_48 : decode cX5_nodeBehind 48 = .ok (.goto 5, 3) := by decide +kernel
theorem dX5_nodeBehind_51 : decode cX5_nodeBehind 51 = .ok (.bipush (-9), 2) := by decide +kernel
theorem dX5_nodeBehind_53 : decode cX5_nodeBehind 53 = .ok (.ireturn, 1) := by decide +kernel
theorem sp_X5_nodeBehind {B : Bk} {nl : List Nd} {PS EN RS MN : Nd → Nat → Bool} {SV : Nat → Nat → Bool} {MO : Nat → Bool} {j e w : Nat} {x y z : Int32} {D : Mem} (h : TE D B nl PS EN RS MN SV MO) (hx : x = nI j) (hj : j < nl.length) (hy : y = nI e) (he : e < 7) (hz : z = nI w) (hw : w < 1024) : Ei 2 j_X5_nodeBehind [.ref 80, .int x, .int y, .int z] D (opI (nbh nl PS (ng nl j) e w)) (D) := by
  refine E.start 2 (ls := [some (.ref 80), some (.int x), some (.int y), some (.int z), none, none]) (by decide +kernel) (Nat.le_of_ble_eq_true rfl) rfl (Nat.le_refl _) (Nat.le_refl _) ?_
  subst hx; subst hy; subst hz
  have hn := h.2.1.2.1
  have hn3 := h.2.1.1
  have hly : (lay 82).2 = 43 ∧ (lay 83).2 = 43 ∧ (lay 84).2 = 43 ∧ (lay 85).2 = 43 ∧ (lay 86).2 = 43 ∧ (lay 81).2 = 301 ∧ (lay 87).2 = 10 ∧ (lay 88).2 = 4 ∧ (lay 89).2 = 3 ∧ (lay 90).2 = 3 ∧ (lay 91).2 = 3 := by decide
  have hnd := (h.2.2.1 j hj).2.2.2.2.2 e he
  have hlt : ∀ k, nix nl ((ng nl j).1, (ng nl j).2 ++ [e]) = some k → k < nl.length := fun k hk => (nix_some hk).1
  refine X_aload_n (nx := 1) dX5_nodeBehind_0 rfl rfl rfl ?_
  refine M_getP (nx := 4) dX5_nodeBehind_1 rfl fl_RX5_11 rfl (by first | assumption | rfl | decide | omega) (by first | assumption | rfl | decide | omega) (by first | assumption | rfl | decide | omega) ?_
  refine X_iload_n (nx := 5) dX5_nodeBehind_4 rfl rfl rfl ?_
  refine X_bipush (v := 7) (nx := 7) dX5_nodeBehind_5 rfl rfl ?_
  refine X_imul (nx := 8) dX5_nodeBehind_7 rfl ?_
  refine X_iload_n (nx := 9) dX5_nodeBehind_8 rfl rfl rfl ?_
  refine X_iadd (nx := 10) dX5_nodeBehind_9 rfl ?_
  refine X_top (mul7 j e) ?_
  refine Y_Si2 (nx := 13) dX5_nodeBehind_10 rfl ml_RX5_63 kj_X7_numberAt ks_X7_numberAt (sp_X7_numberAt (i := j * 7 + e) (by decide) (by decide) rfl (by omega)) (by first | decide | omega) (by exact Nat.le_of_ble_eq_true rfl) ?_
  refine X_top (hnd) ?_
  refine X_istore (i := 4) (nx := 15) dX5_nodeBehind_13 rfl (by decide) rfl (st_s (st_s (st_s (st_s (st_0))))) ?_
  refine X_iload (nx := 17) dX5_nodeBehind_15 rfl rfl ?_
  refine X_if_lt (tgt := 38) (nx := 20) dX5_nodeBehind_17 rfl rfl (fun h17 => ?_) (fun h17 => ?_)
  · skip
    have hk := opI_lt h17 (fun k hk => by have := hlt k hk; omega)
    refine X_iconst (v := 0) (nx := 39) dX5_nodeBehind_38 rfl rfl ?_
    refine X_istore (i := 5) (nx := 41) dX5_nodeBehind_39 rfl (by decide) rfl (st_s (st_s (st_s (st_s (st_s (st_0)))))) ?_
    refine X_iload (nx := 43) dX5_nodeBehind_41 rfl rfl ?_
    refine X_if_eq (tgt := 51) (nx := 46) dX5_nodeBehind_43 rfl rfl (fun h43 => ?_) (fun h43 => ?_)
    · skip
      refine X_bipush (v := -9) (nx := 53) dX5_nodeBehind_51 rfl rfl ?_
      exact Y_reti dX5_nodeBehind_53 (Or.inl rfl) (by first | exact absurd h43 (by decide) | (unfold nbh; rw [hk]; done) | (unfold nbh; rw [hk]; rfl) | (unfold nbh; rw [hk]; show _ = opI (if _ then none else some k); rw [if_pos h31]; rfl) | (unfold nbh; rw [hk]; show _ = opI (if _ then none else some k); rw [if_neg h31]; rfl)) rfl
    · exact absurd h43 (by decide)
  · skip
    obtain ⟨k, hk⟩ := Option.isSome_iff_exists.mp (opI_ge h17)
    have hkl := hlt k hk
    have hp := (h.2.2.1 k hkl).2.1
    rw [(nix_some hk).2] at hp
    rw [hk]
    have ek : opI (some k) = nI k := rfl
    rw [ek]
    have ham := mkn_lt (PS ((ng nl j).1, (ng nl j).2 ++ [e])) 10
    have hal : mkn (PS ((ng nl j).1, (ng nl j).2 ++ [e])) 10 &&& w < 2147483648 := Nat.lt_of_le_of_lt Nat.and_le_left (by omega)
    refine X_aload_n (nx := 21) dX5_nodeBehind_20 rfl rfl rfl ?_
    refine M_getP (nx := 24) dX5_nodeBehind_21 rfl fl_RX5_18 rfl (by first | assumption | rfl | decide | omega) (by first | assumption | rfl | decide | omega) (by first | assumption | rfl | decide | omega) ?_
    refine X_iload (nx := 26) dX5_nodeBehind_24 rfl rfl ?_
    refine Y_Si2 (nx := 29) dX5_nodeBehind_26 rfl ml_RX5_63 kj_X7_numberAt ks_X7_numberAt (sp_X7_numberAt (i := k) (by decide) (by decide) rfl (by omega)) (by first | decide | omega) (by exact Nat.le_of_ble_eq_true rfl) ?_
    refine X_top (hp) ?_
    refine X_iload_n (nx := 30) dX5_nodeBehind_29 rfl rfl rfl ?_
    refine X_iand (nx := 31) dX5_nodeBehind_30 rfl ?_
    refine X_top (nI_and _ _) ?_
    refine X_if_eq (tgt := 38) (nx := 34) dX5_nodeBehind_31 rfl rfl (fun h31 => ?_) (fun h31 => ?_)
    · skip
      rw [nI_0' hal] at h31
      refine X_iconst (v := 0) (nx := 39) dX5_nodeBehind_38 rfl rfl ?_
      refine X_istore (i := 5) (nx := 41) dX5_nodeBehind_39 rfl (by decide) rfl (st_s (st_s (st_s (st_s (st_s (st_0)))))) ?_
      refine X_iload (nx := 43) dX5_nodeBehind_41 rfl rfl ?_
      refine X_if_eq (tgt := 51) (nx := 46) dX5_nodeBehind_43 rfl rfl (fun h43 => ?_) (fun h43 => ?_)
      · skip
        refine X_bipush (v := -9) (nx := 53) dX5_nodeBehind_51 rfl rfl ?_
        exact Y_reti dX5_nodeBehind_53 (Or.inl rfl) (by first | exact absurd h43 (by decide) | (unfold nbh; rw [hk]; done) | (unfold nbh; rw [hk]; rfl) | (unfold nbh; rw [hk]; show _ = opI (if _ then none else some k); rw [if_pos h31]; rfl) | (unfold nbh; rw [hk]; show _ = opI (if _ then none else some k); rw [if_neg h31]; rfl)) rfl
      · exact absurd h43 (by decide)
    · skip
      rw [nI_0' hal] at h31
      refine X_iconst (v := 1) (nx := 35) dX5_nodeBehind_34 rfl rfl ?_
      refine X_goto (tgt := 39) dX5_nodeBehind_35 rfl ?_
      refine X_istore (i := 5) (nx := 41) dX5_nodeBehind_39 rfl (by decide) rfl (st_s (st_s (st_s (st_s (st_s (st_0)))))) ?_
      refine X_iload (nx := 43) dX5_nodeBehind_41 rfl rfl ?_
      refine X_if_eq (tgt := 51) (nx := 46) dX5_nodeBehind_43 rfl rfl (fun h43 => ?_) (fun h43 => ?_)
      · exact absurd h43 (by decide)
      · skip
        refine X_iload (nx := 48) dX5_nodeBehind_46 rfl rfl ?_
        refine X_goto (tgt := 53) dX5_nodeBehind_48 rfl ?_
        exact Y_reti dX5_nodeBehind_53 (Or.inl rfl) (by first | exact absurd h43 (by decide) | (unfold nbh; rw [hk]; done) | (unfold nbh; rw [hk]; rfl) | (unfold nbh; rw [hk]; show _ = opI (if _ then none else some k); rw [if_pos h31]; rfl) | (unfold nbh; rw [hk]; show _ = opI (if _ then none else some k); rw [if_neg h31]; rfl)) rfl
end
section
/-! A ROUTE IS PLANTED -/
theorem ng_app {nl : List Nd} {q : Nd} {j : Nat} (h : j < nl.length) : ng (nl ++ [q]) j = ng nl j := by
  unfold ng
  rw [List.getD_eq_getElem?_getD, List.getD_eq_getElem?_getD, List.getElem?_append_left h]
theorem ng_last {nl : List Nd} {q : Nd} : ng (nl ++ [q]) nl.length = q := by
  unfold ng
  rw [List.getD_eq_getElem?_getD, List.getElem?_append_right (Nat.le_refl _)]
  simp
theorem nix_app {nl : List Nd} {q x : Nd} (h : nix nl q = none) : nix (nl ++ [q]) x = if x = q then some nl.length else nix nl x := by
  by_cases hx : x = q
  · rw [if_pos hx]
    subst hx
    refine fst_intro (Nat.zero_le _) (by simp) (decide_eq_true ng_last) (fun k _ hk => decide_eq_false ?_)
    rw [ng_app hk]
    exact nix_none h hk
  · rw [if_neg hx]
    cases hn : nix nl x with
    | none =>
      refine fst_intro_none (fun k _ hk => decide_eq_false ?_)
      simp at hk
      by_cases hk2 : k < nl.length
      · rw [ng_app hk2]; exact nix_none hn hk2
      · have : k = nl.length := by omega
        subst this
        rw [ng_last]; exact fun e => hx e.symm
    | some m =>
      obtain ⟨h1, h2⟩ := nix_some hn
      obtain ⟨_, _, _, g4⟩ := fst_some hn
      refine fst_intro (Nat.zero_le _) (by simp; omega) (decide_eq_true (by rw [ng_app h1]; exact h2)) (fun k _ hk => decide_eq_false ?_)
      rw [ng_app (by omega)]
      exact of_decide_eq_false (g4 k (Nat.zero_le _) hk)
theorem NL.app {nl : List Nd} {j : Nat} {e : Nat} (hn : NL nl) (hj : j < nl.length) (hl : nl.length < 43) (h : nix nl ((ng nl j).1, (ng nl j).2 ++ [e]) = none) : NL (nl ++ [((ng nl j).1, (ng nl j).2 ++ [e])]) := by
  obtain ⟨h1, h2, h3, h4, h5⟩ := hn
  refine ⟨by simp; omega, by simp; omega, fun i hi => by rw [ng_app (by omega)]; exact h3 i hi, fun a b ha hb hab => ?_, fun k hk p e' hp => ?_⟩
  · simp at ha hb
    by_cases ha2 : a < nl.length
    · by_cases hb2 : b < nl.length
      · rw [ng_app ha2, ng_app hb2] at hab; exact h4 a b ha2 hb2 hab
      · have : b = nl.length := by omega
        subst this
        rw [ng_app ha2, ng_last] at hab
        exact absurd hab (nix_none h ha2)
    · have ea : a = nl.length := by omega
      subst ea
      by_cases hb2 : b < nl.length
      · rw [ng_app hb2, ng_last] at hab
        exact absurd hab.symm (nix_none h hb2)
      · omega
  · simp at hk
    by_cases hk2 : k < nl.length
    · rw [ng_app hk2] at hp ⊢
      obtain ⟨x, hx, hx2⟩ := h5 k hk2 p e' hp
      exact ⟨x, by simp; omega, by rw [ng_app hx]; exact hx2⟩
    · have : k = nl.length := by omega
      subst this
      rw [ng_last] at hp ⊢
      have hpp : p = (ng nl j).2 := (List.append_inj' hp rfl).1.symm
      exact ⟨j, by simp; omega, by rw [ng_app hj, hpp]⟩
/-- a node more -/
theorem TE.add {D : Mem} {B : Bk} {nl : List Nd} {PS EN RS MN : Nd → Nat → Bool} {SV : Nat → Nat → Bool} {MO : Nat → Bool} {j e : Nat} (h : TE D B nl PS EN RS MN SV MO) (hj : j < nl.length) (he : e < 7) (hl : nl.length < 43) (hx : nix nl ((ng nl j).1, (ng nl j).2 ++ [e]) = none) :
    TE (up2 (anD D nl.length (ng nl j).1) 81 (j * 7 + e) (nI nl.length)) B (nl ++ [((ng nl j).1, (ng nl j).2 ++ [e])]) PS EN RS MN SV MO := by
  obtain ⟨h1, h2, h3, h4, h5, h6⟩ := h
  have hlen : (nl ++ [((ng nl j).1, (ng nl j).2 ++ [e])]).length = nl.length + 1 := by simp
  have o : ∀ b x, ¬ (b = 80 ∧ x = 11) → ¬ (b = 82 ∧ x = nl.length) → ¬ ((83 ≤ b ∧ b ≤ 86) ∧ x = nl.length) → ¬ (b = 81 ∧ nl.length * 7 ≤ x ∧ x < nl.length * 7 + 7) → ¬ (b = 81 ∧ x = j * 7 + e) → up2 (anD D nl.length (ng nl j).1) 81 (j * 7 + e) (nI nl.length) b x = D b x := by
    intro b x g1 g2 g3 g4 g5
    rw [up2_other g5]
    unfold anD
    rw [if_neg g1, if_neg g2, if_neg g3, if_neg g4]
  refine ⟨?_, h2.app hj hl hx, fun i hi => ?_, fun v hv => by rw [o 88 v (by omega) (by omega) (by omega) (by omega) (by omega)]; exact h4 v hv, fun r hr hm => by rw [o 87 r (by omega) (by omega) (by omega) (by omega) (by omega)]; exact h5 r hr hm, fun q hq r hr => ?_⟩
  · rw [hlen, up2_other (by omega)]
    unfold anD
    rw [if_pos ⟨rfl, rfl⟩]
  · rw [hlen] at hi
    by_cases hi2 : i < nl.length
    · obtain ⟨g1, g2, g3, g4, g5, g6⟩ := h3 i hi2
      unfold NOD
      rw [ng_app hi2]
      refine ⟨by rw [o 82 i (by omega) (by omega) (by omega) (by omega) (by omega)]; exact g1, by rw [o 83 i (by omega) (by omega) (by omega) (by omega) (by omega)]; exact g2, by rw [o 84 i (by omega) (by omega) (by omega) (by omega) (by omega)]; exact g3, by rw [o 85 i (by omega) (by omega) (by omega) (by omega) (by omega)]; exact g4, by rw [o 86 i (by omega) (by omega) (by omega) (by omega) (by omega)]; exact g5, fun e' he' => ?_⟩
      rw [nix_app hx]
      by_cases hq : ((ng nl i).1, (ng nl i).2 ++ [e']) = ((ng nl j).1, (ng nl j).2 ++ [e])
      · rw [if_pos hq]
        have q1 := congrArg Prod.fst hq
        have q2 := List.append_inj' (congrArg Prod.snd hq) rfl
        have q3 : e' = e := by have := q2.2; simpa using this
        have q4 : i = j := h2.2.2.2.1 i j hi2 hj (Prod.ext q1 q2.1)
        subst q3; subst q4
        exact up2_same
      · rw [if_neg hq]
        have hne : ¬ (i = j ∧ e' = e) := fun q => hq (by rw [q.1, q.2])
        rw [o 81 (i * 7 + e') (by omega) (by omega) (by omega) (by omega) (by omega)]
        exact g6 e' he'
    · have : i = nl.length := by omega
      subst this
      unfold NOD
      rw [ng_last]
      have hz := h6 ((ng nl j).1, (ng nl j).2 ++ [e]) (fun k hk => nix_none hx hk)
      have a1 : ∀ b, 83 ≤ b → b ≤ 86 → up2 (anD D nl.length (ng nl j).1) 81 (j * 7 + e) (nI nl.length) b nl.length = 0 := by
        intro b g1 g2
        rw [up2_other (by omega)]
        unfold anD
        rw [if_neg (by omega), if_neg (by omega), if_pos ⟨⟨g1, g2⟩, rfl⟩]
      have z : ∀ F : Nat → Bool, (∀ r, r < 10 → F r = false) → nI (mkn F 10) = 0 := fun F hF => by rw [mkn_0.mpr hF]; rfl
      refine ⟨?_, ?_, ?_, ?_, ?_, fun e' he' => ?_⟩
      · rw [up2_other (by omega)]
        unfold anD
        rw [if_neg (by omega), if_pos ⟨rfl, rfl⟩]
      · rw [a1 83 (by omega) (by omega), z _ (fun r hr => (hz r hr).1)]
      · rw [a1 84 (by omega) (by omega), z _ (fun r hr => (hz r hr).2.1)]
      · rw [a1 85 (by omega) (by omega), z _ (fun r hr => (hz r hr).2.2.1)]
      · rw [a1 86 (by omega) (by omega), z _ (fun r hr => (hz r hr).2.2.2)]
      · rw [up2_other (by omega), nix_app hx, if_neg (fun q => by
          have := congrArg (fun z : Nd => z.2.length) q
          simp at this)]
        have hno : nix nl ((ng nl j).1, ((ng nl j).2 ++ [e]) ++ [e']) = none := by
          cases hc : nix nl ((ng nl j).1, ((ng nl j).2 ++ [e]) ++ [e']) with
          | none => rfl
          | some k =>
            obtain ⟨k1, k2⟩ := nix_some hc
            obtain ⟨x, x1, x2⟩ := h2.2.2.2.2 k k1 ((ng nl j).2 ++ [e]) e' (by rw [k2])
            rw [k2] at x2
            exact absurd x2 (nix_none hx x1)
        rw [hno]
        unfold anD
        rw [if_neg (by omega), if_neg (by omega), if_neg (by omega), if_pos ⟨rfl, by omega, by omega⟩]
        rfl
  · refine h6 q (fun k hk => ?_) r hr
    have := hq k (by rw [hlen]; omega)
    rw [ng_app hk] at this
    exact this
/-! marks -/
def uq (F : Nd → Nat → Bool) (q : Nd) (i : Nat) : Nd → Nat → Bool := fun x r => F x r || (decide (x = q) && decide (r = i))
theorem mkn_or {p : Nat → Bool} {i n : Nat} (hi : i < n) : mkn p n ||| 2 ^ i = mkn (fun r => p r || decide (r = i)) n := by
  refine tb_eq (n := n) ?_ (mkn_lt _ _) (fun k hk => ?_)
  · exact Nat.or_lt_two_pow (mkn_lt _ _) (Nat.pow_lt_pow_right (by omega) hi)
  · rw [Nat.testBit_or, mkn_tb, mkn_tb, Nat.testBit_two_pow, decide_eq_true hk, Bool.true_and, Bool.true_and]
    congr 1
    exact decide_eq_decide.mpr eq_comm
theorem uq_at {F : Nd → Nat → Bool} {q : Nd} {i : Nat} (hi : i < 10) : mkn (uq F q i q) 10 = mkn (F q) 10 ||| 2 ^ i := by
  rw [mkn_or hi]
  exact mkn_congr fun r _ => by unfold uq; rw [decide_eq_true rfl, Bool.true_and]
theorem uq_ne {F : Nd → Nat → Bool} {q x : Nd} {i : Nat} (h : x ≠ q) : uq F q i x = F x := by
  funext r
  unfold uq
  rw [decide_eq_false h]; simp
theorem TE.markPS {D : Mem} {B : Bk} {nl : List Nd} {PS EN RS MN : Nd → Nat → Bool} {SV : Nat → Nat → Bool} {MO : Nat → Bool} {j i : Nat} (h : TE D B nl PS EN RS MN SV MO) (hj : j < nl.length) (hi : i < 10) : TE (up2 D 83 j (nI (mkn (PS (ng nl j)) 10 ||| 2 ^ i))) B nl (uq PS (ng nl j) i) EN RS MN SV MO := by
  obtain ⟨h1, h2, h3, h4, h5, h6⟩ := h
  refine ⟨by rw [up2_other (by omega)]; exact h1, h2, fun x hx => ?_, fun v hv => by rw [up2_other (by omega)]; exact h4 v hv, fun r hr hm => by rw [up2_other (by omega)]; exact h5 r hr hm, fun q hq r hr => ?_⟩
  · obtain ⟨g1, g2, g3, g4, g5, g6⟩ := h3 x hx
    by_cases e : x = j
    · subst e
      exact ⟨(by rw [up2_other (by omega)]; exact g1), (by rw [uq_at hi]; exact up2_same), (by rw [up2_other (by omega)]; exact g3), (by rw [up2_other (by omega)]; exact g4), (by rw [up2_other (by omega)]; exact g5), fun e' he' => by rw [up2_other (by omega)]; exact g6 e' he'⟩
    · have hne : ng nl x ≠ ng nl j := fun q => e (h2.2.2.2.1 x j hx hj q)
      exact ⟨(by rw [up2_other (by omega)]; exact g1), (by rw [uq_ne hne, up2_other (by omega)]; exact g2), (by rw [up2_other (by omega)]; exact g3), (by rw [up2_other (by omega)]; exact g4), (by rw [up2_other (by omega)]; exact g5), fun e' he' => by rw [up2_other (by omega)]; exact g6 e' he'⟩
  · have z := h6 q hq r hr
    exact ⟨by unfold uq; rw [decide_eq_false (Ne.symm (hq j hj)), z.1]; simp, z.2.1, z.2.2.1, z.2.2.2⟩
theorem TE.markEN {D : Mem} {B : Bk} {nl : List Nd} {PS EN RS MN : Nd → Nat → Bool} {SV : Nat → Nat → Bool} {MO : Nat → Bool} {j i : Nat} (h : TE D B nl PS EN RS MN SV MO) (hj : j < nl.length) (hi : i < 10) : TE (up2 D 84 j (nI (mkn (EN (ng nl j)) 10 ||| 2 ^ i))) B nl PS (uq EN (ng nl j) i) RS MN SV MO := by
  obtain ⟨h1, h2, h3, h4, h5, h6⟩ := h
  refine ⟨by rw [up2_other (by omega)]; exact h1, h2, fun x hx => ?_, fun v hv => by rw [up2_other (by omega)]; exact h4 v hv, fun r hr hm => by rw [up2_other (by omega)]; exact h5 r hr hm, fun q hq r hr => ?_⟩
  · obtain ⟨g1, g2, g3, g4, g5, g6⟩ := h3 x hx
    by_cases e : x = j
    · subst e
      exact ⟨(by rw [up2_other (by omega)]; exact g1), (by rw [up2_other (by omega)]; exact g2), (by rw [uq_at hi]; exact up2_same), (by rw [up2_other (by omega)]; exact g4), (by rw [up2_other (by omega)]; exact g5), fun e' he' => by rw [up2_other (by omega)]; exact g6 e' he'⟩
    · have hne : ng nl x ≠ ng nl j := fun q => e (h2.2.2.2.1 x j hx hj q)
      exact ⟨(by rw [up2_other (by omega)]; exact g1), (by rw [up2_other (by omega)]; exact g2), (by rw [uq_ne hne, up2_other (by omega)]; exact g3), (by rw [up2_other (by omega)]; exact g4), (by rw [up2_other (by omega)]; exact g5), fun e' he' => by rw [up2_other (by omega)]; exact g6 e' he'⟩
  · have z := h6 q hq r hr
    exact ⟨z.1, by unfold uq; rw [decide_eq_false (Ne.symm (hq j hj)), z.2.1]; simp, z.2.2.1, z.2.2.2⟩
theorem TE.markRS {D : Mem} {B : Bk} {nl : List Nd} {PS EN RS MN : Nd → Nat → Bool} {SV : Nat → Nat → Bool} {MO : Nat → Bool} {j i : Nat} (h : TE D B nl PS EN RS MN SV MO) (hj : j < nl.length) (hi : i < 10) : TE (up2 D 85 j (nI (mkn (RS (ng nl j)) 10 ||| 2 ^ i))) B nl PS EN (uq RS (ng nl j) i) MN SV MO := by
  obtain ⟨h1, h2, h3, h4, h5, h6⟩ := h
  refine ⟨by rw [up2_other (by omega)]; exact h1, h2, fun x hx => ?_, fun v hv => by rw [up2_other (by omega)]; exact h4 v hv, fun r hr hm => by rw [up2_other (by omega)]; exact h5 r hr hm, fun q hq r hr => ?_⟩
  · obtain ⟨g1, g2, g3, g4, g5, g6⟩ := h3 x hx
    by_cases e : x = j
    · subst e
      exact ⟨(by rw [up2_other (by omega)]; exact g1), (by rw [up2_other (by omega)]; exact g2), (by rw [up2_other (by omega)]; exact g3), (by rw [uq_at hi]; exact up2_same), (by rw [up2_other (by omega)]; exact g5), fun e' he' => by rw [up2_other (by omega)]; exact g6 e' he'⟩
    · have hne : ng nl x ≠ ng nl j := fun q => e (h2.2.2.2.1 x j hx hj q)
      exact ⟨(by rw [up2_other (by omega)]; exact g1), (by rw [up2_other (by omega)]; exact g2), (by rw [up2_other (by omega)]; exact g3), (by rw [uq_ne hne, up2_other (by omega)]; exact g4), (by rw [up2_other (by omega)]; exact g5), fun e' he' => by rw [up2_other (by omega)]; exact g6 e' he'⟩
  · have z := h6 q hq r hr
    exact ⟨z.1, z.2.1, by unfold uq; rw [decide_eq_false (Ne.symm (hq j hj)), z.2.2.1]; simp, z.2.2.2⟩
theorem TE.markMN {D : Mem} {B : Bk} {nl : List Nd} {PS EN RS MN : Nd → Nat → Bool} {SV : Nat → Nat → Bool} {MO : Nat → Bool} {j i : Nat} (h : TE D B nl PS EN RS MN SV MO) (hj : j < nl.length) (hi : i < 10) : TE (up2 D 86 j (nI (mkn (MN (ng nl j)) 10 ||| 2 ^ i))) B nl PS EN RS (uq MN (ng nl j) i) SV MO := by
  obtain ⟨h1, h2, h3, h4, h5, h6⟩ := h
  refine ⟨by rw [up2_other (by omega)]; exact h1, h2, fun x hx => ?_, fun v hv => by rw [up2_other (by omega)]; exact h4 v hv, fun r hr hm => by rw [up2_other (by omega)]; exact h5 r hr hm, fun q hq r hr => ?_⟩
  · obtain ⟨g1, g2, g3, g4, g5, g6⟩ := h3 x hx
    by_cases e : x = j
    · subst e
      exact ⟨(by rw [up2_other (by omega)]; exact g1), (by rw [up2_other (by omega)]; exact g2), (by rw [up2_other (by omega)]; exact g3), (by rw [up2_other (by omega)]; exact g4), (by rw [uq_at hi]; exact up2_same), fun e' he' => by rw [up2_other (by omega)]; exact g6 e' he'⟩
    · have hne : ng nl x ≠ ng nl j := fun q => e (h2.2.2.2.1 x j hx hj q)
      exact ⟨(by rw [up2_other (by omega)]; exact g1), (by rw [up2_other (by omega)]; exact g2), (by rw [up2_other (by omega)]; exact g3), (by rw [up2_other (by omega)]; exact g4), (by rw [uq_ne hne, up2_other (by omega)]; exact g5), fun e' he' => by rw [up2_other (by omega)]; exact g6 e' he'⟩
  · have z := h6 q hq r hr
    exact ⟨z.1, z.2.1, z.2.2.1, by unfold uq; rw [decide_eq_false (Ne.symm (hq j hj)), z.2.2.2]; simp⟩
theorem TE.congr {D : Mem} {B : Bk} {nl : List Nd} {PS EN RS MN PS' EN' RS' MN' : Nd → Nat → Bool} {SV SV' : Nat → Nat → Bool} {MO MO' : Nat → Bool} (h : TE D B nl PS EN RS MN SV MO) (e1 : ∀ q r, r < 10 → PS' q r = PS q r) (e2 : ∀ q r, r < 10 → EN' q r = EN q r) (e3 : ∀ q r, r < 10 → RS' q r = RS q r) (e4 : ∀ q r, r < 10 → MN' q r = MN q r) (e5 : ∀ v r, r < 10 → SV' v r = SV v r) (e6 : ∀ r, r < 10 → MO' r = true → MO r = true) : TE D B nl PS' EN' RS' MN' SV' MO' := by
  obtain ⟨h1, h2, h3, h4, h5, h6⟩ := h
  refine ⟨h1, h2, fun j hj => ?_, fun v hv => by rw [mkn_congr (e5 v)]; exact h4 v hv, fun r hr hm => h5 r hr (e6 r hr hm), fun q hq r hr => ?_⟩
  · obtain ⟨g1, g2, g3, g4, g5, g6⟩ := h3 j hj
    exact ⟨g1, by rw [mkn_congr (e1 _)]; exact g2, by rw [mkn_congr (e2 _)]; exact g3, by rw [mkn_congr (e3 _)]; exact g4, by rw [mkn_congr (e4 _)]; exact g5, g6⟩
  · have z := h6 q hq r hr
    exact ⟨(e1 q r hr).trans z.1, (e2 q r hr).trans z.2.1, (e3 q r hr).trans z.2.2.1, (e4 q r hr).trans z.2.2.2⟩
theorem TE.serve {D : Mem} {B : Bk} {nl : List Nd} {PS EN RS MN : Nd → Nat → Bool} {SV : Nat → Nat → Bool} {MO : Nat → Bool} {v i : Nat} (h : TE D B nl PS EN RS MN SV MO) (hv : v < 4) (hi : i < 10) : TE (up2 D 88 v (nI (mkn (SV v) 10 ||| 2 ^ i))) B nl PS EN RS MN (fun x r => SV x r || (decide (x = v) && decide (r = i))) MO := by
  obtain ⟨h1, h2, h3, h4, h5, h6⟩ := h
  refine ⟨by rw [up2_other (by omega)]; exact h1, h2, fun x hx => ?_, fun x hx => ?_, fun r hr hm => by rw [up2_other (by omega)]; exact h5 r hr hm, h6⟩
  · obtain ⟨g1, g2, g3, g4, g5, g6⟩ := h3 x hx
    exact ⟨by rw [up2_other (by omega)]; exact g1, by rw [up2_other (by omega)]; exact g2, by rw [up2_other (by omega)]; exact g3, by rw [up2_other (by omega)]; exact g4, by rw [up2_other (by omega)]; exact g5, fun e' he' => by rw [up2_other (by omega)]; exact g6 e' he'⟩
  · by_cases e : x = v
    · subst e
      rw [up2_same, mkn_or hi]
      congr 1
      exact mkn_congr fun r _ => by simp
    · rw [up2_other (by omega), h4 x hx]
      congr 1
      exact mkn_congr fun r _ => by simp [e]
theorem TE.mountd {D : Mem} {B : Bk} {nl : List Nd} {PS EN RS MN : Nd → Nat → Bool} {SV : Nat → Nat → Bool} {MO : Nat → Bool} {i : Nat} (h : TE D B nl PS EN RS MN SV MO) : TE (up2 D 87 i (mo_ B i)) B nl PS EN RS MN SV (fun r => MO r || decide (r = i)) := by
  obtain ⟨h1, h2, h3, h4, h5, h6⟩ := h
  refine ⟨by rw [up2_other (by omega)]; exact h1, h2, fun x hx => ?_, fun x hx => by rw [up2_other (by omega)]; exact h4 x hx, fun r hr hm => ?_, h6⟩
  · obtain ⟨g1, g2, g3, g4, g5, g6⟩ := h3 x hx
    exact ⟨by rw [up2_other (by omega)]; exact g1, by rw [up2_other (by omega)]; exact g2, by rw [up2_other (by omega)]; exact g3, by rw [up2_other (by omega)]; exact g4, by rw [up2_other (by omega)]; exact g5, fun e' he' => by rw [up2_other (by omega)]; exact g6 e' he'⟩
  · by_cases e : r = i
    · subst e; exact up2_same
    · rw [up2_other (by omega)]
      refine h5 r hr ?_
      simpa [e] using hm
end
section
theorem srv_n : ∀ v, v < 4 → srv (nI v) = srvm v := by decide
theorem srvm_lt : ∀ v, v < 4 → srvm v < 16 := by decide
theorem dX7_served_0 : decode cX7_served 0 = .ok (.iload_n 0, 1) := by decide +kernel
theorem dX7_served_1 : decode cX7_served 1 = .ok (.tableswitch 40 0 3 #[31, 33, 35, 37], 31) := by decide +kernel
theorem dX7_served_32 : decode cX7_served 32 = .ok (.iconst 3, 1) := by decide +kernel
theorem dX7_served_33 : decode cX7_served 33 = .ok (.ireturn, 1) := by decide +kernel
theorem dX7_served_34 : decode cX7_served 34 = .ok (.iconst 2, 1) := by decide +kernel
theorem dX7_served_35 : decode cX7_served 35 = .ok (.ireturn, 1) := by decide +kernel
theorem dX7_served_36 : decode cX7_served 36 = .ok (.iconst 4, 1) := by decide +kernel
theorem dX7_served_37 : decode cX7_served 37 = .ok (.ireturn, 1) := by decide +kernel
theorem dX7_served_38 : decode cX7_served 38 = .ok (.bipush 15, 2) := by decide +kernel
theorem dX7_served_40 : decode cX7_served 40 = .ok (.ireturn, 1) := by decide +kernel
theorem dX7_served_41 : decode cX7_served 41 = .ok (.iconst 0, 1) := by decide +kernel
theorem dX7_served_42 : decode cX7_served 42 = .ok (.ireturn, 1) := by decide +kernel
theorem sp_X7_served {v : Nat} {x : Int32} {D : Mem} (hx : x = nI v) (hv : v < 4) : Ei 1 j_X7_served [.int x] D (nI (srvm v)) (D) := by
  refine E.start 0 (ls := [some (.int x)]) (by decide +kernel) (Nat.le_of_ble_eq_true rfl) rfl (Nat.le_refl _) (Nat.le_refl _) ?_
  subst hx
  refine X_iload_n (nx := 1) dX7_served_0 rfl rfl rfl ?_
  obtain rfl | rfl | rfl | rfl : v = 0 ∨ v = 1 ∨ v = 2 ∨ v = 3 := by omega
  · skip
    refine X_top (y := 0) (rfl) ?_
    refine X_tableIn (tgt := 32) (off := 31) dX7_served_1 (by decide) (by decide) (by decide) rfl ?_
    refine X_iconst (v := 3) (nx := 33) dX7_served_32 rfl rfl ?_
    exact Y_reti dX7_served_33 (Or.inl rfl) rfl rfl
  · skip
    refine X_top (y := 1) (rfl) ?_
    refine X_tableIn (tgt := 34) (off := 33) dX7_served_1 (by decide) (by decide) (by decide) rfl ?_
    refine X_iconst (v := 2) (nx := 35) dX7_served_34 rfl rfl ?_
    exact Y_reti dX7_served_35 (Or.inl rfl) rfl rfl
  · skip
    refine X_top (y := 2) (rfl) ?_
    refine X_tableIn (tgt := 36) (off := 35) dX7_served_1 (by decide) (by decide) (by decide) rfl ?_
    refine X_iconst (v := 4) (nx := 37) dX7_served_36 rfl rfl ?_
    exact Y_reti dX7_served_37 (Or.inl rfl) rfl rfl
  · skip
    refine X_top (y := 3) (rfl) ?_
    refine X_tableIn (tgt := 38) (off := 37) dX7_served_1 (by decide) (by decide) (by decide) rfl ?_
    refine X_bipush (v := 15) (nx := 40) dX7_served_38 rfl rfl ?_
    exact Y_reti dX7_served_40 (Or.inl rfl) rfl rfl
/-- the node list behind a route -/
def adP1 (nl : List Nd) (q : Nd) : List Nd := if (nix nl q).isSome = true then nl else nl ++ [q]
def adP (nl : List Nd) (R : Nat) (es : List Nat) : Nat → List Nd
  | 0 => nl
  | k + 1 => adP1 (adP nl R es k) (R, es.take (k + 1))
theorem adP1_len (nl : List Nd) (q : Nd) : (adP1 nl q).length ≤ nl.length + 1 ∧ nl.length ≤ (adP1 nl q).length := by
  unfold adP1
  split <;> simp
theorem adP_len (nl : List Nd) (R : Nat) (es : List Nat) : ∀ k, (adP nl R es k).length ≤ nl.length + k ∧ nl.length ≤ (adP nl R es k).length := by
  intro k
  induction k with
  | zero => exact ⟨Nat.le_refl _, Nat.le_refl _⟩
  | succ k ih =>
    have := adP1_len (adP nl R es k) (R, es.take (k + 1))
    exact ⟨by show (adP1 _ _).length ≤ _; omega, by show _ ≤ (adP1 _ _).length; omega⟩
def inT (x : Nat) : Prop := 80 ≤ x ∧ x ≤ 88
def inT2 (x : Nat) : Prop := 80 ≤ x ∧ x ≤ 91
def PSk (B : Bk) (PS : Nd → Nat → Bool) (i k : Nat) : Nd → Nat → Bool := fun q r => PS q r || (decide (r = i) && (PSf B q i && decide (q.2.length ≤ k)))
def adF (F G : Nd → Nat → Bool) (i : Nat) : Nd → Nat → Bool := fun q r => F q r || (decide (r = i) && G q i)
theorem es_len (B : Bk) (i : Nat) : (es_ B i).length = pl (sg_ B i) := by
  unfold es_ pl
  rw [List.length_map]
theorem filt_pl {s : List Nat} (h : VS s) : ∀ k, k < pl s → (s.filter (fun x => decide (x ≠ 40))).getD k 0 = s.getD k 0 := by
  intro k hk
  have hs : s.filter (fun x => decide (x ≠ 40)) = s.take (pl s) := by
    by_cases hp : pl s = s.length
    · rw [hp, List.take_length]
      exact List.filter_eq_self.mpr (fun x hx => by
        have := List.length_filter_lt_length_iff_exists (p := fun x => decide (x ≠ 40)) (l := s)
        by_cases h40 : x = 40
        · exact absurd (this.mpr ⟨x, hx, by simp [h40]⟩) (by unfold pl at hp; omega)
        · simp [h40])
    · have hle := pl_le s
      -- the last one is REST
      obtain ⟨x, hx, hx2⟩ := List.length_filter_lt_length_iff_exists.mp (show (s.filter (fun x => decide (x ≠ 40))).length < s.length by unfold pl at hp hle; omega)
      have hx40 : x = 40 := by simpa using hx2
      subst hx40
      obtain ⟨n, hn, hn2⟩ := List.getElem_of_mem hx
      have hlast : n + 1 = s.length := by
        by_cases q : n + 1 < s.length
        · exact absurd (by rw [List.getD_eq_getElem?_getD, List.getElem?_eq_getElem hn, hn2]; rfl) (h.2.2 n q)
        · omega
      have hsplit : s = s.take n ++ [40] := by
        have e1 : s = s.take n ++ s.drop n := (List.take_append_drop n s).symm
        have e2 : s.drop n = [40] := by
          rw [List.drop_eq_getElem_cons hn, hn2, List.drop_eq_nil_of_le (by omega)]
        rw [← e2]; exact e1
      have hpn : ∀ y ∈ s.take n, decide (y ≠ 40) = true := by
        intro y hy
        obtain ⟨m, hm, hm2⟩ := List.getElem_of_mem hy
        have hm3 : m < n := by simp at hm; omega
        have := h.2.2 m (by omega)
        rw [List.getD_eq_getElem?_getD, List.getElem?_eq_getElem (by omega)] at this
        rw [List.getElem_take] at hm2
        simp only [Option.getD_some] at this
        rw [hm2] at this
        exact decide_eq_true this
      have hf : s.filter (fun x => decide (x ≠ 40)) = s.take n := by
        conv => lhs; rw [hsplit]
        rw [List.filter_append, List.filter_eq_self.mpr hpn]
        simp
      have : pl s = n := by
        unfold pl
        rw [hf]; simp; omega
      rw [this]; exact hf
  rw [hs, List.getD_eq_getElem?_getD, List.getD_eq_getElem?_getD, List.getElem?_take_of_lt hk]
theorem es_get {B : Bk} {i k : Nat} (h : VS (sg_ B i)) (hk : k < (es_ B i).length) : (es_ B i).getD k 0 = typ ((sg_ B i).getD k 0) := by
  rw [es_len] at hk
  have := filt_pl h k hk
  unfold es_
  rw [List.getD_eq_getElem?_getD, List.getElem?_map]
  rw [List.getD_eq_getElem?_getD] at this
  have hk2 : k < ((sg_ B i).filter (fun x => decide (x ≠ 40))).length := hk
  rw [List.getElem?_eq_getElem hk2] at this ⊢
  simp only [Option.getD_some, Option.map_some] at this ⊢
  rw [this]
theorem take_s {l : List Nat} {k : Nat} (h : k < l.length) : l.take (k + 1) = l.take k ++ [l.getD k 0] := by
  rw [List.take_succ_eq_append_getElem h, List.getD_eq_getElem?_getD, List.getElem?_eq_getElem h]; rfl
theorem PSk_0 {B : Bk} {PS : Nd → Nat → Bool} {i : Nat} (q : Nd) (r : Nat) : PSk B PS i 0 q r = PS q r := by
  unfold PSk
  have : (PSf B q i && decide (q.2.length ≤ 0)) = false := by
    cases hp : q.2 with
    | nil => unfold PSf; rw [hp]; simp
    | cons a l => simp
  rw [this]; simp
theorem PSf_take {B : Bk} {i k : Nat} (ht : thN B i = true) (hk : k < (es_ B i).length) : PSf B (ro_ B i, (es_ B i).take (k + 1)) i = true := by
  unfold PSf
  have h1 : (es_ B i).take (k + 1) ≠ [] := by
    intro e
    have := congrArg List.length e
    rw [List.length_take] at this
    simp only [List.length_nil] at this
    omega
  have h2 : ((es_ B i).take (k + 1)).isPrefixOf (es_ B i) = true := List.isPrefixOf_iff_prefix.mpr (List.take_prefix _ _)
  rw [ht, decide_eq_true rfl, decide_eq_true h1, h2]; rfl
theorem PSf_eq {B : Bk} {i : Nat} {q : Nd} (h : PSf B q i = true) : q = (ro_ B i, (es_ B i).take q.2.length) := by
  unfold PSf at h
  simp only [Bool.and_eq_true, decide_eq_true_eq] at h
  obtain ⟨_, h2, _, h4⟩ := h
  exact Prod.ext h2.symm (List.prefix_iff_eq_take.mp (List.isPrefixOf_iff_prefix.mp h4))
theorem PSk_s {B : Bk} {PS : Nd → Nat → Bool} {i k : Nat} (ht : thN B i = true) (hk : k < (es_ B i).length) (q : Nd) (r : Nat) : PSk B PS i (k + 1) q r = uq (PSk B PS i k) (ro_ B i, (es_ B i).take (k + 1)) i q r := by
  show (PS q r || (decide (r = i) && (PSf B q i && decide (q.2.length ≤ k + 1)))) = ((PS q r || (decide (r = i) && (PSf B q i && decide (q.2.length ≤ k)))) || (decide (q = (ro_ B i, (es_ B i).take (k + 1))) && decide (r = i)))
  by_cases hr : r = i
  · subst hr
    rw [decide_eq_true rfl, Bool.true_and, Bool.true_and, Bool.and_true, Bool.or_assoc]
    congr 1
    by_cases hq : q = (ro_ B r, (es_ B r).take (k + 1))
    · have := PSf_take ht hk
      rw [← hq] at this
      rw [decide_eq_true hq, this, decide_eq_true (by rw [hq]; simp; omega)]; simp
    · rw [decide_eq_false hq, Bool.or_false]
      cases hp : PSf B q r with
      | false => rfl
      | true =>
        have e := PSf_eq hp
        rw [Bool.true_and, Bool.true_and]
        refine decide_eq_decide.mpr ⟨fun h1 => ?_, fun h1 => by omega⟩
        by_cases h2 : q.2.length = k + 1
        · rw [h2] at e; exact absurd e hq
        · omega
  · rw [decide_eq_false hr]; simp
theorem AT_iff {B : Bk} {i : Nat} {q : Nd} (ht : thN B i = true) : AT_ B q i = decide (q = (ro_ B i, es_ B i)) := by
  unfold AT_
  rw [ht, Bool.true_and]
  by_cases h : q = (ro_ B i, es_ B i)
  · subst h; simp
  · rw [decide_eq_false h]
    by_cases h1 : ro_ B i = q.1
    · rw [decide_eq_true h1, decide_eq_false (fun e => h (Prod.ext h1.symm e.symm))]; rfl
    · rw [decide_eq_false h1]; rfl
end
section
/-! PLANT, EMPTY, WAYS, GROW -/
/-- a route as a table lets it be -/
def VR (B : Bk) (i : Nat) : Prop := ro_ B i < 3 ∧ VS (sg_ B i) ∧ ((mo_ B i = -9 ∧ ∃ v, v < 4 ∧ vb_ B i = nI v) ∨ (vb_ B i = -9 ∧ ∃ m, mo_ B i = nI m ∧ ro_ B i < m ∧ m < 3 ∧ pl (sg_ B i) = (sg_ B i).length))
def VB (B : Bk) : Prop := (∀ i, i < 3 → kd_ B i ≤ 5 ∧ fg_ B i ≤ 9) ∧ cm_ B ≤ 10 ∧ ∀ i, i < cm_ B → VR B i
theorem VR.mount {B : Bk} {i : Nat} (h : VR B i) (hm : mtB B i = true) : ∃ m, mo_ B i = nI m ∧ ro_ B i < m ∧ m < 3 ∧ pl (sg_ B i) = (sg_ B i).length := by
  rcases h.2.2 with ⟨h1, _⟩ | ⟨_, h1⟩
  · unfold mtB at hm; rw [h1] at hm; exact absurd hm (by decide)
  · exact h1
theorem VR.endv {B : Bk} {i : Nat} (h : VR B i) (hm : mtB B i = false) : mo_ B i = -9 ∧ ∃ v, v < 4 ∧ vb_ B i = nI v := by
  rcases h.2.2 with h1 | ⟨_, m, h1, _, h2, _⟩
  · exact h1
  · unfold mtB at hm; rw [h1, decide_eq_true (nI_pos' (by omega))] at hm; cases hm
/-- what is planted so far, and one more -/
def TEi (D : Mem) (B : Bk) (nl : List Nd) (PS EN RS MN : Nd → Nat → Bool) (SV : Nat → Nat → Bool) (MO : Nat → Bool) (i : Nat) : Prop :=
  TE D B nl (adF PS (PSf B) i) (adF EN (ENf B) i) (adF RS (RSf B) i) (adF MN (MNf B) i) (fun v r => SV v r || (decide (r = i) && SVf B v i)) (fun r => MO r || (decide (r = i) && mtB B i))
theorem PSk_L {B : Bk} {PS : Nd → Nat → Bool} {i : Nat} (q : Nd) (r : Nat) : adF PS (PSf B) i q r = PSk B PS i (es_ B i).length q r := by
  unfold adF PSk
  cases hp : PSf B q i with
  | false => rfl
  | true =>
    have e := PSf_eq hp
    have : q.2.length ≤ (es_ B i).length := by
      have := congrArg (fun z : Nd => z.2.length) e
      simp at this
      omega
    rw [decide_eq_true this]; simp
section PL
variable {B : Bk} {nl0 : List Nd} {PS EN RS MN : Nd → Nat → Bool} {SV : Nat → Nat → Bool} {MO : Nat → Bool} {i : Nat}
theorem TEi.ofM {D : Mem} {nl : List Nd} {j : Nat} (h : TE D B nl (PSk B PS i (es_ B i).length) EN RS MN SV MO) (hj : j < nl.length) (hq : ng nl j = (ro_ B i, es_ B i)) (ht : thN B i = true) (hm : mtB B i = true) (hi : i < 10) : TEi (up2 (up2 D 86 j (nI (mkn (MN (ng nl j)) 10 ||| 2 ^ i))) 87 i (mo_ B i)) B nl PS EN RS MN SV MO i := by
  refine TE.congr ((h.markMN hj hi).mountd (i := i)) (fun q r _ => PSk_L q r) (fun q r _ => ?_) (fun q r _ => ?_) (fun q r _ => ?_) (fun v r _ => ?_) (fun r _ hr => ?_)
  · unfold adF ENf; rw [hm]; simp
  · unfold adF RSf; rw [hm]; simp
  · unfold adF MNf uq; rw [hm, AT_iff ht, hq]; simp only [Bool.and_true]; rw [Bool.and_comm]
  · unfold SVf; rw [hm]; simp
  · rw [hm, Bool.and_true] at hr; exact hr
theorem TEi.ofE {D : Mem} {nl : List Nd} (h : TE D B nl (PSk B PS i (es_ B i).length) (adF EN (ENf B) i) (adF RS (RSf B) i) MN (fun v r => SV v r || (decide (v < 4) && (decide (r = i) && (srv (vb_ B i)).testBit v))) MO) (ht : thN B i = true) (hm : mtB B i = false) (hs : ∀ v, 4 ≤ v → (srv (vb_ B i)).testBit v = false) : TEi D B nl PS EN RS MN SV MO i := by
  refine TE.congr h (fun q r _ => PSk_L q r) (fun q r _ => rfl) (fun q r _ => rfl) (fun q r _ => ?_) (fun v r _ => ?_) (fun r _ hr => ?_)
  · unfold adF MNf; rw [hm]; simp
  · unfold SVf
    rw [ht, hm]
    by_cases hv : v < 4
    · rw [decide_eq_true hv]; simp
    · rw [hs v (by omega)]; simp
  · rw [hm] at hr; simpa using hr
theorem en_m {nl : List Nd} {j : Nat} (hq : ng nl j = (ro_ B i, es_ B i)) (ht : thN B i = true) (hm : mtB B i = false) (hr : rsB B i = false) (q : Nd) (r : Nat) : adF EN (ENf B) i q r = uq EN (ng nl j) i q r := by
  unfold adF ENf uq; rw [hm, hr, AT_iff ht, hq]; simp only [Bool.not_false, Bool.and_true]; rw [Bool.and_comm]
theorem en_r (hr : rsB B i = true) (q : Nd) (r : Nat) : adF EN (ENf B) i q r = EN q r := by
  unfold adF ENf; rw [hr]; simp
theorem rs_m {nl : List Nd} {j : Nat} (hq : ng nl j = (ro_ B i, es_ B i)) (ht : thN B i = true) (hm : mtB B i = false) (hr : rsB B i = true) (q : Nd) (r : Nat) : adF RS (RSf B) i q r = uq RS (ng nl j) i q r := by
  unfold adF RSf uq; rw [hm, hr, AT_iff ht, hq]; simp only [Bool.not_false, Bool.and_true, Bool.true_and]; rw [Bool.and_comm]
theorem rs_e (hr : rsB B i = false) (q : Nd) (r : Nat) : adF RS (RSf B) i q r = RS q r := by
  unfold adF RSf; rw [hr]; simp
def PLT (B : Bk) (nl0 : List Nd) (PS EN RS MN : Nd → Nat → Bool) (SV : Nat → Nat → Bool) (MO : Nat → Bool) (i : Nat) (D D' : Mem) : Prop := TEi D' B (adP nl0 (ro_ B i) (es_ B i) (es_ B i).length) PS EN RS MN SV MO i ∧ Fr inT D D'
end PL
theorem Enc.frT {D D' : Mem} {B : Bk} (h : Enc D 1 B) (hf : Fr inT D D') : Enc D' 1 B := h.fr (fun x hx => hf x (by unfold inB at hx; unfold inT; omega))
theorem X_fg5 {d k pc : Nat} {j : MI} {a b c d0 e o : Option Value} {st : List Value} {σ : Wd} {Q : List Value → Wd → Prop} (hX : X d k j pc [a, b, c, d0, e, none] st σ Q) : X d k j pc [a, b, c, d0, e, o] st σ Q := by
  refine X_forget (fun i v h => ?_) hX
  match i, h with
  | 0, h => exact h
  | 1, h => exact h
  | 2, h => exact h
  | 3, h => exact h
  | 4, h => exact h
  | 5, h => cases h
  | n + 6, h => cases h
theorem dX5_plant_0 : decode cX5_plant 0 = .ok (.aload_n 2, 1) := by decide +kernel
theorem dX5_plant_1 : decode cX5_plant 1 = .ok (.getfield 84, 3) := by decide +kernel
theorem dX5_plant_4 : decode cX5_plant 4 = .ok (.istore_n 3, 1) := by decide +kernel
theorem dX5_plant_5 : decode cX5_plant 5 = .ok (.iconst 0, 1) := by decide +kernel
theorem dX5_plant_6 : decode cX5_plant 6 = .ok (.istore 4, 2) := by decide +kernel
theorem dX5_plant_8 : decode cX5_plant 8 = .ok (.iload 4, 2) := by decide +kernel
theorem dX5_plant_10 : decode cX5_plant 10 = .ok (.aload_n 2, 1) := by decide +kernel
theorem dX5_plant_11 : decode cX5_plant 11 = .ok (.getfield 89, 3) := by decide +kernel
theorem dX5_plant_14 : decode cX5_plant 14 = .ok (.if_icmp .ge 73, 3) := by decide +kernel
theorem dX5_plant_17 : decode cX5_plant 17 = .ok (.iload_n 3, 1) := by decide +kernel
theorem dX5_plant_18 : decode cX5_plant 18 = .ok (.bipush 7, 2) := by decide +kernel
theorem dX5_plant_20 : decode cX5_plant 20 = .ok (.imul, 1) := by decide +kernel
theorem dX5_plant_21 : decode cX5_plant 21 = .ok (.aload_n 2, 1) := by decide +kernel
theorem dX5_plant_22 : decode cX5_plant 22 = .ok (.iload 4, 2) := by decide +kernel
theorem dX5_plant_24 : decode cX5_plant 24 = .ok (.invokevirtual 92, 3) := by decide +kernel
theorem dX5_plant_27 : decode cX5_plant 27 = .ok (.invokestatic 95, 3) := by decide +kernel
theorem dX5_plant_30 : decode cX5_plant 30 = .ok (.iadd, 1) := by decide +kernel
theorem dX5_plant_31 : decode cX5_plant 31 = .ok (.istore 5, 2) := by decide +kernel
theorem dX5_plant_33 : decode cX5_plant 33 = .ok (.aload_n 0, 1) := by decide +kernel
theorem dX5_plant_34 : decode cX5_plant 34 = .ok (.getfield 11, 3) := by decide +kernel
theorem dX5_plant_37 : decode cX5_plant 37 = .ok (.iload 5, 2) := by decide +kernel
theorem dX5_plant_39 : decode cX5_plant 39 = .ok (.invokestatic 63, 3) := by decide +kernel
theorem dX5_plant_42 : decode cX5_plant 42 = .ok (.ifCond .ge 20, 3) := by decide +kernel
theorem dX5_plant_45 : decode cX5_plant 45 = .ok (.aload_n 0, 1) := by decide +kernel
theorem dX5_plant_46 : decode cX5_plant 46 = .ok (.getfield 11, 3) := by decide +kernel
theorem dX5_plant_49 : decode cX5_plant 49 = .ok (.iload 5, 2) := by decide +kernel
theorem dX5_plant_51 : decode cX5_plant 51 = .ok (.aload_n 0, 1) := by decide +kernel
theorem dX5_plant_52 : decode cX5_plant 52 = .ok (.aload_n 2, 1) := by decide +kernel
theorem dX5_plant_53 : decode cX5_plant 53 = .ok (.getfield 84, 3) := by decide +kernel
theorem dX5_plant_56 : decode cX5_plant 56 = .ok (.invokevirtual 52, 3) := by decide +kernel
theorem dX5_plant_59 : decode cX5_plant 59 = .ok (.invokestatic 56, 3) := by decide +kernel
theorem dX5_plant_62 : decode cX5_plant 62 = .ok (.aload_n 0, 1) := by decide +kernel
theorem dX5_plant_63 : decode cX5_plant 63 = .ok (.getfield 11, 3) := by decide +kernel
theorem dX5_plant_66 : decode cX5_plant 66 = .ok (.iload 5, 2) := by decide +kernel
theorem dX5_plant_68 : decode cX5_plant 68 = .ok (.invokestatic 63, 3) := by decide +kernel
theorem dX5_plant_71 : decode cX5_plant 71 = .ok (.istore_n 3, 1) := by decide +kernel
theorem dX5_plant_72 : decode cX5_plant 72 = .ok (.aload_n 0, 1) := by decide +kernel
theorem dX5_plant_73 : decode cX5_plant 73 = .ok (.getfield 18, 3) := by decide +kernel
theorem dX5_plant_76 : decode cX5_plant 76 = .ok (.iload_n 3, 1) := by decide +kernel
theorem dX5_plant_77 : decode cX5_plant 77 = .ok (.iload_n 1, 1) := by decide +kernel
theorem dX5_plant_78 : decode cX5_plant 78 = .ok (.invokestatic 98, 3) := by decide +kernel
theorem dX5_plant_81 : decode cX5_plant 81 = .ok (.iinc 4 1, 3) := by decide +kernel
theorem dX5_plant_84 : decode cX5_plant 84 = .ok (.goto (-76), 3) := by decide +kernel
theorem dX5_plant_87 : decode cX5_plant 87 = .ok (.aload_n 2, 1) := by decide +kernel
theorem dX5_plant_88 : decode cX5_plant 88 = .ok (.invokevirtual 101, 3) := by decide +kernel
theorem dX5_plant_91 : decode cX5_plant 91 = .ok (.ifCond .eq 25, 3) := by decide +kernel
theorem dX5_plant_94 : decode cX5_plant 94 = .ok (.aload_n 0, 1) := by decide +kernel
theorem dX5_plant_95 : decode cX5_plant 95 = .ok (.getfield 27, 3) := by decide +kernel
theorem dX5_plant_98 : decode cX5_plant 98 = .ok (.iload_n 3, 1) := by decide +kernel
theorem dX5_plant_99 : decode cX5_plant 99 = .ok (.iload_n 1, 1) := by decide +kernel
theorem dX5_plant_100 : decode cX5_plant 100 = .ok (.invokestatic 98, 3) := by decide +kernel
theorem dX5_plant_103 : decode cX5_plant 103 = .ok (.aload_n 0, 1) := by decide +kernel
theorem dX5_plant_104 : decode cX5_plant 104 = .ok (.getfield 30, 3) := by decide +kernel
theorem dX5_plant_107 : decode cX5_plant 107 = .ok (.iload_n 1, 1) := by decide +kernel
theorem dX5_plant_108 : decode cX5_plant 108 = .ok (.aload_n 2, 1) := by decide +kernel
theorem dX5_plant_109 : decode cX5_plant 109 = .ok (.getfield 105, 3) := by decide +kernel
theorem dX5_plant_112 : decode cX5_plant 112 = .ok (.invokestatic 56, 3) := by decide +kernel
theorem dX5_plant_115 : decode cX5_plant 115 = .ok (.return_, 1) := by decide +kernel
theorem dX5_plant_116 : decode cX5_plant 116 = .ok (.aload_n 2, 1) := by decide +kernel
theorem dX5_plant_117 : decode cX5_plant 117 = .ok (.invokevirtual 107, 3) := by decide +kernel
theorem dX5_plant_120 : decode cX5_plant 120 = .ok (.ifCond .eq 10, 3) := by decide +kernel
theorem dX5_plant_123 : decode cX5_plant 123 = .ok (.aload_n 0, 1) := by decide +kernel
theorem dX5_plant_124 : decode cX5_plant 124 = .ok (.getfield 24, 3) := by decide +kernel
theorem dX5_plant_127 : decode cX5_plant 127 = .ok (.goto 7, 3) := by decide +kernel
theorem dX5_plant_130 : decode cX5_plant 130 = .ok (.aload_n 0, 1) := by decide +kernel
theorem dX5_plant_131 : decode cX5_plant 131 = .ok (.getfield 21, 3) := by decide +kernel
theorem dX5_plant_134 : decode cX5_plant 134 = .ok (.iload_n 3, 1) := by decide +kernel
theorem dX5_plant_135 : decode cX5_plant 135 = .ok (.iload_n 1, 1) := by decide +kernel
theorem dX5_plant_136 : decode cX5_plant 136 = .ok (.invokestatic 98, 3) := by decide +kernel
theorem dX5_plant_139 : decode cX5_plant 139 = .ok (.iconst 0, 1) := by decide +kernel
theorem dX5_plant_140 : decode cX5_plant 140 = .ok (.istore 4, 2) := by decide +kernel
theorem dX5_plant_142 : decode cX5_plant 142 = .ok (.iload 4, 2) := by decide +kernel
theorem dX5_plant_144 : decode cX5_plant 144 = .ok (.iconst 4, 1) := by decide +kernel
theorem dX5_plant_145 : decode cX5_plant 145 = .ok (.if_icmp .ge 34, 3) := by decide +kernel
theorem dX5_plant_148 : decode cX5_plant 148 = .ok (.aload_n 2, 1) := by decide +kernel
theorem dX5_plant_149 : decode cX5_plant 149 = .ok (.getfield 110, 3) := by decide +kernel
theorem dX5_plant_152 : decode cX5_plant 152 = .ok (.invokestatic 113, 3) := by decide +kernel
theorem dX5_plant_155 : decode cX5_plant 155 = .ok (.iload 4, 2) := by decide +kernel
theorem dX5_plant_157 : decode cX5_plant 157 = .ok (.invokestatic 116, 3) := by decide +kernel
theorem dX5_plant_160 : decode cX5_plant 160 = .ok (.ifCond .eq 13, 3) := by decide +kernel
theorem dX5_plant_163 : decode cX5_plant 163 = .ok (.aload_n 0, 1) := by decide +kernel
theorem dX5_plant_164 : decode cX5_plant 164 = .ok (.getfield 33, 3) := by decide +kernel
theorem dX5_plant_167 : decode cX5_plant 167 = .ok (.iload 4, 2) := by decide +kernel
theorem dX5_plant_169 : decode cX5_plant 169 = .ok (.iload_n 1, 1) := by decide +kernel
theorem dX5_plant_170 : decode cX5_plant 170 = .ok (.invokestatic 98, 3) := by decide +kernel
theorem dX5_plant_173 : decode cX5_plant 173 = .ok (.iinc 4 1, 3) := by decide +kernel
theorem dX5_plant_176 : decode cX5_plant 176 = .ok (.goto (-34), 3) := by decide +kernel
theorem dX5_plant_179 : decode cX5_plant 179 = .ok (.return_, 1) := by decide +kernel
theorem lp_plant_v {B : Bk} {nl0 : List Nd} {PS EN RS MN : Nd → Nat → Bool} {SV : Nat → Nat → Bool} {MO : Nat → Bool} {i : Nat} {D : Mem} (hE : Enc D 1 B) (hi : i < cm_ B) (ht : thN B i = true) (hV : VR B i) {j : Nat} (hm : mtB B i = false) : ∀ (m : Nat) (v : Nat) (D1 : Mem), v + m = 4 → Fr inT D D1 → TE D1 B (adP nl0 (ro_ B i) (es_ B i) (es_ B i).length) (PSk B PS i (es_ B i).length) (adF EN (ENf B) i) (adF RS (RSf B) i) MN (fun x r => SV x r || (decide (x < v) && (decide (r = i) && (srv (vb_ B i)).testBit x))) MO → X 3 138 j_X5_plant 142 [some (.ref 80), some (.int (nI i)), some (.ref (rt 1 i)), some (.int (nI j)), some (.int (nI v)), none] [] (138, P0, D1) (fun x σ => ∃ D' : Mem, x = [] ∧ σ = wd D' ∧ PLT B nl0 PS EN RS MN SV MO i D D') := by
  intro m
  induction m with
  | zero =>
    intro v D1 hv hf hT
    have hly : (lay 82).2 = 43 ∧ (lay 83).2 = 43 ∧ (lay 84).2 = 43 ∧ (lay 85).2 = 43 ∧ (lay 86).2 = 43 ∧ (lay 81).2 = 301 ∧ (lay 87).2 = 10 ∧ (lay 88).2 = 4 ∧ (lay 89).2 = 3 ∧ (lay 90).2 = 3 ∧ (lay 91).2 = 3 := by decide
    have hi10 : i < 10 := by have := hE.2.2.1; omega
    have hE1 := hE.frT hf
    obtain ⟨⟨b1, b2⟩, ⟨b3, b4, b5, b6⟩, ⟨b7, b8, b9⟩, ⟨c1, c2, c3⟩, ⟨c4, c5, c6⟩, c7, c8⟩ := isB.facts (b := 1) (Or.inl rfl)
    have hr := (c8 i hi10).2
    obtain ⟨r1, r2, r3, r4, r5, r6⟩ := hr.facts
    have hRT := hE1.2.2.2 i hi
    obtain ⟨x1, x2, x3, x4, x5⟩ := id hRT
    have hro := hV.1
    have hll := es_len B i
    have hpl := pl_le (sg_ B i)
    have hs4 := hV.2.1.1
    obtain ⟨hmo, w, hw, hvv⟩ := hV.endv hm
    refine X_iload (nx := 144) dX5_plant_142 rfl rfl ?_
    refine X_iconst (v := nI 4) (nx := 145) dX5_plant_144 rfl rfl ?_
    refine X_icmp_ge (tgt := 179) (nx := 148) dX5_plant_145 rfl rfl (fun h145 => ?_) (fun h145 => ?_)
    · skip
      exact Z_retv dX5_plant_179 rfl ⟨TEi.ofE (by rw [show v = 4 by omega] at hT; exact hT) ht hm (fun y hy => by rw [hvv, srv_n w hw]; have := srvm_lt w hw; exact Nat.testBit_lt_two_pow (Nat.lt_of_lt_of_le this (Nat.pow_le_pow_right (show 0 < 2 by omega) hy))), hf⟩
    · exact absurd h145 (fun q => q (nI_le (by omega) (by omega)))
  | succ m ih =>
    intro v D1 hv hf hT
    have hly : (lay 82).2 = 43 ∧ (lay 83).2 = 43 ∧ (lay 84).2 = 43 ∧ (lay 85).2 = 43 ∧ (lay 86).2 = 43 ∧ (lay 81).2 = 301 ∧ (lay 87).2 = 10 ∧ (lay 88).2 = 4 ∧ (lay 89).2 = 3 ∧ (lay 90).2 = 3 ∧ (lay 91).2 = 3 := by decide
    have hi10 : i < 10 := by have := hE.2.2.1; omega
    have hE1 := hE.frT hf
    obtain ⟨⟨b1, b2⟩, ⟨b3, b4, b5, b6⟩, ⟨b7, b8, b9⟩, ⟨c1, c2, c3⟩, ⟨c4, c5, c6⟩, c7, c8⟩ := isB.facts (b := 1) (Or.inl rfl)
    have hr := (c8 i hi10).2
    obtain ⟨r1, r2, r3, r4, r5, r6⟩ := hr.facts
    have hRT := hE1.2.2.2 i hi
    obtain ⟨x1, x2, x3, x4, x5⟩ := id hRT
    have hro := hV.1
    have hll := es_len B i
    have hpl := pl_le (sg_ B i)
    have hs4 := hV.2.1.1
    obtain ⟨hmo, w, hw, hvv⟩ := hV.endv hm
    refine X_iload (nx := 144) dX5_plant_142 rfl rfl ?_
    refine X_iconst (v := nI 4) (nx := 145) dX5_plant_144 rfl rfl ?_
    refine X_icmp_ge (tgt := 179) (nx := 148) dX5_plant_145 rfl rfl (fun h145 => ?_) (fun h145 => ?_)
    · exact absurd h145 (nI_ge (by omega) (by omega))
    · skip
      refine X_aload_n (nx := 149) dX5_plant_148 rfl rfl rfl ?_
      refine M_getI (nx := 152) dX5_plant_149 rfl fl_RX5_110 rfl (by first | assumption | rfl | decide | omega) (by first | assumption | rfl | decide | omega) ?_
      refine X_top (x3.trans hvv) ?_
      refine Y_Si1 (nx := 155) dX5_plant_152 rfl ml_RX5_113 kj_X7_served ks_X7_served (sp_X7_served rfl hw) (by first | decide | omega) (by exact Nat.le_of_ble_eq_true rfl) ?_
      refine X_iload (nx := 157) dX5_plant_155 rfl rfl ?_
      refine Y_Si2 (nx := 160) dX5_plant_157 rfl ml_RX5_116 kj_X7_has ks_X7_has (sp_X7_has (k := v) rfl (by have := srvm_lt w hw; omega) rfl (by omega)) (by first | decide | omega) (by exact Nat.le_of_ble_eq_true rfl) ?_
      refine X_if_eq (tgt := 173) (nx := 163) dX5_plant_160 rfl rfl (fun h160 => ?_) (fun h160 => ?_)
      · skip
        rw [b2i_f] at h160
        refine X_iinc (nx := 176) dX5_plant_173 rfl (by decide) rfl (by first | exact ii1 _ | rfl) rfl (st_s (st_s (st_s (st_s (st_0))))) ?_
        refine X_goto (tgt := 142) dX5_plant_176 rfl ?_
        first
          | (have hTs := hT.serve (v := v) (i := i) (by omega) hi10
             refine ih (v + 1) _ (by omega) (hf.tr (Fr.up (by unfold inT; omega))) (TE.congr hTs (fun _ _ _ => rfl) (fun _ _ _ => rfl) (fun _ _ _ => rfl) (fun _ _ _ => rfl) (fun y r _ => ?_) (fun _ _ q => q))
             rw [hvv, srv_n w hw]
             by_cases hy : y = v
             · subst hy; rw [h160]; simp
             · rw [show decide (y < v + 1) = decide (y < v) from decide_eq_decide.mpr (by omega), decide_eq_false hy]; simp)
          | (refine ih (v + 1) _ (by omega) hf (TE.congr hT (fun _ _ _ => rfl) (fun _ _ _ => rfl) (fun _ _ _ => rfl) (fun _ _ _ => rfl) (fun y r _ => ?_) (fun _ _ q => q))
             rw [hvv, srv_n w hw]
             by_cases hy : y = v
             · subst hy; rw [h160]; simp
             · rw [show decide (y < v + 1) = decide (y < v) from decide_eq_decide.mpr (by omega)])
      · skip
        rw [b2i_t] at h160
        refine X_aload_n (nx := 164) dX5_plant_163 rfl rfl rfl ?_
        refine M_getP (nx := 167) dX5_plant_164 rfl fl_RX5_33 rfl (by first | assumption | rfl | decide | omega) (by first | assumption | rfl | decide | omega) (by first | assumption | rfl | decide | omega) ?_
        refine X_iload (nx := 169) dX5_plant_167 rfl rfl ?_
        refine X_iload_n (nx := 170) dX5_plant_169 rfl rfl rfl ?_
        refine Y_Sv3 (nx := 173) dX5_plant_170 rfl ml_RX5_98 kj_X5_mark ks_X5_mark (sp_X5_mark (i := v) (k := i) (by decide) (by decide) rfl (by omega) rfl (by omega) (hT.2.2.2.1 v (by omega))) (by first | decide | omega) (by exact Nat.le_of_ble_eq_true rfl) ?_
        refine X_iinc (nx := 176) dX5_plant_173 rfl (by decide) rfl (by first | exact ii1 _ | rfl) rfl (st_s (st_s (st_s (st_s (st_0))))) ?_
        refine X_goto (tgt := 142) dX5_plant_176 rfl ?_
        first
          | (have hTs := hT.serve (v := v) (i := i) (by omega) hi10
             refine ih (v + 1) _ (by omega) (hf.tr (Fr.up (by unfold inT; omega))) (TE.congr hTs (fun _ _ _ => rfl) (fun _ _ _ => rfl) (fun _ _ _ => rfl) (fun _ _ _ => rfl) (fun y r _ => ?_) (fun _ _ q => q))
             rw [hvv, srv_n w hw]
             by_cases hy : y = v
             · subst hy; rw [h160]; simp
             · rw [show decide (y < v + 1) = decide (y < v) from decide_eq_decide.mpr (by omega), decide_eq_false hy]; simp)
          | (refine ih (v + 1) _ (by omega) hf (TE.congr hT (fun _ _ _ => rfl) (fun _ _ _ => rfl) (fun _ _ _ => rfl) (fun _ _ _ => rfl) (fun y r _ => ?_) (fun _ _ q => q))
             rw [hvv, srv_n w hw]
             by_cases hy : y = v
             · subst hy; rw [h160]; simp
             · rw [show decide (y < v + 1) = decide (y < v) from decide_eq_decide.mpr (by omega)])
theorem lp_plant_t {B : Bk} {nl0 : List Nd} {PS EN RS MN : Nd → Nat → Bool} {SV : Nat → Nat → Bool} {MO : Nat → Bool} {i : Nat} {D : Mem} (hE : Enc D 1 B) (hi : i < cm_ B) (ht : thN B i = true) (hV : VR B i) {j : Nat} {nl : List Nd} {D1 : Mem} (hnl : nl = adP nl0 (ro_ B i) (es_ B i) (es_ B i).length) (hf : Fr inT D D1) (hT : TE D1 B nl (PSk B PS i (es_ B i).length) EN RS MN SV MO) (hj : j < nl.length) (hq : ng nl j = (ro_ B i, es_ B i)) : X 3 138 j_X5_plant 87 [some (.ref 80), some (.int (nI i)), some (.ref (rt 1 i)), some (.int (nI j)), some (.int (nI (es_ B i).length)), none] [] (138, P0, D1) (fun x σ => ∃ D' : Mem, x = [] ∧ σ = wd D' ∧ PLT B nl0 PS EN RS MN SV MO i D D') := by
  have hly : (lay 82).2 = 43 ∧ (lay 83).2 = 43 ∧ (lay 84).2 = 43 ∧ (lay 85).2 = 43 ∧ (lay 86).2 = 43 ∧ (lay 81).2 = 301 ∧ (lay 87).2 = 10 ∧ (lay 88).2 = 4 ∧ (lay 89).2 = 3 ∧ (lay 90).2 = 3 ∧ (lay 91).2 = 3 := by decide
  have hi10 : i < 10 := by have := hE.2.2.1; omega
  have hE1 := hE.frT hf
  obtain ⟨⟨b1, b2⟩, ⟨b3, b4, b5, b6⟩, ⟨b7, b8, b9⟩, ⟨c1, c2, c3⟩, ⟨c4, c5, c6⟩, c7, c8⟩ := isB.facts (b := 1) (Or.inl rfl)
  have hr := (c8 i hi10).2
  obtain ⟨r1, r2, r3, r4, r5, r6⟩ := hr.facts
  have hRT := hE1.2.2.2 i hi
  obtain ⟨x1, x2, x3, x4, x5⟩ := id hRT
  have hro := hV.1
  have hll := es_len B i
  have hpl := pl_le (sg_ B i)
  have hs4 := hV.2.1.1
  have hn43 := hT.2.1.2.1
  obtain ⟨n1, n2, n3, n4, n5, n6⟩ := hT.2.2.1 j hj
  refine X_aload_n (nx := 88) dX5_plant_87 rfl rfl rfl ?_
  refine Y_Vi0 (nx := 91) dX5_plant_88 rfl ml_RX5_101 kj_X4_isMount kv_X4_isMount (sp_X4_isMount hr) (by first | assumption | rfl | decide | omega) (by first | assumption | rfl | decide | omega) (by decide) rfl (by first | decide | omega) (by exact Nat.le_of_ble_eq_true rfl) ?_
  refine X_if_eq (tgt := 116) (nx := 94) dX5_plant_91 rfl rfl (fun h91 => ?_) (fun h91 => ?_)
  · skip
    rw [x4, b2i_f] at h91
    have hm : mtB B i = false := h91
    refine X_aload_n (nx := 117) dX5_plant_116 rfl rfl rfl ?_
    refine Y_Vi0 (nx := 120) dX5_plant_117 rfl ml_RX5_107 kj_X4_hasRest kv_X4_hasRest (sp_X4_hasRest hr x5) (by first | assumption | rfl | decide | omega) (by first | assumption | rfl | decide | omega) (by decide) rfl (by first | decide | omega) (by exact Nat.le_of_ble_eq_true rfl) ?_
    refine X_if_eq (tgt := 130) (nx := 123) dX5_plant_120 rfl rfl (fun h120 => ?_) (fun h120 => ?_)
    · skip
      rw [b2i_f] at h120
      have hrs : rsB B i = false := h120
      refine X_aload_n (nx := 131) dX5_plant_130 rfl rfl rfl ?_
      refine M_getP (nx := 134) dX5_plant_131 rfl fl_RX5_21 rfl (by first | assumption | rfl | decide | omega) (by first | assumption | rfl | decide | omega) (by first | assumption | rfl | decide | omega) ?_
      refine X_iload_n (nx := 135) dX5_plant_134 rfl rfl rfl ?_
      refine X_iload_n (nx := 136) dX5_plant_135 rfl rfl rfl ?_
      first
        | refine Y_Sv3 (nx := 139) dX5_plant_136 rfl ml_RX5_98 kj_X5_mark ks_X5_mark (sp_X5_mark (a := 85) (i := j) (k := i) (by decide) (by decide) rfl (by omega) rfl (by omega) n4) (by decide) (by exact Nat.le_of_ble_eq_true rfl) ?_
        | refine Y_Sv3 (nx := 139) dX5_plant_136 rfl ml_RX5_98 kj_X5_mark ks_X5_mark (sp_X5_mark (a := 84) (i := j) (k := i) (by decide) (by decide) rfl (by omega) rfl (by omega) n3) (by decide) (by exact Nat.le_of_ble_eq_true rfl) ?_
      refine X_iconst (v := 0) (nx := 140) dX5_plant_139 rfl rfl ?_
      refine X_istore (i := 4) (nx := 142) dX5_plant_140 rfl (by decide) rfl (st_s (st_s (st_s (st_s (st_0))))) ?_
      first
        | exact lp_plant_v hE hi ht hV hm 4 0 _ rfl (hf.tr (Fr.up (by unfold inT; omega))) (by subst hnl; exact TE.congr (hT.markRS hj hi10) (fun _ _ _ => rfl) (fun q r _ => en_r hrs q r) (fun q r _ => rs_m hq ht hm hrs q r) (fun _ _ _ => rfl) (fun y r _ => by simp) (fun _ _ q => q))
        | exact lp_plant_v hE hi ht hV hm 4 0 _ rfl (hf.tr (Fr.up (by unfold inT; omega))) (by subst hnl; exact TE.congr (hT.markEN hj hi10) (fun _ _ _ => rfl) (fun q r _ => en_m hq ht hm hrs q r) (fun q r _ => rs_e hrs q r) (fun _ _ _ => rfl) (fun y r _ => by simp) (fun _ _ q => q))
    · skip
      rw [b2i_t] at h120
      have hrs : rsB B i = true := h120
      refine X_aload_n (nx := 124) dX5_plant_123 rfl rfl rfl ?_
      refine M_getP (nx := 127) dX5_plant_124 rfl fl_RX5_24 rfl (by first | assumption | rfl | decide | omega) (by first | assumption | rfl | decide | omega) (by first | assumption | rfl | decide | omega) ?_
      refine X_goto (tgt := 134) dX5_plant_127 rfl ?_
      refine X_iload_n (nx := 135) dX5_plant_134 rfl rfl rfl ?_
      refine X_iload_n (nx := 136) dX5_plant_135 rfl rfl rfl ?_
      first
        | refine Y_Sv3 (nx := 139) dX5_plant_136 rfl ml_RX5_98 kj_X5_mark ks_X5_mark (sp_X5_mark (a := 85) (i := j) (k := i) (by decide) (by decide) rfl (by omega) rfl (by omega) n4) (by decide) (by exact Nat.le_of_ble_eq_true rfl) ?_
        | refine Y_Sv3 (nx := 139) dX5_plant_136 rfl ml_RX5_98 kj_X5_mark ks_X5_mark (sp_X5_mark (a := 84) (i := j) (k := i) (by decide) (by decide) rfl (by omega) rfl (by omega) n3) (by decide) (by exact Nat.le_of_ble_eq_true rfl) ?_
      refine X_iconst (v := 0) (nx := 140) dX5_plant_139 rfl rfl ?_
      refine X_istore (i := 4) (nx := 142) dX5_plant_140 rfl (by decide) rfl (st_s (st_s (st_s (st_s (st_0))))) ?_
      first
        | exact lp_plant_v hE hi ht hV hm 4 0 _ rfl (hf.tr (Fr.up (by unfold inT; omega))) (by subst hnl; exact TE.congr (hT.markRS hj hi10) (fun _ _ _ => rfl) (fun q r _ => en_r hrs q r) (fun q r _ => rs_m hq ht hm hrs q r) (fun _ _ _ => rfl) (fun y r _ => by simp) (fun _ _ q => q))
        | exact lp_plant_v hE hi ht hV hm 4 0 _ rfl (hf.tr (Fr.up (by unfold inT; omega))) (by subst hnl; exact TE.congr (hT.markEN hj hi10) (fun _ _ _ => rfl) (fun q r _ => en_m hq ht hm hrs q r) (fun q r _ => rs_e hrs q r) (fun _ _ _ => rfl) (fun y r _ => by simp) (fun _ _ q => q))
  · skip
    rw [x4, b2i_t] at h91
    have hm : mtB B i = true := h91
    refine X_aload_n (nx := 95) dX5_plant_94 rfl rfl rfl ?_
    refine M_getP (nx := 98) dX5_plant_95 rfl fl_RX5_27 rfl (by first | assumption | rfl | decide | omega) (by first | assumption | rfl | decide | omega) (by first | assumption | rfl | decide | omega) ?_
    refine X_iload_n (nx := 99) dX5_plant_98 rfl rfl rfl ?_
    refine X_iload_n (nx := 100) dX5_plant_99 rfl rfl rfl ?_
    refine Y_Sv3 (nx := 103) dX5_plant_100 rfl ml_RX5_98 kj_X5_mark ks_X5_mark (sp_X5_mark (i := j) (k := i) (by decide) (by decide) rfl (by omega) rfl (by omega) n5) (by first | decide | omega) (by exact Nat.le_of_ble_eq_true rfl) ?_
    refine X_aload_n (nx := 104) dX5_plant_103 rfl rfl rfl ?_
    refine M_getP (nx := 107) dX5_plant_104 rfl fl_RX5_30 rfl (by first | assumption | rfl | decide | omega) (by first | assumption | rfl | decide | omega) (by first | assumption | rfl | decide | omega) ?_
    refine X_iload_n (nx := 108) dX5_plant_107 rfl rfl rfl ?_
    refine X_aload_n (nx := 109) dX5_plant_108 rfl rfl rfl ?_
    refine M_getI (nx := 112) dX5_plant_109 rfl fl_RX5_105 rfl (by first | assumption | rfl | decide | omega) (by first | assumption | rfl | decide | omega) ?_
    refine X_top ((up2_other (by unfold rt; omega)).trans x4) ?_
    refine Y_Sv3 (nx := 115) dX5_plant_112 rfl ml_RX5_56 kj_X7_put ks_X7_put (sp_X7_put (i := i) (by decide) (by decide) rfl (by omega)) (by first | decide | omega) (by exact Nat.le_of_ble_eq_true rfl) ?_
    exact Z_retv dX5_plant_115 rfl ⟨by subst hnl; exact TEi.ofM hT hj hq ht hm hi10, (hf.tr (Fr.up (by unfold inT; omega))).tr (Fr.up (by unfold inT; omega))⟩
theorem typ7 {x : Nat} (h : sgv x) (h4 : x ≠ 40) : typ x < 7 := by unfold sgv at h; unfold typ; split <;> omega
theorem lp_plant_s {B : Bk} {nl0 : List Nd} {PS EN RS MN : Nd → Nat → Bool} {SV : Nat → Nat → Bool} {MO : Nat → Bool} {i : Nat} {D : Mem} (hE : Enc D 1 B) (hi : i < cm_ B) (ht : thN B i = true) (hV : VR B i) (hl : nl0.length + (es_ B i).length ≤ 43) : ∀ (m : Nat) (k j : Nat) (D1 : Mem), k + m = (es_ B i).length → Fr inT D D1 → TE D1 B (adP nl0 (ro_ B i) (es_ B i) k) (PSk B PS i k) EN RS MN SV MO → j < (adP nl0 (ro_ B i) (es_ B i) k).length → ng (adP nl0 (ro_ B i) (es_ B i) k) j = (ro_ B i, (es_ B i).take k) → X 3 138 j_X5_plant 8 [some (.ref 80), some (.int (nI i)), some (.ref (rt 1 i)), some (.int (nI j)), some (.int (nI k)), none] [] (138, P0, D1) (fun x σ => ∃ D' : Mem, x = [] ∧ σ = wd D' ∧ PLT B nl0 PS EN RS MN SV MO i D D') := by
  intro m
  induction m with
  | zero =>
    intro k j D1 hk hf hT hj hq
    have hly : (lay 82).2 = 43 ∧ (lay 83).2 = 43 ∧ (lay 84).2 = 43 ∧ (lay 85).2 = 43 ∧ (lay 86).2 = 43 ∧ (lay 81).2 = 301 ∧ (lay 87).2 = 10 ∧ (lay 88).2 = 4 ∧ (lay 89).2 = 3 ∧ (lay 90).2 = 3 ∧ (lay 91).2 = 3 := by decide
    have hi10 : i < 10 := by have := hE.2.2.1; omega
    have hE1 := hE.frT hf
    obtain ⟨⟨b1, b2⟩, ⟨b3, b4, b5, b6⟩, ⟨b7, b8, b9⟩, ⟨c1, c2, c3⟩, ⟨c4, c5, c6⟩, c7, c8⟩ := isB.facts (b := 1) (Or.inl rfl)
    have hr := (c8 i hi10).2
    obtain ⟨r1, r2, r3, r4, r5, r6⟩ := hr.facts
    have hRT := hE1.2.2.2 i hi
    obtain ⟨x1, x2, x3, x4, x5⟩ := id hRT
    have hro := hV.1
    have hll := es_len B i
    have hpl := pl_le (sg_ B i)
    have hs4 := hV.2.1.1
    refine X_iload (nx := 10) dX5_plant_8 rfl rfl ?_
    refine X_aload_n (nx := 11) dX5_plant_10 rfl rfl rfl ?_
    refine M_getI (nx := 14) dX5_plant_11 rfl fl_RX5_89 rfl (by first | assumption | rfl | decide | omega) (by first | assumption | rfl | decide | omega) ?_
    refine X_top (x5.2.2.1) ?_
    refine X_icmp_ge (tgt := 87) (nx := 17) dX5_plant_14 rfl rfl (fun h14 => ?_) (fun h14 => ?_)
    · skip
      have hk0 : k = (es_ B i).length := by omega
      subst hk0
      exact lp_plant_t hE hi ht hV rfl hf hT hj (by rw [hq, List.take_length])
    · exact absurd h14 (fun q => q (nI_le (by omega) (by omega)))
  | succ m ih =>
    intro k j D1 hk hf hT hj hq
    have hly : (lay 82).2 = 43 ∧ (lay 83).2 = 43 ∧ (lay 84).2 = 43 ∧ (lay 85).2 = 43 ∧ (lay 86).2 = 43 ∧ (lay 81).2 = 301 ∧ (lay 87).2 = 10 ∧ (lay 88).2 = 4 ∧ (lay 89).2 = 3 ∧ (lay 90).2 = 3 ∧ (lay 91).2 = 3 := by decide
    have hi10 : i < 10 := by have := hE.2.2.1; omega
    have hE1 := hE.frT hf
    obtain ⟨⟨b1, b2⟩, ⟨b3, b4, b5, b6⟩, ⟨b7, b8, b9⟩, ⟨c1, c2, c3⟩, ⟨c4, c5, c6⟩, c7, c8⟩ := isB.facts (b := 1) (Or.inl rfl)
    have hr := (c8 i hi10).2
    obtain ⟨r1, r2, r3, r4, r5, r6⟩ := hr.facts
    have hRT := hE1.2.2.2 i hi
    obtain ⟨x1, x2, x3, x4, x5⟩ := id hRT
    have hro := hV.1
    have hll := es_len B i
    have hpl := pl_le (sg_ B i)
    have hs4 := hV.2.1.1
    obtain ⟨a1, a2⟩ := adP_len nl0 (ro_ B i) (es_ B i) k
    have hn43 := hT.2.1.2.1
    obtain ⟨n1, n2, n3, n4, n5, n6⟩ := hT.2.2.1 j hj
    have hseg := hV.2.1.plain (k := k) (by omega)
    have h7 := typ7 hseg.1 hseg.2
    have hq1 : (ng (adP nl0 (ro_ B i) (es_ B i) k) j).1 = ro_ B i := by rw [hq]
    have hq2 : (ng (adP nl0 (ro_ B i) (es_ B i) k) j).2 ++ [typ ((sg_ B i).getD k 0)] = (es_ B i).take (k + 1) := by rw [hq, take_s (by omega), es_get hV.2.1 (by omega)]
    refine X_iload (nx := 10) dX5_plant_8 rfl rfl ?_
    refine X_aload_n (nx := 11) dX5_plant_10 rfl rfl rfl ?_
    refine M_getI (nx := 14) dX5_plant_11 rfl fl_RX5_89 rfl (by first | assumption | rfl | decide | omega) (by first | assumption | rfl | decide | omega) ?_
    refine X_top (x5.2.2.1) ?_
    refine X_icmp_ge (tgt := 87) (nx := 17) dX5_plant_14 rfl rfl (fun h14 => ?_) (fun h14 => ?_)
    · exact absurd h14 (nI_ge (by omega) (by omega))
    · skip
      refine X_iload_n (nx := 18) dX5_plant_17 rfl rfl rfl ?_
      refine X_bipush (v := 7) (nx := 20) dX5_plant_18 rfl rfl ?_
      refine X_imul (nx := 21) dX5_plant_20 rfl ?_
      refine X_top (rfl) ?_
      refine X_aload_n (nx := 22) dX5_plant_21 rfl rfl rfl ?_
      refine X_iload (nx := 24) dX5_plant_22 rfl rfl ?_
      refine Y_Vi1 (nx := 27) dX5_plant_24 rfl ml_RX5_92 kj_X4_segmentAt kv_X4_segmentAt (sp_X4_segmentAt hr x5 rfl (by omega)) (by first | assumption | rfl | decide | omega) (by first | assumption | rfl | decide | omega) (by decide) rfl (by first | decide | omega) (by exact Nat.le_of_ble_eq_true rfl) ?_
      refine Y_Si1 (nx := 30) dX5_plant_27 rfl ml_RX5_95 kj_X5_edgeOf ks_X5_edgeOf (sp_X5_edgeOf rfl (hV.2.1.plain (by omega)).1 (hV.2.1.plain (by omega)).2) (by first | decide | omega) (by exact Nat.le_of_ble_eq_true rfl) ?_
      refine X_iadd (nx := 31) dX5_plant_30 rfl ?_
      refine X_top (mul7 _ _) ?_
      refine X_istore (i := 5) (nx := 33) dX5_plant_31 rfl (by decide) rfl (st_s (st_s (st_s (st_s (st_s (st_0)))))) ?_
      refine X_aload_n (nx := 34) dX5_plant_33 rfl rfl rfl ?_
      refine M_getP (nx := 37) dX5_plant_34 rfl fl_RX5_11 rfl (by first | assumption | rfl | decide | omega) (by first | assumption | rfl | decide | omega) (by first | assumption | rfl | decide | omega) ?_
      refine X_iload (nx := 39) dX5_plant_37 rfl rfl ?_
      refine Y_Si2 (nx := 42) dX5_plant_39 rfl ml_RX5_63 kj_X7_numberAt ks_X7_numberAt (sp_X7_numberAt (i := j * 7 + typ ((sg_ B i).getD k 0)) (by decide) (by decide) rfl (by omega)) (by first | decide | omega) (by exact Nat.le_of_ble_eq_true rfl) ?_
      refine X_top ((n6 _ h7).trans (congrArg opI (by rw [hq1, hq2]))) ?_
      refine X_if_ge (tgt := 62) (nx := 45) dX5_plant_42 rfl rfl (fun h42 => ?_) (fun h42 => ?_)
      · skip
        obtain ⟨k2, hk2⟩ := Option.isSome_iff_exists.mp (opI_ge (Int32.not_lt.mpr h42))
        have hnl2 : adP nl0 (ro_ B i) (es_ B i) (k + 1) = adP nl0 (ro_ B i) (es_ B i) k := by show adP1 _ _ = _; unfold adP1; rw [hk2]; rfl
        have hadd := hT
        rw [← hnl2] at hadd
        obtain ⟨hj2, hg2⟩ := nix_some hk2
        rw [← hnl2] at hj2 hg2
        have hf2 := hf
        have hb68 : D1 81 (j * 7 + typ ((sg_ B i).getD k 0)) = nI k2 := ((n6 _ h7).trans (congrArg opI (by rw [hq1, hq2]))).trans (by rw [hk2]; rfl)
        have hn83 := (hadd.2.2.1 k2 hj2).2.1
        have hn43b := hadd.2.1.2.1
        refine X_aload_n (nx := 63) dX5_plant_62 rfl rfl rfl ?_
        refine M_getP (nx := 66) dX5_plant_63 rfl fl_RX5_11 rfl (by first | assumption | rfl | decide | omega) (by first | assumption | rfl | decide | omega) (by first | assumption | rfl | decide | omega) ?_
        refine X_iload (nx := 68) dX5_plant_66 rfl rfl ?_
        refine Y_Si2 (nx := 71) dX5_plant_68 rfl ml_RX5_63 kj_X7_numberAt ks_X7_numberAt (sp_X7_numberAt (i := j * 7 + typ ((sg_ B i).getD k 0)) (by decide) (by decide) rfl (by omega)) (by first | decide | omega) (by exact Nat.le_of_ble_eq_true rfl) ?_
        refine X_top (hb68) ?_
        refine X_istore_n (i := 3) (nx := 72) dX5_plant_71 rfl rfl (by decide) rfl (st_s (st_s (st_s (st_0)))) ?_
        refine X_aload_n (nx := 73) dX5_plant_72 rfl rfl rfl ?_
        refine M_getP (nx := 76) dX5_plant_73 rfl fl_RX5_18 rfl (by first | assumption | rfl | decide | omega) (by first | assumption | rfl | decide | omega) (by first | assumption | rfl | decide | omega) ?_
        refine X_iload_n (nx := 77) dX5_plant_76 rfl rfl rfl ?_
        refine X_iload_n (nx := 78) dX5_plant_77 rfl rfl rfl ?_
        refine Y_Sv3 (nx := 81) dX5_plant_78 rfl ml_RX5_98 kj_X5_mark ks_X5_mark (sp_X5_mark (i := k2) (k := i) (by decide) (by decide) rfl (by omega) rfl (by omega) hn83) (by first | decide | omega) (by exact Nat.le_of_ble_eq_true rfl) ?_
        refine X_iinc (nx := 84) dX5_plant_81 rfl (by decide) rfl (by first | exact ii1 _ | rfl) rfl (st_s (st_s (st_s (st_s (st_0))))) ?_
        refine X_goto (tgt := 8) dX5_plant_84 rfl ?_
        refine X_fg5 ?_
        have hmk := hadd.markPS hj2 hi10
        refine ih (k + 1) k2 _ (by omega) (hf2.tr (Fr.up (by unfold inT; omega))) (TE.congr hmk (fun q r _ => by rw [hg2]; exact PSk_s ht (by omega) q r) (fun _ _ _ => rfl) (fun _ _ _ => rfl) (fun _ _ _ => rfl) (fun _ _ _ => rfl) (fun _ _ q => q)) hj2 hg2
      · skip
        have hnone := opI_lt (Int32.not_le.mp h42) (fun y hy => by have := (nix_some hy).1; omega)
        obtain ⟨k2, hk2⟩ : ∃ y, y = (adP nl0 (ro_ B i) (es_ B i) k).length := ⟨_, rfl⟩
        have hadd := hT.add hj h7 (by omega) (by rw [hq1, hq2]; exact hnone)
        rw [hq1, hq2] at hadd
        have hnl2 : adP nl0 (ro_ B i) (es_ B i) (k + 1) = adP nl0 (ro_ B i) (es_ B i) k ++ [(ro_ B i, (es_ B i).take (k + 1))] := by show adP1 _ _ = _; unfold adP1; rw [if_neg (by rw [hnone]; decide)]
        rw [← hnl2, ← hk2] at hadd
        have hj2 : k2 < (adP nl0 (ro_ B i) (es_ B i) (k + 1)).length := by rw [hnl2, hk2]; simp
        have hg2 : ng (adP nl0 (ro_ B i) (es_ B i) (k + 1)) k2 = (ro_ B i, (es_ B i).take (k + 1)) := by rw [hnl2, hk2]; exact ng_last
        have hf2 : Fr inT D (up2 (anD D1 k2 (ro_ B i)) 81 (j * 7 + typ ((sg_ B i).getD k 0)) (nI k2)) := fun b hb => by rw [up2_ne (fun e => hb (by unfold inT; omega))]; funext x; unfold anD; unfold inT at hb; rw [if_neg (by omega), if_neg (by omega), if_neg (by omega), if_neg (by omega)]; exact congrFun (hf b hb) x
        have hb68 : up2 (anD D1 k2 (ro_ B i)) 81 (j * 7 + typ ((sg_ B i).getD k 0)) (nI k2) 81 (j * 7 + typ ((sg_ B i).getD k 0)) = nI k2 := up2_same
        have hn83 := (hadd.2.2.1 k2 hj2).2.1
        have hn43b := hadd.2.1.2.1
        have hT1 : D1 80 11 = nI k2 := by rw [hk2]; exact hT.1
        refine X_aload_n (nx := 46) dX5_plant_45 rfl rfl rfl ?_
        refine M_getP (nx := 49) dX5_plant_46 rfl fl_RX5_11 rfl (by first | assumption | rfl | decide | omega) (by first | assumption | rfl | decide | omega) (by first | assumption | rfl | decide | omega) ?_
        refine X_iload (nx := 51) dX5_plant_49 rfl rfl ?_
        refine X_aload_n (nx := 52) dX5_plant_51 rfl rfl rfl ?_
        refine X_aload_n (nx := 53) dX5_plant_52 rfl rfl rfl ?_
        refine M_getI (nx := 56) dX5_plant_53 rfl fl_RX5_84 rfl (by first | assumption | rfl | decide | omega) (by first | assumption | rfl | decide | omega) ?_
        refine Y_Vi1 (nx := 59) dX5_plant_56 rfl ml_RX5_52 kj_X5_addNode kv_X5_addNode (sp_X5_addNode x2 (by omega) hT1) (by first | assumption | rfl | decide | omega) (by first | assumption | rfl | decide | omega) (by decide) rfl (by first | decide | omega) (by exact Nat.le_of_ble_eq_true rfl) ?_
        refine Y_Sv3 (nx := 62) dX5_plant_59 rfl ml_RX5_56 kj_X7_put ks_X7_put (sp_X7_put (i := j * 7 + typ ((sg_ B i).getD k 0)) (by decide) (by decide) rfl (by omega)) (by first | decide | omega) (by exact Nat.le_of_ble_eq_true rfl) ?_
        refine X_aload_n (nx := 63) dX5_plant_62 rfl rfl rfl ?_
        refine M_getP (nx := 66) dX5_plant_63 rfl fl_RX5_11 rfl (by first | assumption | rfl | decide | omega) (by first | assumption | rfl | decide | omega) (by first | assumption | rfl | decide | omega) ?_
        refine X_iload (nx := 68) dX5_plant_66 rfl rfl ?_
        refine Y_Si2 (nx := 71) dX5_plant_68 rfl ml_RX5_63 kj_X7_numberAt ks_X7_numberAt (sp_X7_numberAt (i := j * 7 + typ ((sg_ B i).getD k 0)) (by decide) (by decide) rfl (by omega)) (by first | decide | omega) (by exact Nat.le_of_ble_eq_true rfl) ?_
        refine X_top (hb68) ?_
        refine X_istore_n (i := 3) (nx := 72) dX5_plant_71 rfl rfl (by decide) rfl (st_s (st_s (st_s (st_0)))) ?_
        refine X_aload_n (nx := 73) dX5_plant_72 rfl rfl rfl ?_
        refine M_getP (nx := 76) dX5_plant_73 rfl fl_RX5_18 rfl (by first | assumption | rfl | decide | omega) (by first | assumption | rfl | decide | omega) (by first | assumption | rfl | decide | omega) ?_
        refine X_iload_n (nx := 77) dX5_plant_76 rfl rfl rfl ?_
        refine X_iload_n (nx := 78) dX5_plant_77 rfl rfl rfl ?_
        refine Y_Sv3 (nx := 81) dX5_plant_78 rfl ml_RX5_98 kj_X5_mark ks_X5_mark (sp_X5_mark (i := k2) (k := i) (by decide) (by decide) rfl (by omega) rfl (by omega) hn83) (by first | decide | omega) (by exact Nat.le_of_ble_eq_true rfl) ?_
        refine X_iinc (nx := 84) dX5_plant_81 rfl (by decide) rfl (by first | exact ii1 _ | rfl) rfl (st_s (st_s (st_s (st_s (st_0))))) ?_
        refine X_goto (tgt := 8) dX5_plant_84 rfl ?_
        refine X_fg5 ?_
        have hmk := hadd.markPS hj2 hi10
        refine ih (k + 1) k2 _ (by omega) (hf2.tr (Fr.up (by unfold inT; omega))) (TE.congr hmk (fun q r _ => by rw [hg2]; exact PSk_s ht (by omega) q r) (fun _ _ _ => rfl) (fun _ _ _ => rfl) (fun _ _ _ => rfl) (fun _ _ _ => rfl) (fun _ _ q => q)) hj2 hg2
end
section
theorem sp_X5_plant {B : Bk} {nl0 : List Nd} {PS EN RS MN : Nd → Nat → Bool} {SV : Nat → Nat → Bool} {MO : Nat → Bool} {i : Nat} {x : Int32} {r : Nat} {D : Mem} (hE : Enc D 1 B) (hi : i < cm_ B) (ht : thN B i = true) (hV : VR B i) (hl : nl0.length + (es_ B i).length ≤ 43) (hT : TE D B nl0 PS EN RS MN SV MO) (hx : x = nI i) (hr : r = rt 1 i) : Rvx 3 j_X5_plant [.ref 80, .int x, .ref r] D (fun D' => PLT B nl0 PS EN RS MN SV MO i D D') := by
  refine E.start 3 (ls := [some (.ref 80), some (.int x), some (.ref r), none, none, none]) (by decide +kernel) (Nat.le_of_ble_eq_true rfl) rfl (Nat.le_refl _) (Nat.le_refl _) ?_
  subst hx; subst hr
  obtain ⟨⟨b1, b2⟩, ⟨b3, b4, b5, b6⟩, ⟨b7, b8, b9⟩, ⟨c1, c2, c3⟩, ⟨c4, c5, c6⟩, c7, c8⟩ := isB.facts (b := 1) (Or.inl rfl)
  have h3 := hE.2.2.1
  obtain ⟨r1, r2, r3, r4, r5, r6⟩ := (c8 i (by omega)).2.facts
  obtain ⟨x1, x2, x3, x4, x5⟩ := hE.2.2.2 i hi
  have hn3 := hT.2.1.1
  have hro := hV.1
  refine X_aload_n (nx := 1) dX5_plant_0 rfl rfl rfl ?_
  refine M_getI (nx := 4) dX5_plant_1 rfl fl_RX5_84 rfl (by first | assumption | rfl | decide | omega) (by first | assumption | rfl | decide | omega) ?_
  refine X_top (x2) ?_
  refine X_istore_n (i := 3) (nx := 5) dX5_plant_4 rfl rfl (by decide) rfl (st_s (st_s (st_s (st_0)))) ?_
  refine X_iconst (v := 0) (nx := 6) dX5_plant_5 rfl rfl ?_
  refine X_istore (i := 4) (nx := 8) dX5_plant_6 rfl (by decide) rfl (st_s (st_s (st_s (st_s (st_0))))) ?_
  exact lp_plant_s hE hi ht hV hl (es_ B i).length 0 (ro_ B i) D (by omega) Fr.rf (TE.congr hT (fun q r _ => PSk_0 q r) (fun _ _ _ => rfl) (fun _ _ _ => rfl) (fun _ _ _ => rfl) (fun _ _ _ => rfl) (fun _ _ q => q)) (by show ro_ B i < nl0.length; omega) (hT.2.1.2.2.1 _ hV.1)
/-- the roots so far -/
def E0 (D : Mem) (i : Nat) : Prop := D 80 11 = nI i ∧ ∀ j, j < i → D 82 j = nI j ∧ (∀ b, 83 ≤ b → b ≤ 86 → D b j = 0) ∧ (∀ e, e < 7 → D 81 (j * 7 + e) = -9) ∧ D 91 j = -9
def roots : List Nd := [(0, []), (1, []), (2, [])]
theorem E0.step {D : Mem} {i : Nat} (h : E0 D i) (hi : i < 3) : E0 (up2 (anD D i i) 91 i (-9)) (i + 1) := by
  obtain ⟨h1, h2⟩ := h
  refine ⟨?_, fun j hj => ?_⟩
  · rw [up2_other (by omega)]; unfold anD; rw [if_pos ⟨rfl, rfl⟩]
  · by_cases e : j = i
    · subst e
      refine ⟨?_, fun b g1 g2 => ?_, fun e' he' => ?_, up2_same⟩
      · rw [up2_other (by omega)]; unfold anD; rw [if_neg (by omega), if_pos ⟨rfl, rfl⟩]
      · rw [up2_other (by omega)]; unfold anD; rw [if_neg (by omega), if_neg (by omega), if_pos ⟨⟨g1, g2⟩, rfl⟩]
      · rw [up2_other (by omega)]; unfold anD; rw [if_neg (by omega), if_neg (by omega), if_neg (by omega), if_pos ⟨rfl, by omega, by omega⟩]
    · obtain ⟨g1, g2, g3, g4⟩ := h2 j (by omega)
      have o : ∀ b x, ¬ (b = 80 ∧ x = 11) → ¬ (b = 82 ∧ x = i) → ¬ ((83 ≤ b ∧ b ≤ 86) ∧ x = i) → ¬ (b = 81 ∧ i * 7 ≤ x ∧ x < i * 7 + 7) → ¬ (b = 91 ∧ x = i) → up2 (anD D i i) 91 i (-9) b x = D b x := by
        intro b x a1 a2 a3 a4 a5
        rw [up2_other a5]; unfold anD; rw [if_neg a1, if_neg a2, if_neg a3, if_neg a4]
      exact ⟨by rw [o _ _ (by omega) (by omega) (by omega) (by omega) (by omega)]; exact g1, fun b k1 k2 => by rw [o _ _ (by omega) (by omega) (by omega) (by omega) (by omega)]; exact g2 b k1 k2, fun e' he' => by rw [o _ _ (by omega) (by omega) (by omega) (by omega) (by omega)]; exact g3 e' he', by rw [o _ _ (by omega) (by omega) (by omega) (by omega) (by omega)]; exact g4⟩
def ff2 : Nd → Nat → Bool := fun _ _ => false
theorem NL_roots : NL roots := by
  refine ⟨by decide, by decide, by decide, fun i j hi hj h => ?_, fun k hk p e h => ?_⟩
  · have hl : roots.length = 3 := rfl
    rw [hl] at hi hj
    obtain rfl | rfl | rfl : i = 0 ∨ i = 1 ∨ i = 2 := by omega
    all_goals (obtain rfl | rfl | rfl : j = 0 ∨ j = 1 ∨ j = 2 := by omega)
    all_goals first | rfl | exact absurd h (by decide)
  · have hl : roots.length = 3 := rfl
    rw [hl] at hk
    obtain rfl | rfl | rfl : k = 0 ∨ k = 1 ∨ k = 2 := by omega
    all_goals exact absurd h.symm (by show p ++ [e] ≠ []; simp)
theorem nix_roots (q : Nd) (e : Nat) : nix roots (q.1, q.2 ++ [e]) = none := by
  refine fst_intro_none (fun x _ hx => decide_eq_false fun h => ?_)
  have hl : roots.length = 3 := rfl
  rw [hl] at hx
  obtain rfl | rfl | rfl : x = 0 ∨ x = 1 ∨ x = 2 := by omega
  all_goals exact absurd (congrArg Prod.snd h).symm (by show q.2 ++ [e] ≠ []; simp)
theorem E0.te {D : Mem} {B : Bk} (h : E0 D 3) (hs : ∀ v, v < 4 → D 88 v = 0) : TE D B roots ff2 ff2 ff2 ff2 (fun _ _ => false) (fun _ => false) := by
  obtain ⟨h1, h2⟩ := h
  have z : nI (mkn (fun _ => false) 10) = 0 := by decide
  refine ⟨h1, NL_roots, fun j hj => ?_, fun v hv => (hs v hv).trans z.symm, fun r _ h => (by cases h), fun q _ r _ => ⟨rfl, rfl, rfl, rfl⟩⟩
  have hl : roots.length = 3 := rfl
  obtain ⟨g1, g2, g3, g4⟩ := h2 j (by rw [hl] at hj; exact hj)
  have hg : ng roots j = (j, []) := NL_roots.2.2.1 j (by rw [hl] at hj; exact hj)
  exact ⟨by rw [hg]; exact g1, (g2 83 (by omega) (by omega)).trans z.symm, (g2 84 (by omega) (by omega)).trans z.symm, (g2 85 (by omega) (by omega)).trans z.symm, (g2 86 (by omega) (by omega)).trans z.symm, fun e he => by rw [nix_roots]; exact g3 e he⟩
theorem dX5_empty_0 : decode cX5_empty 0 = .ok (.aload_n 0, 1) := by decide +kernel
theorem dX5_empty_1 : decode cX5_empty 1 = .ok (.iconst 0, 1) := by decide +kernel
theorem dX5_empty_2 : decode cX5_empty 2 = .ok (.putfield 48, 3) := by decide +kernel
theorem dX5_empty_5 : decode cX5_empty 5 = .ok (.iconst 0, 1) := by decide +kernel
theorem dX5_empty_6 : decode cX5_empty 6 = .ok (.istore_n 1, 1) := by decide +kernel
theorem dX5_empty_7 : decode cX5_empty 7 = .ok (.iload_n 1, 1) := by decide +kernel
theorem dX5_empty_8 : decode cX5_empty 8 = .ok (.iconst 3, 1) := by decide +kernel
theorem dX5_empty_9 : decode cX5_empty 9 = .ok (.if_icmp .ge 25, 3) := by decide +kernel
theorem dX5_empty_12 : decode cX5_empty 12 = .ok (.aload_n 0, 1) := by decide +kernel
theorem dX5_empty_13 : decode cX5_empty 13 = .ok (.iload_n 1, 1) := by decide +kernel
theorem dX5_empty_14 : decode cX5_empty 14 = .ok (.invokevirtual 52, 3) := by decide +kernel
theorem dX5_empty_17 : decode cX5_empty 17 = .ok (.pop, 1) := by decide +kernel
theorem dX5_empty_18 : decode cX5_empty 18 = .ok (.aload_n 0, 1) := by decide +kernel
theorem dX5_empty_19 : decode cX5_empty 19 = .ok (.getfield 42, 3) := by decide +kernel
theorem dX5_empty_22 : decode cX5_empty 22 = .ok (.iload_n 1, 1) := by decide +kernel
theorem dX5_empty_23 : decode cX5_empty 23 = .ok (.bipush (-9), 2) := by decide +kernel
theorem dX5_empty_25 : decode cX5_empty 25 = .ok (.invokestatic 56, 3) := by decide +kernel
theorem dX5_empty_28 : decode cX5_empty 28 = .ok (.iinc 1 1, 3) := by decide +kernel
theorem dX5_empty_31 : decode cX5_empty 31 = .ok (.goto (-24), 3) := by decide +kernel
theorem dX5_empty_34 : decode cX5_empty 34 = .ok (.iconst 0, 1) := by decide +kernel
theorem dX5_empty_35 : decode cX5_empty 35 = .ok (.istore_n 1, 1) := by decide +kernel
theorem dX5_empty_36 : decode cX5_empty 36 = .ok (.iload_n 1, 1) := by decide +kernel
theorem dX5_empty_37 : decode cX5_empty 37 = .ok (.iconst 4, 1) := by decide +kernel
theorem dX5_empty_38 : decode cX5_empty 38 = .ok (.if_icmp .ge 18, 3) := by decide +kernel
theorem dX5_empty_41 : decode cX5_empty 41 = .ok (.aload_n 0, 1) := by decide +kernel
theorem dX5_empty_42 : decode cX5_empty 42 = .ok (.getfield 33, 3) := by decide +kernel
theorem dX5_empty_45 : decode cX5_empty 45 = .ok (.iload_n 1, 1) := by decide +kernel
theorem dX5_empty_46 : decode cX5_empty 46 = .ok (.iconst 0, 1) := by decide +kernel
theorem dX5_empty_47 : decode cX5_empty 47 = .ok (.invokestatic 56, 3) := by decide +kernel
theorem dX5_empty_50 : decode cX5_empty 50 = .ok (.iinc 1 1, 3) := by decide +kernel
theorem dX5_empty_53 : decode cX5_empty 53 = .ok (.goto (-17), 3) := by decide +kernel
theorem dX5_empty_56 : decode cX5_empty 56 = .ok (.return_, 1) := by decide +kernel
theorem lp_empty2 {B : Bk} {D : Mem} : ∀ (m : Nat) (v : Nat) (D1 : Mem), v + m = 4 → E0 D1 3 → (∀ w, w < v → D1 88 w = 0) → Fr inT2 D D1 → X 3 138 j_X5_empty 36 [some (.ref 80), some (.int (nI v))] [] (138, P0, D1) (fun x σ => ∃ D' : Mem, x = [] ∧ σ = wd D' ∧ TE D' B roots ff2 ff2 ff2 ff2 (fun _ _ => false) (fun _ => false) ∧ (∀ x, x < 3 → D' 91 x = -9) ∧ Fr inT2 D D') := by
  intro m
  induction m with
  | zero =>
    intro v D1 hv h0 hs hf
    have hly : (lay 82).2 = 43 ∧ (lay 83).2 = 43 ∧ (lay 84).2 = 43 ∧ (lay 85).2 = 43 ∧ (lay 86).2 = 43 ∧ (lay 81).2 = 301 ∧ (lay 87).2 = 10 ∧ (lay 88).2 = 4 ∧ (lay 89).2 = 3 ∧ (lay 90).2 = 3 ∧ (lay 91).2 = 3 := by decide
    refine X_iload_n (nx := 37) dX5_empty_36 rfl rfl rfl ?_
    refine X_iconst (v := nI 4) (nx := 38) dX5_empty_37 rfl rfl ?_
    refine X_icmp_ge (tgt := 56) (nx := 41) dX5_empty_38 rfl rfl (fun h38 => ?_) (fun h38 => ?_)
    · skip
      exact Z_retv dX5_empty_56 rfl ⟨h0.te (fun w hw => hs w (by omega)), fun x hx => (h0.2 x hx).2.2.2, hf⟩
    · exact absurd h38 (fun q => q (nI_le (by omega) (by omega)))
  | succ m ih =>
    intro v D1 hv h0 hs hf
    have hly : (lay 82).2 = 43 ∧ (lay 83).2 = 43 ∧ (lay 84).2 = 43 ∧ (lay 85).2 = 43 ∧ (lay 86).2 = 43 ∧ (lay 81).2 = 301 ∧ (lay 87).2 = 10 ∧ (lay 88).2 = 4 ∧ (lay 89).2 = 3 ∧ (lay 90).2 = 3 ∧ (lay 91).2 = 3 := by decide
    refine X_iload_n (nx := 37) dX5_empty_36 rfl rfl rfl ?_
    refine X_iconst (v := nI 4) (nx := 38) dX5_empty_37 rfl rfl ?_
    refine X_icmp_ge (tgt := 56) (nx := 41) dX5_empty_38 rfl rfl (fun h38 => ?_) (fun h38 => ?_)
    · exact absurd h38 (nI_ge (by omega) (by omega))
    · skip
      refine X_aload_n (nx := 42) dX5_empty_41 rfl rfl rfl ?_
      refine M_getP (nx := 45) dX5_empty_42 rfl fl_RX5_33 rfl (by first | assumption | rfl | decide | omega) (by first | assumption | rfl | decide | omega) (by first | assumption | rfl | decide | omega) ?_
      refine X_iload_n (nx := 46) dX5_empty_45 rfl rfl rfl ?_
      refine X_iconst (v := 0) (nx := 47) dX5_empty_46 rfl rfl ?_
      refine Y_Sv3 (nx := 50) dX5_empty_47 rfl ml_RX5_56 kj_X7_put ks_X7_put (sp_X7_put (i := v) (by decide) (by decide) rfl (by omega)) (by first | decide | omega) (by exact Nat.le_of_ble_eq_true rfl) ?_
      refine X_iinc (nx := 53) dX5_empty_50 rfl (by decide) rfl (by first | exact ii1 _ | rfl) rfl (st_s (st_0)) ?_
      refine X_goto (tgt := 36) dX5_empty_53 rfl ?_
      refine ih (v + 1) _ (by omega) ?_ (fun w hw => ?_) (hf.tr (Fr.up (by unfold inT2; omega)))
      · obtain ⟨g1, g2⟩ := h0
        exact ⟨by rw [up2_other (by omega)]; exact g1, fun j hj => by
          obtain ⟨a1, a2, a3, a4⟩ := g2 j hj
          exact ⟨by rw [up2_other (by omega)]; exact a1, fun b k1 k2 => by rw [up2_other (by omega)]; exact a2 b k1 k2, fun e he => by rw [up2_other (by omega)]; exact a3 e he, by rw [up2_other (by omega)]; exact a4⟩⟩
      · by_cases e : w = v
        · subst e; exact up2_same
        · rw [up2_other (by omega)]; exact hs w (by omega)
theorem lp_empty1 {B : Bk} {D : Mem} : ∀ (m : Nat) (i : Nat) (D1 : Mem), i + m = 3 → E0 D1 i → Fr inT2 D D1 → X 3 138 j_X5_empty 7 [some (.ref 80), some (.int (nI i))] [] (138, P0, D1) (fun x σ => ∃ D' : Mem, x = [] ∧ σ = wd D' ∧ TE D' B roots ff2 ff2 ff2 ff2 (fun _ _ => false) (fun _ => false) ∧ (∀ x, x < 3 → D' 91 x = -9) ∧ Fr inT2 D D') := by
  intro m
  induction m with
  | zero =>
    intro i D1 hi h0 hf
    have hly : (lay 82).2 = 43 ∧ (lay 83).2 = 43 ∧ (lay 84).2 = 43 ∧ (lay 85).2 = 43 ∧ (lay 86).2 = 43 ∧ (lay 81).2 = 301 ∧ (lay 87).2 = 10 ∧ (lay 88).2 = 4 ∧ (lay 89).2 = 3 ∧ (lay 90).2 = 3 ∧ (lay 91).2 = 3 := by decide
    refine X_iload_n (nx := 8) dX5_empty_7 rfl rfl rfl ?_
    refine X_iconst (v := nI 3) (nx := 9) dX5_empty_8 rfl rfl ?_
    refine X_icmp_ge (tgt := 34) (nx := 12) dX5_empty_9 rfl rfl (fun h9 => ?_) (fun h9 => ?_)
    · skip
      refine X_iconst (v := 0) (nx := 35) dX5_empty_34 rfl rfl ?_
      refine X_istore_n (i := 1) (nx := 36) dX5_empty_35 rfl rfl (by decide) rfl (st_s (st_0)) ?_
      exact lp_empty2 4 0 D1 rfl (by rw [show i = 3 by omega] at h0; exact h0) (fun w hw => by omega) hf
    · exact absurd h9 (fun q => q (nI_le (by omega) (by omega)))
  | succ m ih =>
    intro i D1 hi h0 hf
    have hly : (lay 82).2 = 43 ∧ (lay 83).2 = 43 ∧ (lay 84).2 = 43 ∧ (lay 85).2 = 43 ∧ (lay 86).2 = 43 ∧ (lay 81).2 = 301 ∧ (lay 87).2 = 10 ∧ (lay 88).2 = 4 ∧ (lay 89).2 = 3 ∧ (lay 90).2 = 3 ∧ (lay 91).2 = 3 := by decide
    refine X_iload_n (nx := 8) dX5_empty_7 rfl rfl rfl ?_
    refine X_iconst (v := nI 3) (nx := 9) dX5_empty_8 rfl rfl ?_
    refine X_icmp_ge (tgt := 34) (nx := 12) dX5_empty_9 rfl rfl (fun h9 => ?_) (fun h9 => ?_)
    · exact absurd h9 (nI_ge (by omega) (by omega))
    · skip
      refine X_aload_n (nx := 13) dX5_empty_12 rfl rfl rfl ?_
      refine X_iload_n (nx := 14) dX5_empty_13 rfl rfl rfl ?_
      refine Y_Vi1 (nx := 17) dX5_empty_14 rfl ml_RX5_52 kj_X5_addNode kv_X5_addNode (sp_X5_addNode rfl (by omega) h0.1) (by first | assumption | rfl | decide | omega) (by first | assumption | rfl | decide | omega) (by decide) rfl (by first | decide | omega) (by exact Nat.le_of_ble_eq_true rfl) ?_
      refine X_pop (nx := 18) dX5_empty_17 rfl rfl ?_
      refine X_aload_n (nx := 19) dX5_empty_18 rfl rfl rfl ?_
      refine M_getP (nx := 22) dX5_empty_19 rfl fl_RX5_42 rfl (by first | assumption | rfl | decide | omega) (by first | assumption | rfl | decide | omega) (by first | assumption | rfl | decide | omega) ?_
      refine X_iload_n (nx := 23) dX5_empty_22 rfl rfl rfl ?_
      refine X_bipush (v := -9) (nx := 25) dX5_empty_23 rfl rfl ?_
      refine Y_Sv3 (nx := 28) dX5_empty_25 rfl ml_RX5_56 kj_X7_put ks_X7_put (sp_X7_put (i := i) (by decide) (by decide) rfl (by omega)) (by first | decide | omega) (by exact Nat.le_of_ble_eq_true rfl) ?_
      refine X_iinc (nx := 31) dX5_empty_28 rfl (by decide) rfl (by first | exact ii1 _ | rfl) rfl (st_s (st_0)) ?_
      refine X_goto (tgt := 7) dX5_empty_31 rfl ?_
      refine ih (i + 1) _ (by omega) (h0.step (by omega)) (fun b hb => ?_)
      rw [up2_ne (fun e => hb (by unfold inT2; omega))]
      funext x
      unfold anD
      unfold inT2 at hb
      rw [if_neg (by omega), if_neg (by omega), if_neg (by omega), if_neg (by omega)]
      exact congrFun (hf b hb) x
theorem sp_X5_empty {B : Bk} {D : Mem} : Rvx 3 j_X5_empty [.ref 80] D (fun D' => TE D' B roots ff2 ff2 ff2 ff2 (fun _ _ => false) (fun _ => false) ∧ (∀ x, x < 3 → D' 91 x = -9) ∧ Fr inT2 D D') := by
  refine E.start 1 (ls := [some (.ref 80), none]) (by decide +kernel) (Nat.le_of_ble_eq_true rfl) rfl (Nat.le_refl _) (Nat.le_refl _) ?_
  refine X_aload_n (nx := 1) dX5_empty_0 rfl rfl rfl ?_
  refine X_iconst (v := 0) (nx := 2) dX5_empty_1 rfl rfl ?_
  refine M_putI (nx := 5) dX5_empty_2 rfl fl_RX5_48 rfl rfl (by first | assumption | rfl | decide | omega) (by first | assumption | rfl | decide | omega) ?_
  refine X_iconst (v := 0) (nx := 6) dX5_empty_5 rfl rfl ?_
  refine X_istore_n (i := 1) (nx := 7) dX5_empty_6 rfl rfl (by decide) rfl (st_s (st_0)) ?_
  exact lp_empty1 3 0 _ rfl ⟨up2_same, fun j hj => by omega⟩ (Fr.up (by unfold inT2; omega))
/-- whether route i is a mount of R in a router with a way -/
def wyP (B : Bk) (W : Nat → Option Nat) (R i : Nat) : Bool := thN B i && (decide (mo_ B i = nI R) && (decide (ro_ B i = 0) || (W (ro_ B i)).isSome))
def wy (B : Bk) : Nat → Nat → Option Nat
  | 0 => fun _ => none
  | R + 1 => fun x => if x = R + 1 then fst_ (wyP B (wy B R) (R + 1)) 0 10 else wy B R x
theorem dX5_findWays_0 : decode cX5_findWays 0 = .ok (.iconst 1, 1) := by decide +kernel
theorem dX5_findWays_1 : decode cX5_findWays 1 = .ok (.istore_n 2, 1) := by decide +kernel
theorem dX5_findWays_2 : decode cX5_findWays 2 = .ok (.iload_n 2, 1) := by decide +kernel
theorem dX5_findWays_3 : decode cX5_findWays 3 = .ok (.iconst 3, 1) := by decide +kernel
theorem dX5_findWays_4 : decode cX5_findWays 4 = .ok (.if_icmp .ge 100, 3) := by decide +kernel
theorem dX5_findWays_7 : decode cX5_findWays 7 = .ok (.bipush (-9), 2) := by decide +kernel
theorem dX5_findWays_9 : decode cX5_findWays 9 = .ok (.istore_n 3, 1) := by decide +kernel
theorem dX5_findWays_10 : decode cX5_findWays 10 = .ok (.bipush 9, 2) := by decide +kernel
theorem dX5_findWays_12 : decode cX5_findWays 12 = .ok (.istore 4, 2) := by decide +kernel
theorem dX5_findWays_14 : decode cX5_findWays 14 = .ok (.iload 4, 2) := by decide +kernel
theorem dX5_findWays_16 : decode cX5_findWays 16 = .ok (.ifCond .lt 73, 3) := by decide +kernel
theorem dX5_findWays_19 : decode cX5_findWays 19 = .ok (.aload_n 1, 1) := by decide +kernel
theorem dX5_findWays_20 : decode cX5_findWays 20 = .ok (.iload 4, 2) := by decide +kernel
theorem dX5_findWays_22 : decode cX5_findWays 22 = .ok (.invokevirtual 72, 3) := by decide +kernel
theorem dX5_findWays_25 : decode cX5_findWays 25 = .ok (.astore 5, 2) := by decide +kernel
theorem dX5_findWays_27 : decode cX5_findWays 27 = .ok (.aload_n 1, 1) := by decide +kernel
theorem dX5_findWays_28 : decode cX5_findWays 28 = .ok (.iload 4, 2) := by decide +kernel
theorem dX5_findWays_30 : decode cX5_findWays 30 = .ok (.invokevirtual 68, 3) := by decide +kernel
theorem dX5_findWays_33 : decode cX5_findWays 33 = .ok (.ifCond .eq 16, 3) := by decide +kernel
theorem dX5_findWays_36 : decode cX5_findWays 36 = .ok (.aload 5, 2) := by decide +kernel
theorem dX5_findWays_38 : decode cX5_findWays 38 = .ok (.getfield 105, 3) := by decide +kernel
theorem dX5_findWays_41 : decode cX5_findWays 41 = .ok (.iload_n 2, 1) := by decide +kernel
theorem dX5_findWays_42 : decode cX5_findWays 42 = .ok (.if_icmp .ne 7, 3) := by decide +kernel
theorem dX5_findWays_45 : decode cX5_findWays 45 = .ok (.iconst 1, 1) := by decide +kernel
theorem dX5_findWays_46 : decode cX5_findWays 46 = .ok (.goto 4, 3) := by decide +kernel
theorem dX5_findWays_49 : decode cX5_findWays 49 = .ok (.iconst 0, 1) := by decide +kernel
theorem dX5_findWays_50 : decode cX5_findWays 50 = .ok (.istore 6, 2) := by decide +kernel
theorem dX5_findWays_52 : decode cX5_findWays 52 = .ok (.iload 6, 2) := by decide +kernel
theorem dX5_findWays_54 : decode cX5_findWays 54 = .ok (.ifCond .eq 29, 3) := by decide +kernel
theorem dX5_findWays_57 : decode cX5_findWays 57 = .ok (.aload 5, 2) := by decide +kernel
theorem dX5_findWays_59 : decode cX5_findWays 59 = .ok (.getfield 84, 3) := by decide +kernel
theorem dX5_findWays_62 : decode cX5_findWays 62 = .ok (.ifCond .eq 18, 3) := by decide +kernel
theorem dX5_findWays_65 : decode cX5_findWays 65 = .ok (.aload_n 0, 1) := by decide +kernel
theorem dX5_findWays_66 : decode cX5_findWays 66 = .ok (.getfield 42, 3) := by decide +kernel
theorem dX5_findWays_69 : decode cX5_findWays 69 = .ok (.aload 5, 2) := by decide +kernel
theorem dX5_findWays_71 : decode cX5_findWays 71 = .ok (.getfield 84, 3) := by decide +kernel
theorem dX5_findWays_74 : decode cX5_findWays 74 = .ok (.invokestatic 63, 3) := by decide +kernel
theorem dX5_findWays_77 : decode cX5_findWays 77 = .ok (.ifCond .lt 6, 3) := by decide +kernel
theorem dX5_findWays_80 : decode cX5_findWays 80 = .ok (.iload 4, 2) := by decide +kernel
theorem dX5_findWays_82 : decode cX5_findWays 82 = .ok (.istore_n 3, 1) := by decide +kernel
theorem dX5_findWays_83 : decode cX5_findWays 83 = .ok (.iinc 4 (-1), 3) := by decide +kernel
theorem dX5_findWays_86 : decode cX5_findWays 86 = .ok (.goto (-72), 3) := by decide +kernel
theorem dX5_findWays_89 : decode cX5_findWays 89 = .ok (.aload_n 0, 1) := by decide +kernel
theorem dX5_findWays_90 : decode cX5_findWays 90 = .ok (.getfield 42, 3) := by decide +kernel
theorem dX5_findWays_93 : decode cX5_findWays 93 = .ok (.iload_n 2, 1) := by decide +kernel
theorem dX5_findWays_94 : decode cX5_findWays 94 = .ok (.iload_n 3, 1) := by decide +kernel
theorem dX5_findWays_95 : decode cX5_findWays 95 = .ok (.invokestatic 56, 3) := by decide +kernel
theorem dX5_findWays_98 : decode cX5_findWays 98 = .ok (.iinc 2 1, 3) := by decide +kernel
theorem dX5_findWays_101 : decode cX5_findWays 101 = .ok (.goto (-99), 3) := by decide +kernel
theorem dX5_findWays_104 : decode cX5_findWays 104 = .ok (.return_, 1) := by decide +kernel
theorem X_fg7 {d k pc : Nat} {j : MI} {a b c d0 e o o2 : Option Value} {st : List Value} {σ : Wd} {Q : List Value → Wd → Prop} (hX : X d k j pc [a, b, c, d0, e, none, none] st σ Q) : X d k j pc [a, b, c, d0, e, o, o2] st σ Q := by
  refine X_forget (fun i v h => ?_) hX
  match i, h with
  | 0, h => exact h
  | 1, h => exact h
  | 2, h => exact h
  | 3, h => exact h
  | 4, h => exact h
  | 5, h => cases h
  | 6, h => cases h
  | n + 7, h => cases h
theorem X_fg75 {d k pc : Nat} {j : MI} {a b c o1 o2 o3 o4 : Option Value} {st : List Value} {σ : Wd} {Q : List Value → Wd → Prop} (hX : X d k j pc [a, b, c, none, none, none, none] st σ Q) : X d k j pc [a, b, c, o1, o2, o3, o4] st σ Q := by
  refine X_forget (fun i v h => ?_) hX
  match i, h with
  | 0, h => exact h
  | 1, h => exact h
  | 2, h => exact h
  | 3, h => cases h
  | 4, h => cases h
  | 5, h => cases h
  | 6, h => cases h
  | n + 7, h => cases h
theorem opI_small {o : Option Nat} {b : Nat} (h : ∀ k, o = some k → k < b) (hb : b ≤ 2147483648) : (opI o < 0) ↔ o = none := by
  cases o with
  | none => exact ⟨fun _ => rfl, fun _ => by decide⟩
  | some k => exact ⟨fun q => absurd q (nI_neg (by have := h k rfl; omega)), fun q => by cases q⟩
theorem wy_lt {B : Bk} : ∀ (R x k : Nat), wy B R x = some k → k < 10 := by
  intro R
  induction R with
  | zero => intro x k h; cases h
  | succ R ih =>
    intro x k h
    unfold wy at h
    split at h
    · have := (fst_some h).2.1; omega
    · exact ih x k h
theorem X_fg47 {d k pc : Nat} {j : MI} {a b c d0 o1 o2 o3 : Option Value} {st : List Value} {σ : Wd} {Q : List Value → Wd → Prop} (hX : X d k j pc [a, b, c, d0, none, none, none] st σ Q) : X d k j pc [a, b, c, d0, o1, o2, o3] st σ Q := by
  refine X_forget (fun i v h => ?_) hX
  match i, h with
  | 0, h => exact h
  | 1, h => exact h
  | 2, h => exact h
  | 3, h => exact h
  | 4, h => cases h
  | 5, h => cases h
  | 6, h => cases h
  | n + 7, h => cases h
theorem lp_ways_in {B : Bk} {D : Mem} (hE : Enc D 1 B) (hV : VB B) {R : Nat} {D1 : Mem} {Q : List Value → Wd → Prop} (hR : R < 2) (hf : Fr (fun b => b = 91) D D1) (hW : ∀ x, x < 3 → D1 91 x = opI (wy B R x)) (hk : X 3 138 j_X5_findWays 89 [some (.ref 80), some (.ref 1), some (.int (nI (R + 1))), some (.int (opI (fst_ (wyP B (wy B R) (R + 1)) 0 10))), none, none, none] [] (138, P0, D1) Q) : ∀ (m : Nat) (a : Nat), a + m = 10 → m ≤ 10 → X 3 138 j_X5_findWays 14 [some (.ref 80), some (.ref 1), some (.int (nI (R + 1))), some (.int (opI (fst_ (wyP B (wy B R) (R + 1)) m a))), some (.int (nI m - 1)), none, none] [] (138, P0, D1) (Q) := by
  intro m
  induction m with
  | zero =>
    intro a ha hm
    have hly : (lay 82).2 = 43 ∧ (lay 83).2 = 43 ∧ (lay 84).2 = 43 ∧ (lay 85).2 = 43 ∧ (lay 86).2 = 43 ∧ (lay 81).2 = 301 ∧ (lay 87).2 = 10 ∧ (lay 88).2 = 4 ∧ (lay 89).2 = 3 ∧ (lay 90).2 = 3 ∧ (lay 91).2 = 3 := by decide
    obtain ⟨⟨b1, b2⟩, ⟨b3, b4, b5, b6⟩, ⟨b7, b8, b9⟩, ⟨c1, c2, c3⟩, ⟨c4, c5, c6⟩, c7, c8⟩ := isB.facts (b := 1) (Or.inl rfl)
    have h3 := hE.2.2.1
    have hE1 : Enc D1 1 B := hE.fr (fun x hx => hf x (by unfold inB at hx; omega))
    refine X_iload (nx := 16) dX5_findWays_14 rfl rfl ?_
    refine X_if_lt (tgt := 89) (nx := 19) dX5_findWays_16 rfl rfl (fun h16 => ?_) (fun h16 => ?_)
    · skip
      rw [show a = 10 by omega]
      refine X_fg47 ?_
      exact hk
    · exact absurd h16 (fun q => q m1_lt)
  | succ m ih =>
    intro a ha hm
    have hly : (lay 82).2 = 43 ∧ (lay 83).2 = 43 ∧ (lay 84).2 = 43 ∧ (lay 85).2 = 43 ∧ (lay 86).2 = 43 ∧ (lay 81).2 = 301 ∧ (lay 87).2 = 10 ∧ (lay 88).2 = 4 ∧ (lay 89).2 = 3 ∧ (lay 90).2 = 3 ∧ (lay 91).2 = 3 := by decide
    obtain ⟨⟨b1, b2⟩, ⟨b3, b4, b5, b6⟩, ⟨b7, b8, b9⟩, ⟨c1, c2, c3⟩, ⟨c4, c5, c6⟩, c7, c8⟩ := isB.facts (b := 1) (Or.inl rfl)
    have h3 := hE.2.2.1
    have hE1 : Enc D1 1 B := hE.fr (fun x hx => hf x (by unfold inB at hx; omega))
    refine X_iload (nx := 16) dX5_findWays_14 rfl rfl ?_
    refine X_if_lt (tgt := 89) (nx := 19) dX5_findWays_16 rfl rfl (fun h16 => ?_) (fun h16 => ?_)
    · exact absurd h16 (by rw [sub1]; exact nI_neg (by omega))
    · skip
      refine X_aload_n (nx := 20) dX5_findWays_19 rfl rfl rfl ?_
      refine X_iload (nx := 22) dX5_findWays_20 rfl rfl ?_
      refine Y_Vr1 (nx := 25) dX5_findWays_22 rfl ml_RX5_72 kj_X0_at kv_X0_at (sp_X0_at (b := 1) (Or.inl rfl) (i := m) (sub1 m) (by omega)) (by first | assumption | rfl | decide | omega) (by first | assumption | rfl | decide | omega) (by decide) rfl (by first | decide | omega) (by exact Nat.le_of_ble_eq_true rfl) ?_
      obtain ⟨r1, r2, r3, r4, r5, r6⟩ := (c8 m (by omega)).2.facts
      refine X_astore (i := 5) (nx := 27) dX5_findWays_25 rfl (by decide) rfl (st_s (st_s (st_s (st_s (st_s (st_0)))))) ?_
      refine X_aload_n (nx := 28) dX5_findWays_27 rfl rfl rfl ?_
      refine X_iload (nx := 30) dX5_findWays_28 rfl rfl ?_
      refine Y_Vi1 (nx := 33) dX5_findWays_30 rfl ml_RX5_68 kj_X0_isThere kv_X0_isThere (sp_X0_isThere (b := 1) (Or.inl rfl) hE1) (by first | assumption | rfl | decide | omega) (by first | assumption | rfl | decide | omega) (by decide) rfl (by first | decide | omega) (by exact Nat.le_of_ble_eq_true rfl) ?_
      refine X_if_eq (tgt := 49) (nx := 36) dX5_findWays_33 rfl rfl (fun h33 => ?_) (fun h33 => ?_)
      · skip
        rw [sub1, isTh_n h3 (by omega), b2i_f] at h33
        have hP : wyP B (wy B R) (R + 1) m = false := by unfold wyP; rw [h33]; rfl
        refine X_iconst (v := 0) (nx := 50) dX5_findWays_49 rfl rfl ?_
        refine X_istore (i := 6) (nx := 52) dX5_findWays_50 rfl (by decide) rfl (st_s (st_s (st_s (st_s (st_s (st_s (st_0))))))) ?_
        refine X_iload (nx := 54) dX5_findWays_52 rfl rfl ?_
        refine X_if_eq (tgt := 83) (nx := 57) dX5_findWays_54 rfl rfl (fun h54 => ?_) (fun h54 => ?_)
        · skip
          refine X_iinc (nx := 86) dX5_findWays_83 rfl (by decide) rfl (show nI (m + 1) - 1 + Int32.ofInt (-1) = nI m - 1 by rw [sub1, dec1]) rfl (st_s (st_s (st_s (st_s (st_0))))) ?_
          refine X_goto (tgt := 14) dX5_findWays_86 rfl ?_
          refine X_fg7 ?_
          first
            | (have e1 : fst_ (wyP B (wy B R) (R + 1)) m (a + 1) = fst_ (wyP B (wy B R) (R + 1)) (m + 1) a := fst_step hP
               have e2 := ih (a + 1) (by omega) (by omega)
               rw [e1] at e2
               exact e2)
            | (have e1 : fst_ (wyP B (wy B R) (R + 1)) m (a + 1) = some m := fst_hit hP
               have e2 := ih (a + 1) (by omega) (by omega)
               rw [e1] at e2
               have e3 : nI (m + 1) - 1 = opI (some m) := sub1 m
               rw [e3]
               exact e2)
        · exact absurd h54 (by decide)
      · skip
        rw [sub1, isTh_n h3 (by omega), b2i_t] at h33
        have hmc : m < cm_ B := by unfold thN at h33; simp only [Bool.and_eq_true, decide_eq_true_eq] at h33; exact h33.1
        obtain ⟨x1, x2, x3, x4, x5⟩ := hE1.2.2.2 m hmc
        have hro := (hV.2.2 m hmc).1
        refine X_aload (nx := 38) dX5_findWays_36 rfl rfl ?_
        refine M_getI (nx := 41) dX5_findWays_38 rfl fl_RX5_105 rfl (by first | assumption | rfl | decide | omega) (by first | assumption | rfl | decide | omega) ?_
        refine X_top (x4) ?_
        refine X_iload_n (nx := 42) dX5_findWays_41 rfl rfl rfl ?_
        refine X_icmp_ne (tgt := 49) (nx := 45) dX5_findWays_42 rfl rfl (fun h42 => ?_) (fun h42 => ?_)
        · skip
          have hP : wyP B (wy B R) (R + 1) m = false := by unfold wyP; rw [decide_eq_false h42]; simp
          refine X_iconst (v := 0) (nx := 50) dX5_findWays_49 rfl rfl ?_
          refine X_istore (i := 6) (nx := 52) dX5_findWays_50 rfl (by decide) rfl (st_s (st_s (st_s (st_s (st_s (st_s (st_0))))))) ?_
          refine X_iload (nx := 54) dX5_findWays_52 rfl rfl ?_
          refine X_if_eq (tgt := 83) (nx := 57) dX5_findWays_54 rfl rfl (fun h54 => ?_) (fun h54 => ?_)
          · skip
            refine X_iinc (nx := 86) dX5_findWays_83 rfl (by decide) rfl (show nI (m + 1) - 1 + Int32.ofInt (-1) = nI m - 1 by rw [sub1, dec1]) rfl (st_s (st_s (st_s (st_s (st_0))))) ?_
            refine X_goto (tgt := 14) dX5_findWays_86 rfl ?_
            refine X_fg7 ?_
            first
              | (have e1 : fst_ (wyP B (wy B R) (R + 1)) m (a + 1) = fst_ (wyP B (wy B R) (R + 1)) (m + 1) a := fst_step hP
                 have e2 := ih (a + 1) (by omega) (by omega)
                 rw [e1] at e2
                 exact e2)
              | (have e1 : fst_ (wyP B (wy B R) (R + 1)) m (a + 1) = some m := fst_hit hP
                 have e2 := ih (a + 1) (by omega) (by omega)
                 rw [e1] at e2
                 have e3 : nI (m + 1) - 1 = opI (some m) := sub1 m
                 rw [e3]
                 exact e2)
          · exact absurd h54 (by decide)
        · skip
          refine X_iconst (v := 1) (nx := 46) dX5_findWays_45 rfl rfl ?_
          refine X_goto (tgt := 50) dX5_findWays_46 rfl ?_
          refine X_istore (i := 6) (nx := 52) dX5_findWays_50 rfl (by decide) rfl (st_s (st_s (st_s (st_s (st_s (st_s (st_0))))))) ?_
          refine X_iload (nx := 54) dX5_findWays_52 rfl rfl ?_
          refine X_if_eq (tgt := 83) (nx := 57) dX5_findWays_54 rfl rfl (fun h54 => ?_) (fun h54 => ?_)
          · exact absurd h54 (by decide)
          · skip
            refine X_aload (nx := 59) dX5_findWays_57 rfl rfl ?_
            refine M_getI (nx := 62) dX5_findWays_59 rfl fl_RX5_84 rfl (by first | assumption | rfl | decide | omega) (by first | assumption | rfl | decide | omega) ?_
            refine X_top (x2) ?_
            refine X_if_eq (tgt := 80) (nx := 65) dX5_findWays_62 rfl rfl (fun h62 => ?_) (fun h62 => ?_)
            · skip
              rw [nI_0' (by omega)] at h62
              have hP : wyP B (wy B R) (R + 1) m = true := by unfold wyP; rw [h33, decide_eq_true h42, decide_eq_true h62]; rfl
              refine X_iload (nx := 82) dX5_findWays_80 rfl rfl ?_
              refine X_istore_n (i := 3) (nx := 83) dX5_findWays_82 rfl rfl (by decide) rfl (st_s (st_s (st_s (st_0)))) ?_
              refine X_iinc (nx := 86) dX5_findWays_83 rfl (by decide) rfl (show nI (m + 1) - 1 + Int32.ofInt (-1) = nI m - 1 by rw [sub1, dec1]) rfl (st_s (st_s (st_s (st_s (st_0))))) ?_
              refine X_goto (tgt := 14) dX5_findWays_86 rfl ?_
              refine X_fg7 ?_
              first
                | (have e1 : fst_ (wyP B (wy B R) (R + 1)) m (a + 1) = fst_ (wyP B (wy B R) (R + 1)) (m + 1) a := fst_step hP
                   have e2 := ih (a + 1) (by omega) (by omega)
                   rw [e1] at e2
                   exact e2)
                | (have e1 : fst_ (wyP B (wy B R) (R + 1)) m (a + 1) = some m := fst_hit hP
                   have e2 := ih (a + 1) (by omega) (by omega)
                   rw [e1] at e2
                   have e3 : nI (m + 1) - 1 = opI (some m) := sub1 m
                   rw [e3]
                   exact e2)
            · skip
              rw [nI_0' (by omega)] at h62
              refine X_aload_n (nx := 66) dX5_findWays_65 rfl rfl rfl ?_
              refine M_getP (nx := 69) dX5_findWays_66 rfl fl_RX5_42 rfl (by first | assumption | rfl | decide | omega) (by first | assumption | rfl | decide | omega) (by first | assumption | rfl | decide | omega) ?_
              refine X_aload (nx := 71) dX5_findWays_69 rfl rfl ?_
              refine M_getI (nx := 74) dX5_findWays_71 rfl fl_RX5_84 rfl (by first | assumption | rfl | decide | omega) (by first | assumption | rfl | decide | omega) ?_
              refine X_top (x2) ?_
              refine Y_Si2 (nx := 77) dX5_findWays_74 rfl ml_RX5_63 kj_X7_numberAt ks_X7_numberAt (sp_X7_numberAt (i := ro_ B m) (by decide) (by decide) rfl (by omega)) (by first | decide | omega) (by exact Nat.le_of_ble_eq_true rfl) ?_
              refine X_top (hW _ hro) ?_
              refine X_if_lt (tgt := 83) (nx := 80) dX5_findWays_77 rfl rfl (fun h77 => ?_) (fun h77 => ?_)
              · skip
                have hwn : wy B R (ro_ B m) = none := (opI_small (fun k hk => wy_lt R _ k hk) (by omega)).mp h77
                have hP : wyP B (wy B R) (R + 1) m = false := by unfold wyP; rw [decide_eq_false h62, hwn]; simp
                refine X_iinc (nx := 86) dX5_findWays_83 rfl (by decide) rfl (show nI (m + 1) - 1 + Int32.ofInt (-1) = nI m - 1 by rw [sub1, dec1]) rfl (st_s (st_s (st_s (st_s (st_0))))) ?_
                refine X_goto (tgt := 14) dX5_findWays_86 rfl ?_
                refine X_fg7 ?_
                first
                  | (have e1 : fst_ (wyP B (wy B R) (R + 1)) m (a + 1) = fst_ (wyP B (wy B R) (R + 1)) (m + 1) a := fst_step hP
                     have e2 := ih (a + 1) (by omega) (by omega)
                     rw [e1] at e2
                     exact e2)
                  | (have e1 : fst_ (wyP B (wy B R) (R + 1)) m (a + 1) = some m := fst_hit hP
                     have e2 := ih (a + 1) (by omega) (by omega)
                     rw [e1] at e2
                     have e3 : nI (m + 1) - 1 = opI (some m) := sub1 m
                     rw [e3]
                     exact e2)
              · skip
                have hws : (wy B R (ro_ B m)).isSome = true := opI_ge h77
                have hP : wyP B (wy B R) (R + 1) m = true := by unfold wyP; rw [h33, decide_eq_true h42, hws]; simp
                refine X_iload (nx := 82) dX5_findWays_80 rfl rfl ?_
                refine X_istore_n (i := 3) (nx := 83) dX5_findWays_82 rfl rfl (by decide) rfl (st_s (st_s (st_s (st_0)))) ?_
                refine X_iinc (nx := 86) dX5_findWays_83 rfl (by decide) rfl (show nI (m + 1) - 1 + Int32.ofInt (-1) = nI m - 1 by rw [sub1, dec1]) rfl (st_s (st_s (st_s (st_s (st_0))))) ?_
                refine X_goto (tgt := 14) dX5_findWays_86 rfl ?_
                refine X_fg7 ?_
                first
                  | (have e1 : fst_ (wyP B (wy B R) (R + 1)) m (a + 1) = fst_ (wyP B (wy B R) (R + 1)) (m + 1) a := fst_step hP
                     have e2 := ih (a + 1) (by omega) (by omega)
                     rw [e1] at e2
                     exact e2)
                  | (have e1 : fst_ (wyP B (wy B R) (R + 1)) m (a + 1) = some m := fst_hit hP
                     have e2 := ih (a + 1) (by omega) (by omega)
                     rw [e1] at e2
                     have e3 : nI (m + 1) - 1 = opI (some m) := sub1 m
                     rw [e3]
                     exact e2)
theorem lp_ways_out {B : Bk} {D : Mem} (hE : Enc D 1 B) (hV : VB B) : ∀ (m : Nat) (R : Nat) (D1 : Mem), R + m = 2 → Fr (fun b => b = 91) D D1 → (∀ x, x < 3 → D1 91 x = opI (wy B R x)) → X 3 138 j_X5_findWays 2 [some (.ref 80), some (.ref 1), some (.int (nI (R + 1))), none, none, none, none] [] (138, P0, D1) (fun x σ => ∃ D' : Mem, x = [] ∧ σ = wd D' ∧ (∀ x, x < 3 → D' 91 x = opI (wy B 2 x)) ∧ Fr (fun b => b = 91) D D') := by
  intro m
  induction m with
  | zero =>
    intro R D1 hR hf hW
    have hly : (lay 82).2 = 43 ∧ (lay 83).2 = 43 ∧ (lay 84).2 = 43 ∧ (lay 85).2 = 43 ∧ (lay 86).2 = 43 ∧ (lay 81).2 = 301 ∧ (lay 87).2 = 10 ∧ (lay 88).2 = 4 ∧ (lay 89).2 = 3 ∧ (lay 90).2 = 3 ∧ (lay 91).2 = 3 := by decide
    obtain ⟨⟨b1, b2⟩, ⟨b3, b4, b5, b6⟩, ⟨b7, b8, b9⟩, ⟨c1, c2, c3⟩, ⟨c4, c5, c6⟩, c7, c8⟩ := isB.facts (b := 1) (Or.inl rfl)
    refine X_iload_n (nx := 3) dX5_findWays_2 rfl rfl rfl ?_
    refine X_iconst (v := nI 3) (nx := 4) dX5_findWays_3 rfl rfl ?_
    refine X_icmp_ge (tgt := 104) (nx := 7) dX5_findWays_4 rfl rfl (fun h4 => ?_) (fun h4 => ?_)
    · skip
      exact Z_retv dX5_findWays_104 rfl ⟨by rw [show R = 2 by omega] at hW; exact hW, hf⟩
    · exact absurd h4 (fun q => q (nI_le (by omega) (by omega)))
  | succ m ih =>
    intro R D1 hR hf hW
    have hly : (lay 82).2 = 43 ∧ (lay 83).2 = 43 ∧ (lay 84).2 = 43 ∧ (lay 85).2 = 43 ∧ (lay 86).2 = 43 ∧ (lay 81).2 = 301 ∧ (lay 87).2 = 10 ∧ (lay 88).2 = 4 ∧ (lay 89).2 = 3 ∧ (lay 90).2 = 3 ∧ (lay 91).2 = 3 := by decide
    obtain ⟨⟨b1, b2⟩, ⟨b3, b4, b5, b6⟩, ⟨b7, b8, b9⟩, ⟨c1, c2, c3⟩, ⟨c4, c5, c6⟩, c7, c8⟩ := isB.facts (b := 1) (Or.inl rfl)
    refine X_iload_n (nx := 3) dX5_findWays_2 rfl rfl rfl ?_
    refine X_iconst (v := nI 3) (nx := 4) dX5_findWays_3 rfl rfl ?_
    refine X_icmp_ge (tgt := 104) (nx := 7) dX5_findWays_4 rfl rfl (fun h4 => ?_) (fun h4 => ?_)
    · exact absurd h4 (nI_ge (by omega) (by omega))
    · skip
      refine X_bipush (v := -9) (nx := 9) dX5_findWays_7 rfl rfl ?_
      refine X_istore_n (i := 3) (nx := 10) dX5_findWays_9 rfl rfl (by decide) rfl (st_s (st_s (st_s (st_0)))) ?_
      refine X_bipush (v := 9) (nx := 12) dX5_findWays_10 rfl rfl ?_
      refine X_istore (i := 4) (nx := 14) dX5_findWays_12 rfl (by decide) rfl (st_s (st_s (st_s (st_s (st_0))))) ?_
      refine lp_ways_in hE hV (by omega) hf hW ?_ 10 0 rfl (Nat.le_refl _)
      refine X_aload_n (nx := 90) dX5_findWays_89 rfl rfl rfl ?_
      refine M_getP (nx := 93) dX5_findWays_90 rfl fl_RX5_42 rfl (by first | assumption | rfl | decide | omega) (by first | assumption | rfl | decide | omega) (by first | assumption | rfl | decide | omega) ?_
      refine X_iload_n (nx := 94) dX5_findWays_93 rfl rfl rfl ?_
      refine X_iload_n (nx := 95) dX5_findWays_94 rfl rfl rfl ?_
      refine Y_Sv3 (nx := 98) dX5_findWays_95 rfl ml_RX5_56 kj_X7_put ks_X7_put (sp_X7_put (i := R + 1) (by decide) (by decide) rfl (by omega)) (by first | decide | omega) (by exact Nat.le_of_ble_eq_true rfl) ?_
      refine X_iinc (nx := 101) dX5_findWays_98 rfl (by decide) rfl (by first | exact ii1 _ | rfl) rfl (st_s (st_s (st_0))) ?_
      refine X_goto (tgt := 2) dX5_findWays_101 rfl ?_
      refine X_fg75 ?_
      refine ih (R + 1) _ (by omega) (hf.tr (Fr.up rfl)) (fun x hx => ?_)
      show _ = opI (if x = R + 1 then fst_ (wyP B (wy B R) (R + 1)) 0 10 else wy B R x)
      by_cases e : x = R + 1
      · subst e; rw [if_pos rfl]; exact up2_same
      · rw [if_neg e, up2_other (by omega)]; exact hW x hx
theorem sp_X5_findWays {B : Bk} {D : Mem} (hE : Enc D 1 B) (hV : VB B) (h9 : ∀ x, x < 3 → D 91 x = -9) : Rvx 3 j_X5_findWays [.ref 80, .ref 1] D (fun D' => (∀ x, x < 3 → D' 91 x = opI (wy B 2 x)) ∧ Fr (fun b => b = 91) D D') := by
  refine E.start 5 (ls := [some (.ref 80), some (.ref 1), none, none, none, none, none]) (by decide +kernel) (Nat.le_of_ble_eq_true rfl) rfl (Nat.le_refl _) (Nat.le_refl _) ?_
  refine X_iconst (v := 1) (nx := 1) dX5_findWays_0 rfl rfl ?_
  refine X_istore_n (i := 2) (nx := 2) dX5_findWays_1 rfl rfl (by decide) rfl (st_s (st_s (st_0))) ?_
  exact lp_ways_out hE hV 2 0 D rfl Fr.rf (fun x hx => h9 x hx)
end
section
/-! THE TRIE AS IT IS GROWN FROM A BOOK -/
def nlG (B : Bk) : Nat → List Nd
  | 0 => roots
  | i + 1 => if thN B i = true then adP (nlG B i) (ro_ B i) (es_ B i) (es_ B i).length else nlG B i
def stg (F : Nd → Nat → Bool) (i : Nat) : Nd → Nat → Bool := fun q r => decide (r < i) && F q r
theorem Enc.frT2 {D D' : Mem} {B : Bk} (h : Enc D 1 B) (hf : Fr inT2 D D') : Enc D' 1 B := h.fr (fun x hx => hf x (by unfold inB at hx; unfold inT2; omega))
def TRI (D : Mem) (B : Bk) : Prop := TE D B (nlG B 10) (PSf B) (ENf B) (RSf B) (MNf B) (SVf B) (fun r => thN B r && mtB B r) ∧ (∀ i, i < 3 → D 89 i = nI (kd_ B i) ∧ D 90 i = nI (fg_ B i)) ∧ ∀ x, x < 3 → D 91 x = opI (wy B 2 x)
theorem nlG_len {B : Bk} (hV : VB B) : ∀ i, (nlG B i).length ≤ 3 + 4 * i := by
  intro i
  induction i with
  | zero => exact Nat.le_refl _
  | succ i ih =>
    unfold nlG
    split
    · next h =>
      have hc : i < cm_ B := by unfold thN at h; simp only [Bool.and_eq_true, decide_eq_true_eq] at h; exact h.1
      have h1 := (adP_len (nlG B i) (ro_ B i) (es_ B i) (es_ B i).length).1
      have h2 := es_len B i
      have h3 := pl_le (sg_ B i)
      have h4 := (hV.2.2 i hc).2.1.1
      omega
    · omega
theorem stg_s {F : Nd → Nat → Bool} {i : Nat} (q : Nd) (r : Nat) : stg F (i + 1) q r = adF (stg F i) F i q r := by
  unfold adF stg
  by_cases hr : r = i
  · subst hr
    rw [decide_eq_true (show r < r + 1 by omega), decide_eq_false (show ¬ r < r by omega), decide_eq_true rfl]; simp
  · rw [decide_eq_false hr, show decide (r < i + 1) = decide (r < i) from decide_eq_decide.mpr (by omega)]; simp
theorem stg_no {F : Nd → Nat → Bool} {i : Nat} (hF : ∀ q, F q i = false) (q : Nd) (r : Nat) : stg F (i + 1) q r = stg F i q r := by
  unfold stg
  by_cases hr : r = i
  · subst hr; rw [hF]; simp
  · rw [show decide (r < i + 1) = decide (r < i) from decide_eq_decide.mpr (by omega)]
def TEs (D : Mem) (B : Bk) (i : Nat) : Prop := TE D B (nlG B i) (stg (PSf B) i) (stg (ENf B) i) (stg (RSf B) i) (stg (MNf B) i) (fun v r => decide (r < i) && SVf B v r) (fun r => decide (r < i) && (thN B r && mtB B r))
theorem TEs_s {D : Mem} {B : Bk} {i : Nat} (ht : thN B i = true) (h : TEi D B (adP (nlG B i) (ro_ B i) (es_ B i) (es_ B i).length) (stg (PSf B) i) (stg (ENf B) i) (stg (RSf B) i) (stg (MNf B) i) (fun v r => decide (r < i) && SVf B v r) (fun r => decide (r < i) && (thN B r && mtB B r)) i) : TEs D B (i + 1) := by
  unfold TEs
  have e : nlG B (i + 1) = adP (nlG B i) (ro_ B i) (es_ B i) (es_ B i).length := if_pos ht
  rw [e]
  refine TE.congr h (fun q r _ => stg_s q r) (fun q r _ => stg_s q r) (fun q r _ => stg_s q r) (fun q r _ => stg_s q r) (fun v r _ => ?_) (fun r _ hr => ?_)
  · exact stg_s (F := fun q r => SVf B q.1 r) (i := i) (v, []) r
  · by_cases hri : r = i
    · subst hri
      simp only [Bool.and_eq_true] at hr
      rw [decide_eq_true rfl, hr.2.2]; simp
    · rw [show decide (r < i + 1) = decide (r < i) from decide_eq_decide.mpr (by omega)] at hr
      show ((decide (r < i) && (thN B r && mtB B r)) || _) = true
      rw [hr]; rfl
theorem TEs_no {D : Mem} {B : Bk} {i : Nat} (ht : thN B i = false) (h : TEs D B i) : TEs D B (i + 1) := by
  unfold TEs
  have e : nlG B (i + 1) = nlG B i := if_neg (by rw [ht]; decide)
  rw [e]
  refine TE.congr h (fun q r _ => stg_no (fun q => by unfold PSf; rw [ht]; rfl) q r) (fun q r _ => stg_no (fun q => by unfold ENf AT_; rw [ht]; rfl) q r) (fun q r _ => stg_no (fun q => by unfold RSf AT_; rw [ht]; rfl) q r) (fun q r _ => stg_no (fun q => by unfold MNf AT_; rw [ht]; rfl) q r) (fun v r _ => ?_) (fun r _ hr => ?_)
  · exact stg_no (F := fun q r => SVf B q.1 r) (i := i) (fun q => by unfold SVf; rw [ht]; rfl) (v, []) r
  · by_cases hri : r = i
    · subst hri; rw [ht] at hr; simp at hr
    · rw [show decide (r < i + 1) = decide (r < i) from decide_eq_decide.mpr (by omega)] at hr
      exact hr
theorem TEs_0 {D : Mem} {B : Bk} (h : TE D B roots ff2 ff2 ff2 ff2 (fun _ _ => false) (fun _ => false)) : TEs D B 0 :=
  TE.congr h (fun _ _ _ => rfl) (fun _ _ _ => rfl) (fun _ _ _ => rfl) (fun _ _ _ => rfl) (fun _ _ _ => rfl) (fun _ _ q => by simp at q)
theorem TEs_10 {D : Mem} {B : Bk} (h : TEs D B 10) : TE D B (nlG B 10) (PSf B) (ENf B) (RSf B) (MNf B) (SVf B) (fun r => thN B r && mtB B r) := by
  have z : ∀ r, r < 10 → decide (r < 10) = true := fun r hr => decide_eq_true hr
  exact TE.congr h (fun q r hr => by unfold stg; rw [z r hr]; rfl) (fun q r hr => by unfold stg; rw [z r hr]; rfl) (fun q r hr => by unfold stg; rw [z r hr]; rfl) (fun q r hr => by unfold stg; rw [z r hr]; rfl) (fun v r hr => by rw [z r hr]; rfl) (fun r hr q => by rw [z r hr]; simpa using q)
/-- TE only looks at these cells -/
theorem TE.fr {D D' : Mem} {B : Bk} {nl : List Nd} {PS EN RS MN : Nd → Nat → Bool} {SV : Nat → Nat → Bool} {MO : Nat → Bool} (h : TE D B nl PS EN RS MN SV MO) (hf : ∀ b, 81 ≤ b → b ≤ 88 → D' b = D b) (h80 : D' 80 11 = D 80 11) : TE D' B nl PS EN RS MN SV MO := by
  obtain ⟨h1, h2, h3, h4, h5, h6⟩ := h
  refine ⟨h80.trans h1, h2, fun j hj => ?_, fun v hv => by rw [hf 88 (by omega) (by omega)]; exact h4 v hv, fun r hr hm => by rw [hf 87 (by omega) (by omega)]; exact h5 r hr hm, h6⟩
  obtain ⟨g1, g2, g3, g4, g5, g6⟩ := h3 j hj
  exact ⟨by rw [hf 82 (by omega) (by omega)]; exact g1, by rw [hf 83 (by omega) (by omega)]; exact g2, by rw [hf 84 (by omega) (by omega)]; exact g3, by rw [hf 85 (by omega) (by omega)]; exact g4, by rw [hf 86 (by omega) (by omega)]; exact g5, fun e he => by rw [hf 81 (by omega) (by omega)]; exact g6 e he⟩
/-- the trie's cells but kinds and figures do not change, these hold what they did -/
theorem TRI.fr {D D' : Mem} {B : Bk} (h : TRI D B) (hf : ∀ b, 80 ≤ b → b ≤ 91 → D' b = D b) : TRI D' B := by
  obtain ⟨h1, h2, h3⟩ := h
  exact ⟨h1.fr (fun b g1 g2 => hf b (by omega) (by omega)) (by rw [hf 80 (by omega) (by omega)]), fun i hi => ⟨by rw [hf 89 (by omega) (by omega)]; exact (h2 i hi).1, by rw [hf 90 (by omega) (by omega)]; exact (h2 i hi).2⟩, fun x hx => by rw [hf 91 (by omega) (by omega)]; exact h3 x hx⟩
theorem dX5_grow_0 : decode cX5_grow 0 = .ok (.aload_n 0, 1) := by decide +kernel
theorem dX5_grow_1 : decode cX5_grow 1 = .ok (.invokevirtual 45, 3) := by decide +kernel
theorem dX5_grow_4 : decode cX5_grow 4 = .ok (.iconst 0, 1) := by decide +kernel
theorem dX5_grow_5 : decode cX5_grow 5 = .ok (.istore_n 2, 1) := by decide +kernel
theorem dX5_grow_6 : decode cX5_grow 6 = .ok (.iload_n 2, 1) := by decide +kernel
theorem dX5_grow_7 : decode cX5_grow 7 = .ok (.iconst 3, 1) := by decide +kernel
theorem dX5_grow_8 : decode cX5_grow 8 = .ok (.if_icmp .ge 41, 3) := by decide +kernel
theorem dX5_grow_11 : decode cX5_grow 11 = .ok (.aload_n 0, 1) := by decide +kernel
theorem dX5_grow_12 : decode cX5_grow 12 = .ok (.getfield 36, 3) := by decide +kernel
theorem dX5_grow_15 : decode cX5_grow 15 = .ok (.iload_n 2, 1) := by decide +kernel
theorem dX5_grow_16 : decode cX5_grow 16 = .ok (.aload_n 1, 1) := by decide +kernel
theorem dX5_grow_17 : decode cX5_grow 17 = .ok (.getfield 60, 3) := by decide +kernel
theorem dX5_grow_20 : decode cX5_grow 20 = .ok (.iload_n 2, 1) := by decide +kernel
theorem dX5_grow_21 : decode cX5_grow 21 = .ok (.invokestatic 63, 3) := by decide +kernel
theorem dX5_grow_24 : decode cX5_grow 24 = .ok (.invokestatic 56, 3) := by decide +kernel
theorem dX5_grow_27 : decode cX5_grow 27 = .ok (.aload_n 0, 1) := by decide +kernel
theorem dX5_grow_28 : decode cX5_grow 28 = .ok (.getfield 39, 3) := by decide +kernel
theorem dX5_grow_31 : decode cX5_grow 31 = .ok (.iload_n 2, 1) := by decide +kernel
theorem dX5_grow_32 : decode cX5_grow 32 = .ok (.aload_n 1, 1) := by decide +kernel
theorem dX5_grow_33 : decode cX5_grow 33 = .ok (.getfield 67, 3) := by decide +kernel
theorem dX5_grow_36 : decode cX5_grow 36 = .ok (.iload_n 2, 1) := by decide +kernel
theorem dX5_grow_37 : decode cX5_grow 37 = .ok (.invokestatic 63, 3) := by decide +kernel
theorem dX5_grow_40 : decode cX5_grow 40 = .ok (.invokestatic 56, 3) := by decide +kernel
theorem dX5_grow_43 : decode cX5_grow 43 = .ok (.iinc 2 1, 3) := by decide +kernel
theorem dX5_grow_46 : decode cX5_grow 46 = .ok (.goto (-40), 3) := by decide +kernel
theorem dX5_grow_49 : decode cX5_grow 49 = .ok (.iconst 0, 1) := by decide +kernel
theorem dX5_grow_50 : decode cX5_grow 50 = .ok (.istore_n 2, 1) := by decide +kernel
theorem dX5_grow_51 : decode cX5_grow 51 = .ok (.iload_n 2, 1) := by decide +kernel
theorem dX5_grow_52 : decode cX5_grow 52 = .ok (.bipush 10, 2) := by decide +kernel
theorem dX5_grow_54 : decode cX5_grow 54 = .ok (.if_icmp .ge 27, 3) := by decide +kernel
theorem dX5_grow_57 : decode cX5_grow 57 = .ok (.aload_n 1, 1) := by decide +kernel
theorem dX5_grow_58 : decode cX5_grow 58 = .ok (.iload_n 2, 1) := by decide +kernel
theorem dX5_grow_59 : decode cX5_grow 59 = .ok (.invokevirtual 68, 3) := by decide +kernel
theorem dX5_grow_62 : decode cX5_grow 62 = .ok (.ifCond .eq 13, 3) := by decide +kernel
theorem dX5_grow_65 : decode cX5_grow 65 = .ok (.aload_n 0, 1) := by decide +kernel
theorem dX5_grow_66 : decode cX5_grow 66 = .ok (.iload_n 2, 1) := by decide +kernel
theorem dX5_grow_67 : decode cX5_grow 67 = .ok (.aload_n 1, 1) := by decide +kernel
theorem dX5_grow_68 : decode cX5_grow 68 = .ok (.iload_n 2, 1) := by decide +kernel
theorem dX5_grow_69 : decode cX5_grow 69 = .ok (.invokevirtual 72, 3) := by decide +kernel
theorem dX5_grow_72 : decode cX5_grow 72 = .ok (.invokevirtual 76, 3) := by decide +kernel
theorem dX5_grow_75 : decode cX5_grow 75 = .ok (.iinc 2 1, 3) := by decide +kernel
theorem dX5_grow_78 : decode cX5_grow 78 = .ok (.goto (-27), 3) := by decide +kernel
theorem dX5_grow_81 : decode cX5_grow 81 = .ok (.aload_n 0, 1) := by decide +kernel
theorem dX5_grow_82 : decode cX5_grow 82 = .ok (.aload_n 1, 1) := by decide +kernel
theorem dX5_grow_83 : decode cX5_grow 83 = .ok (.invokevirtual 80, 3) := by decide +kernel
theorem dX5_grow_86 : decode cX5_grow 86 = .ok (.return_, 1) := by decide +kernel
theorem lp_grow2 {B : Bk} {D : Mem} (hE : Enc D 1 B) (hV : VB B) : ∀ (m : Nat) (i : Nat) (D1 : Mem), i + m = 10 → Fr inT2 D D1 → TEs D1 B i → (∀ x, x < 3 → D1 89 x = nI (kd_ B x) ∧ D1 90 x = nI (fg_ B x)) → (∀ x, x < 3 → D1 91 x = -9) → X 4 138 j_X5_grow 51 [some (.ref 80), some (.ref 1), some (.int (nI i))] [] (138, P0, D1) (fun x σ => ∃ D' : Mem, x = [] ∧ σ = wd D' ∧ TRI D' B ∧ Fr inT2 D D') := by
  intro m
  induction m with
  | zero =>
    intro i D1 hi hf hT hK hW
    have hly : (lay 82).2 = 43 ∧ (lay 83).2 = 43 ∧ (lay 84).2 = 43 ∧ (lay 85).2 = 43 ∧ (lay 86).2 = 43 ∧ (lay 81).2 = 301 ∧ (lay 87).2 = 10 ∧ (lay 88).2 = 4 ∧ (lay 89).2 = 3 ∧ (lay 90).2 = 3 ∧ (lay 91).2 = 3 := by decide
    obtain ⟨⟨b1, b2⟩, ⟨b3, b4, b5, b6⟩, ⟨b7, b8, b9⟩, ⟨c1, c2, c3⟩, ⟨c4, c5, c6⟩, c7, c8⟩ := isB.facts (b := 1) (Or.inl rfl)
    have h3 := hE.2.2.1
    have hE1 := hE.frT2 hf
    refine X_iload_n (nx := 52) dX5_grow_51 rfl rfl rfl ?_
    refine X_bipush (v := nI 10) (nx := 54) dX5_grow_52 rfl rfl ?_
    refine X_icmp_ge (tgt := 81) (nx := 57) dX5_grow_54 rfl rfl (fun h54 => ?_) (fun h54 => ?_)
    · skip
      refine X_aload_n (nx := 82) dX5_grow_81 rfl rfl rfl ?_
      refine X_aload_n (nx := 83) dX5_grow_82 rfl rfl rfl ?_
      refine Z_Vv1 (nx := 86) dX5_grow_83 rfl ml_RX5_80 kj_X5_findWays kv_X5_findWays (sp_X5_findWays hE1 hV hW) (by first | assumption | rfl | decide | omega) (by first | assumption | rfl | decide | omega) (by decide) rfl (by first | decide | omega) (by exact Nat.le_of_ble_eq_true rfl) (fun D83 g83 => ?_)
      exact Z_retv dX5_grow_86 rfl ⟨⟨(TEs_10 (by rw [show i = 10 by omega] at hT; exact hT)).fr (fun b g1 g2 => g83.2 b (by omega)) (by rw [g83.2 80 (by omega)]), fun x hx => ⟨by rw [g83.2 89 (by omega)]; exact (hK x hx).1, by rw [g83.2 90 (by omega)]; exact (hK x hx).2⟩, g83.1⟩, hf.tr (g83.2.mono fun b hb => by unfold inT2; omega)⟩
    · exact absurd h54 (fun q => q (nI_le (by omega) (by omega)))
  | succ m ih =>
    intro i D1 hi hf hT hK hW
    have hly : (lay 82).2 = 43 ∧ (lay 83).2 = 43 ∧ (lay 84).2 = 43 ∧ (lay 85).2 = 43 ∧ (lay 86).2 = 43 ∧ (lay 81).2 = 301 ∧ (lay 87).2 = 10 ∧ (lay 88).2 = 4 ∧ (lay 89).2 = 3 ∧ (lay 90).2 = 3 ∧ (lay 91).2 = 3 := by decide
    obtain ⟨⟨b1, b2⟩, ⟨b3, b4, b5, b6⟩, ⟨b7, b8, b9⟩, ⟨c1, c2, c3⟩, ⟨c4, c5, c6⟩, c7, c8⟩ := isB.facts (b := 1) (Or.inl rfl)
    have h3 := hE.2.2.1
    have hE1 := hE.frT2 hf
    refine X_iload_n (nx := 52) dX5_grow_51 rfl rfl rfl ?_
    refine X_bipush (v := nI 10) (nx := 54) dX5_grow_52 rfl rfl ?_
    refine X_icmp_ge (tgt := 81) (nx := 57) dX5_grow_54 rfl rfl (fun h54 => ?_) (fun h54 => ?_)
    · exact absurd h54 (nI_ge (by omega) (by omega))
    · skip
      refine X_aload_n (nx := 58) dX5_grow_57 rfl rfl rfl ?_
      refine X_iload_n (nx := 59) dX5_grow_58 rfl rfl rfl ?_
      refine Y_Vi1 (nx := 62) dX5_grow_59 rfl ml_RX5_68 kj_X0_isThere kv_X0_isThere (sp_X0_isThere (b := 1) (Or.inl rfl) hE1) (by first | assumption | rfl | decide | omega) (by first | assumption | rfl | decide | omega) (by decide) rfl (by first | decide | omega) (by exact Nat.le_of_ble_eq_true rfl) ?_
      refine X_if_eq (tgt := 75) (nx := 65) dX5_grow_62 rfl rfl (fun h62 => ?_) (fun h62 => ?_)
      · skip
        rw [isTh_n h3 (by omega), b2i_f] at h62
        refine X_iinc (nx := 78) dX5_grow_75 rfl (by decide) rfl (by first | exact ii1 _ | rfl) rfl (st_s (st_s (st_0))) ?_
        refine X_goto (tgt := 51) dX5_grow_78 rfl ?_
        first
          | exact ih (i + 1) _ (by omega) hf (TEs_no h62 hT) hK hW
          | exact ih (i + 1) _ (by omega) (hf.tr (g72.2.mono fun b hb => by unfold inT at hb; unfold inT2; omega)) (TEs_s h62 g72.1) (fun x hx => ⟨by rw [g72.2 89 (by unfold inT; omega)]; exact (hK x hx).1, by rw [g72.2 90 (by unfold inT; omega)]; exact (hK x hx).2⟩) (fun x hx => by rw [g72.2 91 (by unfold inT; omega)]; exact hW x hx)
      · skip
        rw [isTh_n h3 (by omega), b2i_t] at h62
        have hic : i < cm_ B := by unfold thN at h62; simp only [Bool.and_eq_true, decide_eq_true_eq] at h62; exact h62.1
        have hll : (nlG B i).length + (es_ B i).length ≤ 43 := by have h1 := nlG_len hV i; have h2 := es_len B i; have h3 := pl_le (sg_ B i); have h4 := (hV.2.2 i hic).2.1.1; omega
        refine X_aload_n (nx := 66) dX5_grow_65 rfl rfl rfl ?_
        refine X_iload_n (nx := 67) dX5_grow_66 rfl rfl rfl ?_
        refine X_aload_n (nx := 68) dX5_grow_67 rfl rfl rfl ?_
        refine X_iload_n (nx := 69) dX5_grow_68 rfl rfl rfl ?_
        refine Y_Vr1 (nx := 72) dX5_grow_69 rfl ml_RX5_72 kj_X0_at kv_X0_at (sp_X0_at (b := 1) (Or.inl rfl) (i := i) rfl (by omega)) (by first | assumption | rfl | decide | omega) (by first | assumption | rfl | decide | omega) (by decide) rfl (by first | decide | omega) (by exact Nat.le_of_ble_eq_true rfl) ?_
        refine Z_Vv2 (nx := 75) dX5_grow_72 rfl ml_RX5_76 kj_X5_plant kv_X5_plant (sp_X5_plant hE1 hic h62 (hV.2.2 i hic) hll hT rfl rfl) (by first | assumption | rfl | decide | omega) (by first | assumption | rfl | decide | omega) (by decide) rfl (by first | decide | omega) (by exact Nat.le_of_ble_eq_true rfl) (fun D72 g72 => ?_)
        refine X_iinc (nx := 78) dX5_grow_75 rfl (by decide) rfl (by first | exact ii1 _ | rfl) rfl (st_s (st_s (st_0))) ?_
        refine X_goto (tgt := 51) dX5_grow_78 rfl ?_
        first
          | exact ih (i + 1) _ (by omega) hf (TEs_no h62 hT) hK hW
          | exact ih (i + 1) _ (by omega) (hf.tr (g72.2.mono fun b hb => by unfold inT at hb; unfold inT2; omega)) (TEs_s h62 g72.1) (fun x hx => ⟨by rw [g72.2 89 (by unfold inT; omega)]; exact (hK x hx).1, by rw [g72.2 90 (by unfold inT; omega)]; exact (hK x hx).2⟩) (fun x hx => by rw [g72.2 91 (by unfold inT; omega)]; exact hW x hx)
theorem lp_grow1 {B : Bk} {D : Mem} (hE : Enc D 1 B) (hV : VB B) : ∀ (m : Nat) (i : Nat) (D1 : Mem), i + m = 3 → Fr inT2 D D1 → TEs D1 B 0 → (∀ x, x < i → D1 89 x = nI (kd_ B x) ∧ D1 90 x = nI (fg_ B x)) → (∀ x, x < 3 → D1 91 x = -9) → X 4 138 j_X5_grow 6 [some (.ref 80), some (.ref 1), some (.int (nI i))] [] (138, P0, D1) (fun x σ => ∃ D' : Mem, x = [] ∧ σ = wd D' ∧ TRI D' B ∧ Fr inT2 D D') := by
  intro m
  induction m with
  | zero =>
    intro i D1 hi hf hT hK hW
    have hly : (lay 82).2 = 43 ∧ (lay 83).2 = 43 ∧ (lay 84).2 = 43 ∧ (lay 85).2 = 43 ∧ (lay 86).2 = 43 ∧ (lay 81).2 = 301 ∧ (lay 87).2 = 10 ∧ (lay 88).2 = 4 ∧ (lay 89).2 = 3 ∧ (lay 90).2 = 3 ∧ (lay 91).2 = 3 := by decide
    obtain ⟨⟨b1, b2⟩, ⟨b3, b4, b5, b6⟩, ⟨b7, b8, b9⟩, ⟨c1, c2, c3⟩, ⟨c4, c5, c6⟩, c7, c8⟩ := isB.facts (b := 1) (Or.inl rfl)
    have hE1 := hE.frT2 hf
    refine X_iload_n (nx := 7) dX5_grow_6 rfl rfl rfl ?_
    refine X_iconst (v := nI 3) (nx := 8) dX5_grow_7 rfl rfl ?_
    refine X_icmp_ge (tgt := 49) (nx := 11) dX5_grow_8 rfl rfl (fun h8 => ?_) (fun h8 => ?_)
    · skip
      refine X_iconst (v := 0) (nx := 50) dX5_grow_49 rfl rfl ?_
      refine X_istore_n (i := 2) (nx := 51) dX5_grow_50 rfl rfl (by decide) rfl (st_s (st_s (st_0))) ?_
      exact lp_grow2 hE hV 10 0 D1 rfl hf hT (fun x hx => hK x (by omega)) hW
    · exact absurd h8 (fun q => q (nI_le (by omega) (by omega)))
  | succ m ih =>
    intro i D1 hi hf hT hK hW
    have hly : (lay 82).2 = 43 ∧ (lay 83).2 = 43 ∧ (lay 84).2 = 43 ∧ (lay 85).2 = 43 ∧ (lay 86).2 = 43 ∧ (lay 81).2 = 301 ∧ (lay 87).2 = 10 ∧ (lay 88).2 = 4 ∧ (lay 89).2 = 3 ∧ (lay 90).2 = 3 ∧ (lay 91).2 = 3 := by decide
    obtain ⟨⟨b1, b2⟩, ⟨b3, b4, b5, b6⟩, ⟨b7, b8, b9⟩, ⟨c1, c2, c3⟩, ⟨c4, c5, c6⟩, c7, c8⟩ := isB.facts (b := 1) (Or.inl rfl)
    have hE1 := hE.frT2 hf
    refine X_iload_n (nx := 7) dX5_grow_6 rfl rfl rfl ?_
    refine X_iconst (v := nI 3) (nx := 8) dX5_grow_7 rfl rfl ?_
    refine X_icmp_ge (tgt := 49) (nx := 11) dX5_grow_8 rfl rfl (fun h8 => ?_) (fun h8 => ?_)
    · exact absurd h8 (nI_ge (by omega) (by omega))
    · skip
      refine X_aload_n (nx := 12) dX5_grow_11 rfl rfl rfl ?_
      refine M_getP (nx := 15) dX5_grow_12 rfl fl_RX5_36 rfl (by first | assumption | rfl | decide | omega) (by first | assumption | rfl | decide | omega) (by first | assumption | rfl | decide | omega) ?_
      refine X_iload_n (nx := 16) dX5_grow_15 rfl rfl rfl ?_
      refine X_aload_n (nx := 17) dX5_grow_16 rfl rfl rfl ?_
      refine M_getP (nx := 20) dX5_grow_17 rfl fl_RX5_60 rfl (by first | assumption | rfl | decide | omega) (by first | assumption | rfl | decide | omega) (by first | assumption | rfl | decide | omega) ?_
      refine X_iload_n (nx := 21) dX5_grow_20 rfl rfl rfl ?_
      refine Y_Si2 (nx := 24) dX5_grow_21 rfl ml_RX5_63 kj_X7_numberAt ks_X7_numberAt (sp_X7_numberAt (i := i) (by decide) (by decide) rfl (by omega)) (by first | decide | omega) (by exact Nat.le_of_ble_eq_true rfl) ?_
      refine X_top ((hE1.1 i (by omega)).1) ?_
      refine Y_Sv3 (nx := 27) dX5_grow_24 rfl ml_RX5_56 kj_X7_put ks_X7_put (sp_X7_put (i := i) (by decide) (by decide) rfl (by omega)) (by first | decide | omega) (by exact Nat.le_of_ble_eq_true rfl) ?_
      refine X_aload_n (nx := 28) dX5_grow_27 rfl rfl rfl ?_
      refine M_getP (nx := 31) dX5_grow_28 rfl fl_RX5_39 rfl (by first | assumption | rfl | decide | omega) (by first | assumption | rfl | decide | omega) (by first | assumption | rfl | decide | omega) ?_
      refine X_iload_n (nx := 32) dX5_grow_31 rfl rfl rfl ?_
      refine X_aload_n (nx := 33) dX5_grow_32 rfl rfl rfl ?_
      refine M_getP (nx := 36) dX5_grow_33 rfl fl_RX5_67 rfl (by first | assumption | rfl | decide | omega) (by first | assumption | rfl | decide | omega) (by first | assumption | rfl | decide | omega) ?_
      refine X_iload_n (nx := 37) dX5_grow_36 rfl rfl rfl ?_
      refine Y_Si2 (nx := 40) dX5_grow_37 rfl ml_RX5_63 kj_X7_numberAt ks_X7_numberAt (sp_X7_numberAt (i := i) (by decide) (by decide) rfl (by omega)) (by first | decide | omega) (by exact Nat.le_of_ble_eq_true rfl) ?_
      refine X_top ((congrFun (up2_ne (by omega)) _).trans (hE1.1 i (by omega)).2) ?_
      refine Y_Sv3 (nx := 43) dX5_grow_40 rfl ml_RX5_56 kj_X7_put ks_X7_put (sp_X7_put (i := i) (by decide) (by decide) rfl (by omega)) (by first | decide | omega) (by exact Nat.le_of_ble_eq_true rfl) ?_
      refine X_iinc (nx := 46) dX5_grow_43 rfl (by decide) rfl (by first | exact ii1 _ | rfl) rfl (st_s (st_s (st_0))) ?_
      refine X_goto (tgt := 6) dX5_grow_46 rfl ?_
      have hup : ∀ b, b ≠ 89 → b ≠ 90 → up2 (up2 D1 89 i (nI (kd_ B i))) 90 i (nI (fg_ B i)) b = D1 b := fun b h1 h2 => (up2_ne h2).trans (up2_ne h1)
      refine ih (i + 1) _ (by omega) ((hf.tr (Fr.up (by unfold inT2; omega))).tr (Fr.up (by unfold inT2; omega))) (TE.fr hT (fun b g1 g2 => hup b (by omega) (by omega)) (by rw [hup 80 (by omega) (by omega)])) (fun x hx => ?_) (fun x hx => by rw [hup 91 (by omega) (by omega)]; exact hW x hx)
      by_cases e : x = i
      · subst e
        exact ⟨by rw [up2_other (by omega)]; exact up2_same, up2_same⟩
      · exact ⟨by rw [up2_other (by omega), up2_other (by omega)]; exact (hK x (by omega)).1, by rw [up2_other (by omega), up2_other (by omega)]; exact (hK x (by omega)).2⟩
theorem sp_X5_grow {B : Bk} {D : Mem} (hE : Enc D 1 B) (hV : VB B) : Rvx 4 j_X5_grow [.ref 80, .ref 1] D (fun D' => TRI D' B ∧ Fr inT2 D D') := by
  obtain ⟨⟨b1, b2⟩, ⟨b3, b4, b5, b6⟩, ⟨b7, b8, b9⟩, ⟨c1, c2, c3⟩, ⟨c4, c5, c6⟩, c7, c8⟩ := isB.facts (b := 1) (Or.inl rfl)
  refine E.start 1 (ls := [some (.ref 80), some (.ref 1), none]) (by decide +kernel) (Nat.le_of_ble_eq_true rfl) rfl (Nat.le_refl _) (Nat.le_refl _) ?_
  refine X_aload_n (nx := 1) dX5_grow_0 rfl rfl rfl ?_
  refine Z_Vv0 (nx := 4) dX5_grow_1 rfl ml_RX5_45 kj_X5_empty kv_X5_empty (sp_X5_empty (B := B)) (by first | assumption | rfl | decide | omega) (by first | assumption | rfl | decide | omega) (by decide) rfl (by first | decide | omega) (by exact Nat.le_of_ble_eq_true rfl) (fun D1 g1 => ?_)
  refine X_iconst (v := 0) (nx := 5) dX5_grow_4 rfl rfl ?_
  refine X_istore_n (i := 2) (nx := 6) dX5_grow_5 rfl rfl (by decide) rfl (st_s (st_s (st_0))) ?_
  exact lp_grow1 hE hV 3 0 D1 rfl g1.2.2 (TEs_0 g1.1) (fun x hx => by omega) g1.2.1
end
section
/-! THE WALK: strings of the orders, the next node, the end -/
theorem Y_retN {d pc : Nat} {j : MI} {ls : List (Option Value)} {D : Mem} {v v0 : Int32} {D0 : Mem} (hd : decode j.2.1 pc = .ok (.ireturn, 1)) (ht : ∃ ty, j.2.2.2 = some ty ∧ narrow ty (.int v) = .int v) (hv : v = v0) (hD : D = D0) : X d 138 j pc ls [.int v] (138, P0, D) (fun r σ => r = [.int v0] ∧ σ = wd D0) := by
  subst hv; subst hD
  exact X_ret ⟨ht, hd⟩ rfl ⟨rfl, rfl⟩
/-- the steps of an order, told in letters -/
def ordS (i : Nat) : List Nat := [[69, 76, 65, 67, 82, 77], [77, 69, 76, 67, 65, 82, 77], [82, 69, 76, 65, 67, 82, 77], [69, 76, 67, 65, 82, 77]].getD i []
def oi (k : Nat) : Nat := if k = 1 then 0 else if k = 2 then 1 else if k = 3 then 2 else 3
theorem oi_lt (k : Nat) : oi k < 4 := by unfold oi; split <;> (try split) <;> (try split) <;> omega
theorem lenS_o : ∀ i, i < 4 → lenS.getD i 0 = (ordS i).length ∧ (ordS i).length ≤ 7 ∧ 6 ≤ (ordS i).length := by decide
theorem bytS_o : ∀ i, i < 4 → ∀ k, k < 7 → ((bytS.getD i []).getD k 0 &&& 255) = nI ((ordS i).getD k 0) ∧ ((nI ((ordS i).getD k 0)).toUInt32 % 65536).toInt32 = nI ((ordS i).getD k 0) ∧ (ordS i).getD k 0 < 128 := by decide
theorem dJ0_coder_7d493_0 : decode cJ0_coder_7d493 0 = .ok (.getstatic 38, 3) := by decide +kernel
theorem dJ0_coder_7d493_3 : decode cJ0_coder_7d493 3 = .ok (.ifCond .eq 10, 3) := by decide +kernel
theorem dJ0_coder_7d493_6 : decode cJ0_coder_7d493 6 = .ok (.aload_n 0, 1) := by decide +kernel
theorem dJ0_coder_7d493_7 : decode cJ0_coder_7d493 7 = .ok (.getfield 15, 3) := by decide +kernel
theorem dJ0_coder_7d493_10 : decode cJ0_coder_7d493 10 = .ok (.goto 4, 3) := by decide +kernel
theorem dJ0_coder_7d493_13 : decode cJ0_coder_7d493 13 = .ok (.iconst 1, 1) := by decide +kernel
theorem dJ0_coder_7d493_14 : decode cJ0_coder_7d493 14 = .ok (.ireturn, 1) := by decide +kernel
theorem sp_J0_coder_7d493 {i : Nat} {D : Mem} (hi : i < 4) : Ei 1 j_J0_coder_7d493 [.ref (2010 + i)] D (0) (D) := by
  refine E.start 0 (ls := [some (.ref (2010 + i))]) (by decide +kernel) (Nat.le_of_ble_eq_true rfl) rfl (Nat.le_refl _) (Nat.le_refl _) ?_
  refine X_gs_cmp (nx := 3) dJ0_coder_7d493_0 rfl gs_RJ0_38 ?_
  refine X_if_eq (tgt := 13) (nx := 6) dJ0_coder_7d493_3 rfl rfl (fun h3 => ?_) (fun h3 => ?_)
  · exact absurd h3 (by decide)
  · skip
    refine X_aload_n (nx := 7) dJ0_coder_7d493_6 rfl rfl rfl ?_
    refine X_strC (nx := 10) dJ0_coder_7d493_7 rfl (by assumption) gs_RJ0_15 ?_
    refine X_goto (tgt := 14) dJ0_coder_7d493_10 rfl ?_
    exact Y_retN dJ0_coder_7d493_14 ⟨_, rfl, rfl⟩ rfl rfl
theorem dJ0_length_8abf5_0 : decode cJ0_length_8abf5 0 = .ok (.aload_n 0, 1) := by decide +kernel
theorem dJ0_length_8abf5_1 : decode cJ0_length_8abf5 1 = .ok (.getfield 9, 3) := by decide +kernel
theorem dJ0_length_8abf5_4 : decode cJ0_length_8abf5 4 = .ok (.arraylength, 1) := by decide +kernel
theorem dJ0_length_8abf5_5 : decode cJ0_length_8abf5 5 = .ok (.aload_n 0, 1) := by decide +kernel
theorem dJ0_length_8abf5_6 : decode cJ0_length_8abf5 6 = .ok (.invokevirtual 335, 3) := by decide +kernel
theorem dJ0_length_8abf5_9 : decode cJ0_length_8abf5 9 = .ok (.ishr, 1) := by decide +kernel
theorem dJ0_length_8abf5_10 : decode cJ0_length_8abf5 10 = .ok (.ireturn, 1) := by decide +kernel
theorem sp_J0_length_8abf5 {i : Nat} {D : Mem} (hi : i < 4) : Ei 2 j_J0_length_8abf5 [.ref (2010 + i)] D (nI (ordS i).length) (D) := by
  refine E.start 0 (ls := [some (.ref (2010 + i))]) (by decide +kernel) (Nat.le_of_ble_eq_true rfl) rfl (Nat.le_refl _) (Nat.le_refl _) ?_
  refine X_aload_n (nx := 1) dJ0_length_8abf5_0 rfl rfl rfl ?_
  refine X_strV (nx := 4) dJ0_length_8abf5_1 rfl (by assumption) gs_RJ0_9 ?_
  refine X_blen (nx := 5) dJ0_length_8abf5_4 rfl hi ?_
  refine X_aload_n (nx := 6) dJ0_length_8abf5_5 rfl rfl rfl ?_
  refine Y_Ti0 (nx := 9) dJ0_length_8abf5_6 rfl ml_RJ0_335 kj_J0_coder_7d493 kv_J0_coder_7d493 (sp_J0_coder_7d493 hi) (by first | assumption | rfl | decide | omega) rfl (by first | decide | omega) (by exact Nat.le_of_ble_eq_true rfl) ?_
  refine X_ishr (nx := 10) dJ0_length_8abf5_9 rfl ?_
  refine X_top (sb_shr0 _) ?_
  exact Y_reti dJ0_length_8abf5_10 (Or.inl rfl) (congrArg nI (lenS_o i hi).1) rfl
theorem dJ0_isLatin1_aae02_0 : decode cJ0_isLatin1_aae02 0 = .ok (.getstatic 38, 3) := by decide +kernel
theorem dJ0_isLatin1_aae02_3 : decode cJ0_isLatin1_aae02 3 = .ok (.ifCond .eq 14, 3) := by decide +kernel
theorem dJ0_isLatin1_aae02_6 : decode cJ0_isLatin1_aae02 6 = .ok (.aload_n 0, 1) := by decide +kernel
theorem dJ0_isLatin1_aae02_7 : decode cJ0_isLatin1_aae02 7 = .ok (.getfield 15, 3) := by decide +kernel
theorem dJ0_isLatin1_aae02_10 : decode cJ0_isLatin1_aae02 10 = .ok (.ifCond .ne 7, 3) := by decide +kernel
theorem dJ0_isLatin1_aae02_13 : decode cJ0_isLatin1_aae02 13 = .ok (.iconst 1, 1) := by decide +kernel
theorem dJ0_isLatin1_aae02_14 : decode cJ0_isLatin1_aae02 14 = .ok (.goto 4, 3) := by decide +kernel
theorem dJ0_isLatin1_aae02_17 : decode cJ0_isLatin1_aae02 17 = .ok (.iconst 0, 1) := by decide +kernel
theorem dJ0_isLatin1_aae02_18 : decode cJ0_isLatin1_aae02 18 = .ok (.ireturn, 1) := by decide +kernel
theorem sp_J0_isLatin1_aae02 {i : Nat} {D : Mem} (hi : i < 4) : Ei 1 j_J0_isLatin1_aae02 [.ref (2010 + i)] D (1) (D) := by
  refine E.start 0 (ls := [some (.ref (2010 + i))]) (by decide +kernel) (Nat.le_of_ble_eq_true rfl) rfl (Nat.le_refl _) (Nat.le_refl _) ?_
  refine X_gs_cmp (nx := 3) dJ0_isLatin1_aae02_0 rfl gs_RJ0_38 ?_
  refine X_if_eq (tgt := 17) (nx := 6) dJ0_isLatin1_aae02_3 rfl rfl (fun h3 => ?_) (fun h3 => ?_)
  · exact absurd h3 (by decide)
  · skip
    refine X_aload_n (nx := 7) dJ0_isLatin1_aae02_6 rfl rfl rfl ?_
    refine X_strC (nx := 10) dJ0_isLatin1_aae02_7 rfl (by assumption) gs_RJ0_15 ?_
    refine X_if_ne (tgt := 17) (nx := 13) dJ0_isLatin1_aae02_10 rfl rfl (fun h10 => ?_) (fun h10 => ?_)
    · exact absurd h10 (by decide)
    · skip
      refine X_iconst (v := 1) (nx := 14) dJ0_isLatin1_aae02_13 rfl rfl ?_
      refine X_goto (tgt := 18) dJ0_isLatin1_aae02_14 rfl ?_
      exact Y_reti dJ0_isLatin1_aae02_18 (Or.inr ⟨rfl, by first | exact Or.inl rfl | exact Or.inr rfl | exact b2i_01 _ | assumption⟩) rfl rfl
theorem dJ3_checkIndex_8e157_0 : decode cJ3_checkIndex_8e157 0 = .ok (.iload_n 0, 1) := by decide +kernel
theorem dJ3_checkIndex_8e157_1 : decode cJ3_checkIndex_8e157 1 = .ok (.ifCond .lt 8, 3) := by decide +kernel
theorem dJ3_checkIndex_8e157_4 : decode cJ3_checkIndex_8e157 4 = .ok (.iload_n 0, 1) := by decide +kernel
theorem dJ3_checkIndex_8e157_5 : decode cJ3_checkIndex_8e157 5 = .ok (.iload_n 1, 1) := by decide +kernel
theorem dJ3_checkIndex_8e157_6 : decode cJ3_checkIndex_8e157 6 = .ok (.if_icmp .lt 10, 3) := by decide +kernel
theorem dJ3_checkIndex_8e157_9 : decode cJ3_checkIndex_8e157 9 = .ok (.aload_n 2, 1) := by decide +kernel
theorem dJ3_checkIndex_8e157_10 : decode cJ3_checkIndex_8e157 10 = .ok (.iload_n 0, 1) := by decide +kernel
theorem dJ3_checkIndex_8e157_11 : decode cJ3_checkIndex_8e157 11 = .ok (.iload_n 1, 1) := by decide +kernel
theorem dJ3_checkIndex_8e157_12 : decode cJ3_checkIndex_8e157 12 = .ok (.invokestatic 95, 3) := by decide +kernel
theorem dJ3_checkIndex_8e157_15 : decode cJ3_checkIndex_8e157 15 = .ok (.athrow, 1) := by decide +kernel
theorem dJ3_checkIndex_8e157_16 : decode cJ3_checkIndex_8e157 16 = .ok (.iload_n 0, 1) := by decide +kernel
theorem dJ3_checkIndex_8e157_17 : decode cJ3_checkIndex_8e157 17 = .ok (.ireturn, 1) := by decide +kernel
theorem sp_J3_ci_n {k n : Nat} {x y : Int32} {D : Mem} (hx : x = nI k) (hy : y = nI n) (hk : k < n) (hn : n < 2147483648) : Ei 1 j_J3_checkIndex_8e157 [.int x, .int y, .null] D (nI k) (D) := by
  refine E.start 0 (ls := [some (.int x), some (.int y), some (.null)]) (by decide +kernel) (Nat.le_of_ble_eq_true rfl) rfl (Nat.le_refl _) (Nat.le_refl _) ?_
  subst hx; subst hy
  refine X_iload_n (nx := 1) dJ3_checkIndex_8e157_0 rfl rfl rfl ?_
  refine X_if_lt (tgt := 9) (nx := 4) dJ3_checkIndex_8e157_1 rfl rfl (fun h1 => ?_) (fun h1 => ?_)
  · exact absurd h1 (nI_neg (by omega))
  · skip
    refine X_iload_n (nx := 5) dJ3_checkIndex_8e157_4 rfl rfl rfl ?_
    refine X_iload_n (nx := 6) dJ3_checkIndex_8e157_5 rfl rfl rfl ?_
    refine X_icmp_lt (tgt := 16) (nx := 9) dJ3_checkIndex_8e157_6 rfl rfl (fun h6 => ?_) (fun h6 => ?_)
    · skip
      refine X_iload_n (nx := 17) dJ3_checkIndex_8e157_16 rfl rfl rfl ?_
      exact Y_reti dJ3_checkIndex_8e157_17 (Or.inl rfl) rfl rfl
    · exact absurd h6 (fun q => q (nI_lt (by omega) (by omega)))
theorem sp_J3_ci_r {k n : Nat} {x y : Int32} {D : Mem} (hx : x = nI k) (hy : y = nI n) (hk : k < n) (hn : n < 2147483648) : Ei 1 j_J3_checkIndex_8e157 [.int x, .int y, .ref 2030] D (nI k) (D) := by
  refine E.start 0 (ls := [some (.int x), some (.int y), some (.ref 2030)]) (by decide +kernel) (Nat.le_of_ble_eq_true rfl) rfl (Nat.le_refl _) (Nat.le_refl _) ?_
  subst hx; subst hy
  refine X_iload_n (nx := 1) dJ3_checkIndex_8e157_0 rfl rfl rfl ?_
  refine X_if_lt (tgt := 9) (nx := 4) dJ3_checkIndex_8e157_1 rfl rfl (fun h1 => ?_) (fun h1 => ?_)
  · exact absurd h1 (nI_neg (by omega))
  · skip
    refine X_iload_n (nx := 5) dJ3_checkIndex_8e157_4 rfl rfl rfl ?_
    refine X_iload_n (nx := 6) dJ3_checkIndex_8e157_5 rfl rfl rfl ?_
    refine X_icmp_lt (tgt := 16) (nx := 9) dJ3_checkIndex_8e157_6 rfl rfl (fun h6 => ?_) (fun h6 => ?_)
    · skip
      refine X_iload_n (nx := 17) dJ3_checkIndex_8e157_16 rfl rfl rfl ?_
      exact Y_reti dJ3_checkIndex_8e157_17 (Or.inl rfl) rfl rfl
    · exact absurd h6 (fun q => q (nI_lt (by omega) (by omega)))
theorem dJ0_checkIndex_df160_0 : decode cJ0_checkIndex_df160 0 = .ok (.iload_n 0, 1) := by decide +kernel
theorem dJ0_checkIndex_df160_1 : decode cJ0_checkIndex_df160 1 = .ok (.iload_n 1, 1) := by decide +kernel
theorem dJ0_checkIndex_df160_2 : decode cJ0_checkIndex_df160 2 = .ok (.getstatic 1053, 3) := by decide +kernel
theorem dJ0_checkIndex_df160_5 : decode cJ0_checkIndex_df160 5 = .ok (.invokestatic 1059, 3) := by decide +kernel
theorem dJ0_checkIndex_df160_8 : decode cJ0_checkIndex_df160 8 = .ok (.pop, 1) := by decide +kernel
theorem dJ0_checkIndex_df160_9 : decode cJ0_checkIndex_df160 9 = .ok (.return_, 1) := by decide +kernel
theorem sp_J0_checkIndex_df160 {k n : Nat} {x y : Int32} {D : Mem} (hx : x = nI k) (hy : y = nI n) (hk : k < n) (hn : n < 2147483648) : Ev 2 j_J0_checkIndex_df160 [.int x, .int y] D (D) := by
  refine E.start 0 (ls := [some (.int x), some (.int y)]) (by decide +kernel) (Nat.le_of_ble_eq_true rfl) rfl (Nat.le_refl _) (Nat.le_refl _) ?_
  refine X_iload_n (nx := 1) dJ0_checkIndex_df160_0 rfl rfl rfl ?_
  refine X_iload_n (nx := 2) dJ0_checkIndex_df160_1 rfl rfl rfl ?_
  refine X_gs_sio (nx := 5) dJ0_checkIndex_df160_2 rfl gs_RJ0_1053 ?_ ?_
  · skip
    first
      | refine Y_Si3 (nx := 8) dJ0_checkIndex_df160_5 rfl ml_RJ0_1059 kj_J3_checkIndex_8e157 ks_J3_checkIndex_8e157 (sp_J3_ci_n hx hy hk hn) (by decide) (by exact Nat.le_of_ble_eq_true rfl) ?_
      | refine Y_Si3 (nx := 8) dJ0_checkIndex_df160_5 rfl ml_RJ0_1059 kj_J3_checkIndex_8e157 ks_J3_checkIndex_8e157 (sp_J3_ci_r hx hy hk hn) (by decide) (by exact Nat.le_of_ble_eq_true rfl) ?_
    refine X_pop (nx := 9) dJ0_checkIndex_df160_8 rfl rfl ?_
    exact Y_retv dJ0_checkIndex_df160_9 rfl rfl
  · skip
    first
      | refine Y_Si3 (nx := 8) dJ0_checkIndex_df160_5 rfl ml_RJ0_1059 kj_J3_checkIndex_8e157 ks_J3_checkIndex_8e157 (sp_J3_ci_n hx hy hk hn) (by decide) (by exact Nat.le_of_ble_eq_true rfl) ?_
      | refine Y_Si3 (nx := 8) dJ0_checkIndex_df160_5 rfl ml_RJ0_1059 kj_J3_checkIndex_8e157 ks_J3_checkIndex_8e157 (sp_J3_ci_r hx hy hk hn) (by decide) (by exact Nat.le_of_ble_eq_true rfl) ?_
    refine X_pop (nx := 9) dJ0_checkIndex_df160_8 rfl rfl ?_
    exact Y_retv dJ0_checkIndex_df160_9 rfl rfl
theorem dJ1_charAt_3b067_0 : decode cJ1_charAt_3b067 0 = .ok (.iload_n 1, 1) := by decide +kernel
theorem dJ1_charAt_3b067_1 : decode cJ1_charAt_3b067 1 = .ok (.aload_n 0, 1) := by decide +kernel
theorem dJ1_charAt_3b067_2 : decode cJ1_charAt_3b067 2 = .ok (.arraylength, 1) := by decide +kernel
theorem dJ1_charAt_3b067_3 : decode cJ1_charAt_3b067 3 = .ok (.invokestatic 9, 3) := by decide +kernel
theorem dJ1_charAt_3b067_6 : decode cJ1_charAt_3b067 6 = .ok (.aload_n 0, 1) := by decide +kernel
theorem dJ1_charAt_3b067_7 : decode cJ1_charAt_3b067 7 = .ok (.iload_n 1, 1) := by decide +kernel
theorem dJ1_charAt_3b067_8 : decode cJ1_charAt_3b067 8 = .ok (.baload, 1) := by decide +kernel
theorem dJ1_charAt_3b067_9 : decode cJ1_charAt_3b067 9 = .ok (.sipush 255, 3) := by decide +kernel
theorem dJ1_charAt_3b067_12 : decode cJ1_charAt_3b067 12 = .ok (.iand, 1) := by decide +kernel
theorem dJ1_charAt_3b067_13 : decode cJ1_charAt_3b067 13 = .ok (.i2c, 1) := by decide +kernel
theorem dJ1_charAt_3b067_14 : decode cJ1_charAt_3b067 14 = .ok (.ireturn, 1) := by decide +kernel
theorem sp_J1_charAt_3b067 {i k : Nat} {x : Int32} {D : Mem} (hi : i < 4) (hx : x = nI k) (hk : k < (ordS i).length) : Ei 3 j_J1_charAt_3b067 [.ref (2020 + i), .int x] D (nI ((ordS i).getD k 0)) (D) := by
  refine E.start 0 (ls := [some (.ref (2020 + i)), some (.int x)]) (by decide +kernel) (Nat.le_of_ble_eq_true rfl) rfl (Nat.le_refl _) (Nat.le_refl _) ?_
  subst hx
  have hle := lenS_o i hi
  obtain ⟨g1, g2, g3⟩ := bytS_o i hi k (by omega)
  have hin : vp_in (nI k) (lenS.getD i 0) := vp_in_nI (by omega) (by omega)
  refine X_iload_n (nx := 1) dJ1_charAt_3b067_0 rfl rfl rfl ?_
  refine X_aload_n (nx := 2) dJ1_charAt_3b067_1 rfl rfl rfl ?_
  refine X_blen (nx := 3) dJ1_charAt_3b067_2 rfl hi ?_
  refine Y_Sv2 (nx := 6) dJ1_charAt_3b067_3 rfl ml_RJ1_9 kj_J0_checkIndex_df160 ks_J0_checkIndex_df160 (sp_J0_checkIndex_df160 rfl (congrArg nI hle.1) hk (by omega)) (by first | decide | omega) (by exact Nat.le_of_ble_eq_true rfl) ?_
  refine X_aload_n (nx := 7) dJ1_charAt_3b067_6 rfl rfl rfl ?_
  refine X_iload_n (nx := 8) dJ1_charAt_3b067_7 rfl rfl rfl ?_
  refine X_bald (nx := 9) dJ1_charAt_3b067_8 rfl hi hin ?_
  refine X_sipush (v := 255) (nx := 12) dJ1_charAt_3b067_9 rfl rfl ?_
  refine X_iand (nx := 13) dJ1_charAt_3b067_12 rfl ?_
  refine X_top ((congrArg (fun z => (bytS.getD i []).getD z 0 &&& 255) (nI_clamp (by omega))).trans g1) ?_
  refine X_i2c (nx := 14) dJ1_charAt_3b067_13 rfl rfl ?_
  refine X_top (g2) ?_
  exact Y_retN dJ1_charAt_3b067_14 ⟨_, rfl, (pk_charN (by omega)).1⟩ rfl rfl
theorem dJ0_charAt_5068e_0 : decode cJ0_charAt_5068e 0 = .ok (.aload_n 0, 1) := by decide +kernel
theorem dJ0_charAt_5068e_1 : decode cJ0_charAt_5068e 1 = .ok (.invokevirtual 492, 3) := by decide +kernel
theorem dJ0_charAt_5068e_4 : decode cJ0_charAt_5068e 4 = .ok (.ifCond .eq 12, 3) := by decide +kernel
theorem dJ0_charAt_5068e_7 : decode cJ0_charAt_5068e 7 = .ok (.aload_n 0, 1) := by decide +kernel
theorem dJ0_charAt_5068e_8 : decode cJ0_charAt_5068e 8 = .ok (.getfield 9, 3) := by decide +kernel
theorem dJ0_charAt_5068e_11 : decode cJ0_charAt_5068e 11 = .ok (.iload_n 1, 1) := by decide +kernel
theorem dJ0_charAt_5068e_12 : decode cJ0_charAt_5068e 12 = .ok (.invokestatic 495, 3) := by decide +kernel
theorem dJ0_charAt_5068e_15 : decode cJ0_charAt_5068e 15 = .ok (.ireturn, 1) := by decide +kernel
theorem dJ0_charAt_5068e_16 : decode cJ0_charAt_5068e 16 = .ok (.aload_n 0, 1) := by decide +kernel
theorem dJ0_charAt_5068e_17 : decode cJ0_charAt_5068e 17 = .ok (.getfield 9, 3) := by decide +kernel
theorem dJ0_charAt_5068e_20 : decode cJ0_charAt_5068e 20 = .ok (.iload_n 1, 1) := by decide +kernel
theorem dJ0_charAt_5068e_21 : decode cJ0_charAt_5068e 21 = .ok (.invokestatic 498, 3) := by decide +kernel
theorem dJ0_charAt_5068e_24 : decode cJ0_charAt_5068e 24 = .ok (.ireturn, 1) := by decide +kernel
theorem sp_J0_charAt_5068e {i k : Nat} {x : Int32} {D : Mem} (hi : i < 4) (hx : x = nI k) (hk : k < (ordS i).length) : Ei 4 j_J0_charAt_5068e [.ref (2010 + i), .int x] D (nI ((ordS i).getD k 0)) (D) := by
  have hle := lenS_o i hi
  obtain ⟨g1, g2, g3⟩ := bytS_o i hi k (by omega)
  refine E.start 0 (ls := [some (.ref (2010 + i)), some (.int x)]) (by decide +kernel) (Nat.le_of_ble_eq_true rfl) rfl (Nat.le_refl _) (Nat.le_refl _) ?_
  refine X_aload_n (nx := 1) dJ0_charAt_5068e_0 rfl rfl rfl ?_
  refine Y_Ti0 (nx := 4) dJ0_charAt_5068e_1 rfl ml_RJ0_492 kj_J0_isLatin1_aae02 kv_J0_isLatin1_aae02 (sp_J0_isLatin1_aae02 hi) (by first | assumption | rfl | decide | omega) rfl (by first | decide | omega) (by exact Nat.le_of_ble_eq_true rfl) ?_
  refine X_if_eq (tgt := 16) (nx := 7) dJ0_charAt_5068e_4 rfl rfl (fun h4 => ?_) (fun h4 => ?_)
  · exact absurd h4 (by decide)
  · skip
    refine X_aload_n (nx := 8) dJ0_charAt_5068e_7 rfl rfl rfl ?_
    refine X_strV (nx := 11) dJ0_charAt_5068e_8 rfl (by assumption) gs_RJ0_9 ?_
    refine X_iload_n (nx := 12) dJ0_charAt_5068e_11 rfl rfl rfl ?_
    refine Y_Si2 (nx := 15) dJ0_charAt_5068e_12 rfl ml_RJ0_495 kj_J1_charAt_3b067 ks_J1_charAt_3b067 (sp_J1_charAt_3b067 hi hx hk) (by first | decide | omega) (by exact Nat.le_of_ble_eq_true rfl) ?_
    exact Y_retN dJ0_charAt_5068e_15 ⟨_, rfl, (pk_charN (by omega)).1⟩ rfl rfl
theorem dX6_orderOf_0 : decode cX6_orderOf 0 = .ok (.iload_n 0, 1) := by decide +kernel
theorem dX6_orderOf_1 : decode cX6_orderOf 1 = .ok (.tableswitch 36 1 3 #[27, 30, 33], 27) := by decide +kernel
theorem dX6_orderOf_28 : decode cX6_orderOf 28 = .ok (.ldc 99, 2) := by decide +kernel
theorem dX6_orderOf_30 : decode cX6_orderOf 30 = .ok (.areturn, 1) := by decide +kernel
theorem dX6_orderOf_31 : decode cX6_orderOf 31 = .ok (.ldc 101, 2) := by decide +kernel
theorem dX6_orderOf_33 : decode cX6_orderOf 33 = .ok (.areturn, 1) := by decide +kernel
theorem dX6_orderOf_34 : decode cX6_orderOf 34 = .ok (.ldc 103, 2) := by decide +kernel
theorem dX6_orderOf_36 : decode cX6_orderOf 36 = .ok (.areturn, 1) := by decide +kernel
theorem dX6_orderOf_37 : decode cX6_orderOf 37 = .ok (.ldc 105, 2) := by decide +kernel
theorem dX6_orderOf_39 : decode cX6_orderOf 39 = .ok (.areturn, 1) := by decide +kernel
theorem sp_X6_orderOf {k : Nat} {x : Int32} {D : Mem} (hx : x = nI k) (hk : k < 6) : Er 1 j_X6_orderOf [.int x] D (2010 + oi k) (D) := by
  refine E.start 0 (ls := [some (.int x)]) (by decide +kernel) (Nat.le_of_ble_eq_true rfl) rfl (Nat.le_refl _) (Nat.le_refl _) ?_
  subst hx
  refine X_iload_n (nx := 1) dX6_orderOf_0 rfl rfl rfl ?_
  obtain rfl | rfl | rfl | rfl | rfl | rfl : k = 1 ∨ k = 2 ∨ k = 3 ∨ k = 0 ∨ k = 4 ∨ k = 5 := by omega
  · skip
    refine X_top (y := 1) (rfl) ?_
    refine X_tableIn (tgt := 28) (off := 27) dX6_orderOf_1 (by decide) (by decide) (by decide) rfl ?_
    refine X_ldcS (i := 0) (nx := 30) dX6_orderOf_28 rfl (by decide) rfl rfl ?_
    exact Y_reta dX6_orderOf_30 ⟨_, rfl⟩ rfl rfl
  · skip
    refine X_top (y := 2) (rfl) ?_
    refine X_tableIn (tgt := 31) (off := 30) dX6_orderOf_1 (by decide) (by decide) (by decide) rfl ?_
    refine X_ldcS (i := 1) (nx := 33) dX6_orderOf_31 rfl (by decide) rfl rfl ?_
    exact Y_reta dX6_orderOf_33 ⟨_, rfl⟩ rfl rfl
  · skip
    refine X_top (y := 3) (rfl) ?_
    refine X_tableIn (tgt := 34) (off := 33) dX6_orderOf_1 (by decide) (by decide) (by decide) rfl ?_
    refine X_ldcS (i := 2) (nx := 36) dX6_orderOf_34 rfl (by decide) rfl rfl ?_
    exact Y_reta dX6_orderOf_36 ⟨_, rfl⟩ rfl rfl
  · skip
    refine X_tableOut (tgt := 37) dX6_orderOf_1 (by decide) rfl ?_
    refine X_ldcS (i := 3) (nx := 39) dX6_orderOf_37 rfl (by decide) rfl rfl ?_
    exact Y_reta dX6_orderOf_39 ⟨_, rfl⟩ rfl rfl
  · skip
    refine X_tableOut (tgt := 37) dX6_orderOf_1 (by decide) rfl ?_
    refine X_ldcS (i := 3) (nx := 39) dX6_orderOf_37 rfl (by decide) rfl rfl ?_
    exact Y_reta dX6_orderOf_39 ⟨_, rfl⟩ rfl rfl
  · skip
    refine X_tableOut (tgt := 37) dX6_orderOf_1 (by decide) rfl ?_
    refine X_ldcS (i := 3) (nx := 39) dX6_orderOf_37 rfl (by decide) rfl rfl ?_
    exact Y_reta dX6_orderOf_39 ⟨_, rfl⟩ rfl rfl
/-- which edge a step takes at a letter -/
def edg (s l : Nat) : Option Nat := if s = 76 then some l else if s = 67 then some (if l < 2 then 4 else 5) else if s = 65 then some 6 else none
def nxI (nl : List Nd) (PS : Nd → Nat → Bool) (q : Nd) (w : Nat) (L : List Nat) (s a : Nat) : Option Nat := if L.length ≤ a then none else match edg s (L.getD a 0) with
  | none => none
  | some e => nbh nl PS q e w
theorem edg_C1 {l : Nat} (h : l < 2) : edg 67 l = some 4 := by unfold edg; rw [if_neg (by decide), if_pos rfl, if_pos h]
theorem edg_C2 {l : Nat} (h : ¬ l < 2) : edg 67 l = some 5 := by unfold edg; rw [if_neg (by decide), if_pos rfl, if_neg h]
theorem nxI_e {nl : List Nd} {PS : Nd → Nat → Bool} {q : Nd} {w s a e : Nat} {L : List Nat} (h : a < L.length) (he : edg s (L.getD a 0) = some e) : nxI nl PS q w L s a = nbh nl PS q e w := by
  unfold nxI; rw [if_neg (by omega), he]
theorem nxI_n {nl : List Nd} {PS : Nd → Nat → Bool} {q : Nd} {w s a : Nat} {L : List Nat} (he : edg s (L.getD a 0) = none) : nxI nl PS q w L s a = none := by
  unfold nxI; split <;> (try rw [he]) <;> rfl
theorem nxI_o {nl : List Nd} {PS : Nd → Nat → Bool} {q : Nd} {w s a : Nat} {L : List Nat} (h : ¬ a < L.length) : nxI nl PS q w L s a = none := by
  unfold nxI; rw [if_pos (by omega)]
/-- the end by a step -/
def ebF (RS EN : Nd → Nat → Bool) (SV : Nat → Nat → Bool) (q : Nd) (w v : Nat) (L : List Nat) (s a : Nat) : Option Nat := fst_ (fun r => (if s = 82 then RS q r else if s = 69 ∧ a = L.length then EN q r else false) && (w.testBit r && SV v r)) 0 10
def ebD (D : Mem) (r : Option Nat) (ms t : Nat) : Mem := match r with
  | none => D
  | some _ => up2 (up2 D 79 7 (nI ms)) 79 8 (nI t)
theorem bits_0 : mkn (fun _ => false) 10 = 0 := by decide
theorem and3m {p g : Nat → Bool} {w : Nat} (r : Nat) (hr : r < 10) : (mkn p 10 &&& w &&& mkn g 10).testBit r = (p r && (w.testBit r && g r)) := by
  rw [Nat.testBit_and, Nat.testBit_and, mkn_tb, mkn_tb, decide_eq_true hr, Bool.true_and, Bool.true_and, Bool.and_assoc]
theorem dX6_nextBy_0 : decode cX6_nextBy 0 = .ok (.iload_n 3, 1) := by decide +kernel
theorem dX6_nextBy_1 : decode cX6_nextBy 1 = .ok (.aload_n 0, 1) := by decide +kernel
theorem dX6_nextBy_2 : decode cX6_nextBy 2 = .ok (.getfield 21, 3) := by decide +kernel
theorem dX6_nextBy_5 : decode cX6_nextBy 5 = .ok (.getfield 70, 3) := by decide +kernel
theorem dX6_nextBy_8 : decode cX6_nextBy 8 = .ok (.if_icmp .lt 6, 3) := by decide +kernel
theorem dX6_nextBy_11 : decode cX6_nextBy 11 = .ok (.bipush (-9), 2) := by decide +kernel
theorem dX6_nextBy_13 : decode cX6_nextBy 13 = .ok (.ireturn, 1) := by decide +kernel
theorem dX6_nextBy_14 : decode cX6_nextBy 14 = .ok (.aload_n 0, 1) := by decide +kernel
theorem dX6_nextBy_15 : decode cX6_nextBy 15 = .ok (.getfield 21, 3) := by decide +kernel
theorem dX6_nextBy_18 : decode cX6_nextBy 18 = .ok (.iload_n 3, 1) := by decide +kernel
theorem dX6_nextBy_19 : decode cX6_nextBy 19 = .ok (.invokevirtual 107, 3) := by decide +kernel
theorem dX6_nextBy_22 : decode cX6_nextBy 22 = .ok (.istore 4, 2) := by decide +kernel
theorem dX6_nextBy_24 : decode cX6_nextBy 24 = .ok (.iload_n 1, 1) := by decide +kernel
theorem dX6_nextBy_25 : decode cX6_nextBy 25 = .ok (.lookupswitch 97 #[(65, 82), (67, 50), (76, 35)], 35) := by decide +kernel
theorem dX6_nextBy_60 : decode cX6_nextBy 60 = .ok (.aload_n 0, 1) := by decide +kernel
theorem dX6_nextBy_61 : decode cX6_nextBy 61 = .ok (.getfield 12, 3) := by decide +kernel
theorem dX6_nextBy_64 : decode cX6_nextBy 64 = .ok (.iload_n 2, 1) := by decide +kernel
theorem dX6_nextBy_65 : decode cX6_nextBy 65 = .ok (.iload 4, 2) := by decide +kernel
theorem dX6_nextBy_67 : decode cX6_nextBy 67 = .ok (.aload_n 0, 1) := by decide +kernel
theorem dX6_nextBy_68 : decode cX6_nextBy 68 = .ok (.getfield 40, 3) := by decide +kernel
theorem dX6_nextBy_71 : decode cX6_nextBy 71 = .ok (.invokevirtual 111, 3) := by decide +kernel
theorem dX6_nextBy_74 : decode cX6_nextBy 74 = .ok (.ireturn, 1) := by decide +kernel
theorem dX6_nextBy_75 : decode cX6_nextBy 75 = .ok (.bipush 10, 2) := by decide +kernel
theorem dX6_nextBy_77 : decode cX6_nextBy 77 = .ok (.iload 4, 2) := by decide +kernel
theorem dX6_nextBy_79 : decode cX6_nextBy 79 = .ok (.invokestatic 114, 3) := by decide +kernel
theorem dX6_nextBy_82 : decode cX6_nextBy 82 = .ok (.ifCond .eq 7, 3) := by decide +kernel
theorem dX6_nextBy_85 : decode cX6_nextBy 85 = .ok (.iconst 4, 1) := by decide +kernel
theorem dX6_nextBy_86 : decode cX6_nextBy 86 = .ok (.goto 4, 3) := by decide +kernel
theorem dX6_nextBy_89 : decode cX6_nextBy 89 = .ok (.iconst 5, 1) := by decide +kernel
theorem dX6_nextBy_90 : decode cX6_nextBy 90 = .ok (.istore 5, 2) := by decide +kernel
theorem dX6_nextBy_92 : decode cX6_nextBy 92 = .ok (.aload_n 0, 1) := by decide +kernel
theorem dX6_nextBy_93 : decode cX6_nextBy 93 = .ok (.getfield 12, 3) := by decide +kernel
theorem dX6_nextBy_96 : decode cX6_nextBy 96 = .ok (.iload_n 2, 1) := by decide +kernel
theorem dX6_nextBy_97 : decode cX6_nextBy 97 = .ok (.iload 5, 2) := by decide +kernel
theorem dX6_nextBy_99 : decode cX6_nextBy 99 = .ok (.aload_n 0, 1) := by decide +kernel
theorem dX6_nextBy_100 : decode cX6_nextBy 100 = .ok (.getfield 40, 3) := by decide +kernel
theorem dX6_nextBy_103 : decode cX6_nextBy 103 = .ok (.invokevirtual 111, 3) := by decide +kernel
theorem dX6_nextBy_106 : decode cX6_nextBy 106 = .ok (.ireturn, 1) := by decide +kernel
theorem dX6_nextBy_107 : decode cX6_nextBy 107 = .ok (.aload_n 0, 1) := by decide +kernel
theorem dX6_nextBy_108 : decode cX6_nextBy 108 = .ok (.getfield 12, 3) := by decide +kernel
theorem dX6_nextBy_111 : decode cX6_nextBy 111 = .ok (.iload_n 2, 1) := by decide +kernel
theorem dX6_nextBy_112 : decode cX6_nextBy 112 = .ok (.bipush 6, 2) := by decide +kernel
theorem dX6_nextBy_114 : decode cX6_nextBy 114 = .ok (.aload_n 0, 1) := by decide +kernel
theorem dX6_nextBy_115 : decode cX6_nextBy 115 = .ok (.getfield 40, 3) := by decide +kernel
theorem dX6_nextBy_118 : decode cX6_nextBy 118 = .ok (.invokevirtual 111, 3) := by decide +kernel
theorem dX6_nextBy_121 : decode cX6_nextBy 121 = .ok (.ireturn, 1) := by decide +kernel
theorem dX6_nextBy_122 : decode cX6_nextBy 122 = .ok (.bipush (-9), 2) := by decide +kernel
theorem dX6_nextBy_124 : decode cX6_nextBy 124 = .ok (.ireturn, 1) := by decide +kernel
theorem sp_X6_nextBy {B : Bk} {nl : List Nd} {PS EN RS MN : Nd → Nat → Bool} {SV : Nat → Nat → Bool} {MO : Nat → Bool} {L : List Nat} {w j s a : Nat} {x y z : Int32} {D : Mem} (h : TE D B nl PS EN RS MN SV MO) (hL : LET D 92 L) (hw : D 79 5 = nI w) (hw2 : w < 1024) (hj : j < nl.length) (hx : x = nI s) (hs : s = 69 ∨ s = 76 ∨ s = 65 ∨ s = 67 ∨ s = 82 ∨ s = 77) (hy : y = nI j) (hz : z = nI a) (ha : a ≤ L.length) : Ei 3 j_X6_nextBy [.ref 79, .int x, .int y, .int z] D (opI (nxI nl PS (ng nl j) w L s a)) (D) := by
  refine E.start 2 (ls := [some (.ref 79), some (.int x), some (.int y), some (.int z), none, none]) (by decide +kernel) (Nat.le_of_ble_eq_true rfl) rfl (Nat.le_refl _) (Nat.le_refl _) ?_
  subst hx; subst hy; subst hz
  have hp : isPa 92 := Or.inl rfl
  have hb := hL.1
  refine X_iload_n (nx := 1) dX6_nextBy_0 rfl rfl rfl ?_
  refine X_aload_n (nx := 2) dX6_nextBy_1 rfl rfl rfl ?_
  refine M_getP (nx := 5) dX6_nextBy_2 rfl fl_RX6_21 rfl (by first | assumption | rfl | decide | omega) (by first | assumption | rfl | decide | omega) (by first | assumption | rfl | decide | omega) ?_
  refine M_getI (nx := 8) dX6_nextBy_5 rfl fl_RX6_70 rfl (by first | assumption | rfl | decide | omega) (by first | assumption | rfl | decide | omega) ?_
  refine X_top (hL.2.1) ?_
  refine X_icmp_lt (tgt := 14) (nx := 11) dX6_nextBy_8 rfl rfl (fun h8 => ?_) (fun h8 => ?_)
  · skip
    rw [nI_ltI (by omega) (by omega)] at h8
    have hl4 := hL.2.2.2 _ (getD_in h8)
    refine X_aload_n (nx := 15) dX6_nextBy_14 rfl rfl rfl ?_
    refine M_getP (nx := 18) dX6_nextBy_15 rfl fl_RX6_21 rfl (by first | assumption | rfl | decide | omega) (by first | assumption | rfl | decide | omega) (by first | assumption | rfl | decide | omega) ?_
    refine X_iload_n (nx := 19) dX6_nextBy_18 rfl rfl rfl ?_
    refine Y_Vi1 (nx := 22) dX6_nextBy_19 rfl ml_RX6_107 kj_X1_at kv_X1_at (sp_X1_at hp hL rfl h8) (by first | assumption | rfl | decide | omega) (by first | assumption | rfl | decide | omega) (by decide) rfl (by first | decide | omega) (by exact Nat.le_of_ble_eq_true rfl) ?_
    refine X_istore (i := 4) (nx := 24) dX6_nextBy_22 rfl (by decide) rfl (st_s (st_s (st_s (st_s (st_0))))) ?_
    refine X_iload_n (nx := 25) dX6_nextBy_24 rfl rfl rfl ?_
    rcases hs with rfl | rfl | rfl | rfl | rfl | rfl
    · skip
      refine X_top (y := 69) (rfl) ?_
      refine X_lookup (tgt := 122) (off := 97) dX6_nextBy_25 (by decide) (by decide) rfl ?_
      refine X_bipush (v := -9) (nx := 124) dX6_nextBy_122 rfl rfl ?_
      exact Y_reti dX6_nextBy_124 (Or.inl rfl) (by first | (rw [nxI_o h8]; rfl) | (rw [nxI_e h8 (edg_C1 h82)]; done) | (rw [nxI_e h8 (edg_C2 h82)]; done) | (rw [nxI_e h8 (show edg 76 _ = some _ from rfl)]; done) | (rw [nxI_e h8 (show edg 65 _ = some _ from rfl)]; done) | (rw [nxI_n rfl]; rfl)) rfl
    · skip
      refine X_top (y := 76) (rfl) ?_
      refine X_lookup (tgt := 60) (off := 35) dX6_nextBy_25 (by decide) (by decide) rfl ?_
      refine X_aload_n (nx := 61) dX6_nextBy_60 rfl rfl rfl ?_
      refine M_getP (nx := 64) dX6_nextBy_61 rfl fl_RX6_12 rfl (by first | assumption | rfl | decide | omega) (by first | assumption | rfl | decide | omega) (by first | assumption | rfl | decide | omega) ?_
      refine X_iload_n (nx := 65) dX6_nextBy_64 rfl rfl rfl ?_
      refine X_iload (nx := 67) dX6_nextBy_65 rfl rfl ?_
      refine X_aload_n (nx := 68) dX6_nextBy_67 rfl rfl rfl ?_
      refine M_getI (nx := 71) dX6_nextBy_68 rfl fl_RX6_40 rfl (by first | assumption | rfl | decide | omega) (by first | assumption | rfl | decide | omega) ?_
      refine X_top (hw) ?_
      refine Y_Vi3 (nx := 74) dX6_nextBy_71 rfl ml_RX6_111 kj_X5_nodeBehind kv_X5_nodeBehind (sp_X5_nodeBehind h rfl hj rfl (by omega) rfl hw2) (by first | assumption | rfl | decide | omega) (by first | assumption | rfl | decide | omega) (by decide) rfl (by first | decide | omega) (by exact Nat.le_of_ble_eq_true rfl) ?_
      exact Y_reti dX6_nextBy_74 (Or.inl rfl) (by first | (rw [nxI_o h8]; rfl) | (rw [nxI_e h8 (edg_C1 h82)]; done) | (rw [nxI_e h8 (edg_C2 h82)]; done) | (rw [nxI_e h8 (show edg 76 _ = some _ from rfl)]; done) | (rw [nxI_e h8 (show edg 65 _ = some _ from rfl)]; done) | (rw [nxI_n rfl]; rfl)) rfl
    · skip
      refine X_top (y := 65) (rfl) ?_
      refine X_lookup (tgt := 107) (off := 82) dX6_nextBy_25 (by decide) (by decide) rfl ?_
      refine X_aload_n (nx := 108) dX6_nextBy_107 rfl rfl rfl ?_
      refine M_getP (nx := 111) dX6_nextBy_108 rfl fl_RX6_12 rfl (by first | assumption | rfl | decide | omega) (by first | assumption | rfl | decide | omega) (by first | assumption | rfl | decide | omega) ?_
      refine X_iload_n (nx := 112) dX6_nextBy_111 rfl rfl rfl ?_
      refine X_bipush (v := nI 6) (nx := 114) dX6_nextBy_112 rfl rfl ?_
      refine X_aload_n (nx := 115) dX6_nextBy_114 rfl rfl rfl ?_
      refine M_getI (nx := 118) dX6_nextBy_115 rfl fl_RX6_40 rfl (by first | assumption | rfl | decide | omega) (by first | assumption | rfl | decide | omega) ?_
      refine X_top (hw) ?_
      refine Y_Vi3 (nx := 121) dX6_nextBy_118 rfl ml_RX6_111 kj_X5_nodeBehind kv_X5_nodeBehind (sp_X5_nodeBehind h rfl hj rfl (by omega) rfl hw2) (by first | assumption | rfl | decide | omega) (by first | assumption | rfl | decide | omega) (by decide) rfl (by first | decide | omega) (by exact Nat.le_of_ble_eq_true rfl) ?_
      exact Y_reti dX6_nextBy_121 (Or.inl rfl) (by first | (rw [nxI_o h8]; rfl) | (rw [nxI_e h8 (edg_C1 h82)]; done) | (rw [nxI_e h8 (edg_C2 h82)]; done) | (rw [nxI_e h8 (show edg 76 _ = some _ from rfl)]; done) | (rw [nxI_e h8 (show edg 65 _ = some _ from rfl)]; done) | (rw [nxI_n rfl]; rfl)) rfl
    · skip
      refine X_top (y := 67) (rfl) ?_
      refine X_lookup (tgt := 75) (off := 50) dX6_nextBy_25 (by decide) (by decide) rfl ?_
      refine X_bipush (v := nI 10) (nx := 77) dX6_nextBy_75 rfl rfl ?_
      refine X_iload (nx := 79) dX6_nextBy_77 rfl rfl ?_
      refine Y_Si2 (nx := 82) dX6_nextBy_79 rfl ml_RX6_114 kj_X7_fits ks_X7_fits (sp_X7_fits (s := 10) rfl (Or.inr (Or.inl (by omega))) rfl hl4) (by first | decide | omega) (by exact Nat.le_of_ble_eq_true rfl) ?_
      refine X_if_eq (tgt := 89) (nx := 85) dX6_nextBy_82 rfl rfl (fun h82 => ?_) (fun h82 => ?_)
      · skip
        rw [fitT_2 (by omega), b2i_f] at h82
        have h82 := of_decide_eq_false h82
        refine X_iconst (v := nI 5) (nx := 90) dX6_nextBy_89 rfl rfl ?_
        refine X_istore (i := 5) (nx := 92) dX6_nextBy_90 rfl (by decide) rfl (st_s (st_s (st_s (st_s (st_s (st_0)))))) ?_
        refine X_aload_n (nx := 93) dX6_nextBy_92 rfl rfl rfl ?_
        refine M_getP (nx := 96) dX6_nextBy_93 rfl fl_RX6_12 rfl (by first | assumption | rfl | decide | omega) (by first | assumption | rfl | decide | omega) (by first | assumption | rfl | decide | omega) ?_
        refine X_iload_n (nx := 97) dX6_nextBy_96 rfl rfl rfl ?_
        refine X_iload (nx := 99) dX6_nextBy_97 rfl rfl ?_
        refine X_aload_n (nx := 100) dX6_nextBy_99 rfl rfl rfl ?_
        refine M_getI (nx := 103) dX6_nextBy_100 rfl fl_RX6_40 rfl (by first | assumption | rfl | decide | omega) (by first | assumption | rfl | decide | omega) ?_
        refine X_top (hw) ?_
        refine Y_Vi3 (nx := 106) dX6_nextBy_103 rfl ml_RX6_111 kj_X5_nodeBehind kv_X5_nodeBehind (sp_X5_nodeBehind h rfl hj rfl (by omega) rfl hw2) (by first | assumption | rfl | decide | omega) (by first | assumption | rfl | decide | omega) (by decide) rfl (by first | decide | omega) (by exact Nat.le_of_ble_eq_true rfl) ?_
        exact Y_reti dX6_nextBy_106 (Or.inl rfl) (by first | (rw [nxI_o h8]; rfl) | (rw [nxI_e h8 (edg_C1 h82)]; done) | (rw [nxI_e h8 (edg_C2 h82)]; done) | (rw [nxI_e h8 (show edg 76 _ = some _ from rfl)]; done) | (rw [nxI_e h8 (show edg 65 _ = some _ from rfl)]; done) | (rw [nxI_n rfl]; rfl)) rfl
      · skip
        rw [fitT_2 (by omega), b2i_t] at h82
        have h82 := of_decide_eq_true h82
        refine X_iconst (v := nI 4) (nx := 86) dX6_nextBy_85 rfl rfl ?_
        refine X_goto (tgt := 90) dX6_nextBy_86 rfl ?_
        refine X_istore (i := 5) (nx := 92) dX6_nextBy_90 rfl (by decide) rfl (st_s (st_s (st_s (st_s (st_s (st_0)))))) ?_
        refine X_aload_n (nx := 93) dX6_nextBy_92 rfl rfl rfl ?_
        refine M_getP (nx := 96) dX6_nextBy_93 rfl fl_RX6_12 rfl (by first | assumption | rfl | decide | omega) (by first | assumption | rfl | decide | omega) (by first | assumption | rfl | decide | omega) ?_
        refine X_iload_n (nx := 97) dX6_nextBy_96 rfl rfl rfl ?_
        refine X_iload (nx := 99) dX6_nextBy_97 rfl rfl ?_
        refine X_aload_n (nx := 100) dX6_nextBy_99 rfl rfl rfl ?_
        refine M_getI (nx := 103) dX6_nextBy_100 rfl fl_RX6_40 rfl (by first | assumption | rfl | decide | omega) (by first | assumption | rfl | decide | omega) ?_
        refine X_top (hw) ?_
        refine Y_Vi3 (nx := 106) dX6_nextBy_103 rfl ml_RX6_111 kj_X5_nodeBehind kv_X5_nodeBehind (sp_X5_nodeBehind h rfl hj rfl (by omega) rfl hw2) (by first | assumption | rfl | decide | omega) (by first | assumption | rfl | decide | omega) (by decide) rfl (by first | decide | omega) (by exact Nat.le_of_ble_eq_true rfl) ?_
        exact Y_reti dX6_nextBy_106 (Or.inl rfl) (by first | (rw [nxI_o h8]; rfl) | (rw [nxI_e h8 (edg_C1 h82)]; done) | (rw [nxI_e h8 (edg_C2 h82)]; done) | (rw [nxI_e h8 (show edg 76 _ = some _ from rfl)]; done) | (rw [nxI_e h8 (show edg 65 _ = some _ from rfl)]; done) | (rw [nxI_n rfl]; rfl)) rfl
    · skip
      refine X_top (y := 82) (rfl) ?_
      refine X_lookup (tgt := 122) (off := 97) dX6_nextBy_25 (by decide) (by decide) rfl ?_
      refine X_bipush (v := -9) (nx := 124) dX6_nextBy_122 rfl rfl ?_
      exact Y_reti dX6_nextBy_124 (Or.inl rfl) (by first | (rw [nxI_o h8]; rfl) | (rw [nxI_e h8 (edg_C1 h82)]; done) | (rw [nxI_e h8 (edg_C2 h82)]; done) | (rw [nxI_e h8 (show edg 76 _ = some _ from rfl)]; done) | (rw [nxI_e h8 (show edg 65 _ = some _ from rfl)]; done) | (rw [nxI_n rfl]; rfl)) rfl
    · skip
      refine X_top (y := 77) (rfl) ?_
      refine X_lookup (tgt := 122) (off := 97) dX6_nextBy_25 (by decide) (by decide) rfl ?_
      refine X_bipush (v := -9) (nx := 124) dX6_nextBy_122 rfl rfl ?_
      exact Y_reti dX6_nextBy_124 (Or.inl rfl) (by first | (rw [nxI_o h8]; rfl) | (rw [nxI_e h8 (edg_C1 h82)]; done) | (rw [nxI_e h8 (edg_C2 h82)]; done) | (rw [nxI_e h8 (show edg 76 _ = some _ from rfl)]; done) | (rw [nxI_e h8 (show edg 65 _ = some _ from rfl)]; done) | (rw [nxI_n rfl]; rfl)) rfl
  · skip
    rw [nI_ltI (by omega) (by omega)] at h8
    refine X_bipush (v := -9) (nx := 13) dX6_nextBy_11 rfl rfl ?_
    exact Y_reti dX6_nextBy_13 (Or.inl rfl) (by first | (rw [nxI_o h8]; rfl) | (rw [nxI_e h8 (edg_C1 h82)]; done) | (rw [nxI_e h8 (edg_C2 h82)]; done) | (rw [nxI_e h8 (show edg 76 _ = some _ from rfl)]; done) | (rw [nxI_e h8 (show edg 65 _ = some _ from rfl)]; done) | (rw [nxI_n rfl]; rfl)) rfl
end
section
section EB
variable {RS EN : Nd → Nat → Bool} {SV : Nat → Nat → Bool} {q : Nd} {w v s a : Nat} {L : List Nat}
theorem eb_R (hs : s = 82) : fst_ (mkn (RS q) 10 &&& w &&& mkn (SV v) 10).testBit 0 10 = ebF RS EN SV q w v L s a :=
  fst_congr fun r _ hr => by rw [and3m r (by omega), if_pos hs]
theorem eb_E (hs : ¬ s = 82) (h2 : s = 69) (h3 : a = L.length) : fst_ (mkn (EN q) 10 &&& w &&& mkn (SV v) 10).testBit 0 10 = ebF RS EN SV q w v L s a :=
  fst_congr fun r _ hr => by rw [and3m r (by omega), if_neg hs, if_pos ⟨h2, h3⟩]
theorem eb_0 (hs : ¬ s = 82) (h : ¬ (s = 69 ∧ a = L.length)) : fst_ (mkn (fun _ => false) 10 &&& w &&& mkn (SV v) 10).testBit 0 10 = ebF RS EN SV q w v L s a :=
  fst_congr fun r _ hr => by rw [and3m r (by omega), if_neg hs, if_neg h]
theorem and_lt10 {p : Nat → Bool} {x y : Nat} : mkn p 10 &&& x &&& y < 1024 := Nat.lt_of_le_of_lt (Nat.le_trans Nat.and_le_left Nat.and_le_left) (mkn_lt p 10)
theorem z_mk : (0 : Int32) = nI (mkn (fun _ => false) 10) := by decide
end EB
theorem dX6_endBy_0 : decode cX6_endBy 0 = .ok (.iconst 0, 1) := by decide +kernel
theorem dX6_endBy_1 : decode cX6_endBy 1 = .ok (.istore 5, 2) := by decide +kernel
theorem dX6_endBy_3 : decode cX6_endBy 3 = .ok (.iload_n 1, 1) := by decide +kernel
theorem dX6_endBy_4 : decode cX6_endBy 4 = .ok (.bipush 82, 2) := by decide +kernel
theorem dX6_endBy_6 : decode cX6_endBy 6 = .ok (.if_icmp .ne 19, 3) := by decide +kernel
theorem dX6_endBy_9 : decode cX6_endBy 9 = .ok (.aload_n 0, 1) := by decide +kernel
theorem dX6_endBy_10 : decode cX6_endBy 10 = .ok (.getfield 12, 3) := by decide +kernel
theorem dX6_endBy_13 : decode cX6_endBy 13 = .ok (.getfield 131, 3) := by decide +kernel
theorem dX6_endBy_16 : decode cX6_endBy 16 = .ok (.iload_n 2, 1) := by decide +kernel
theorem dX6_endBy_17 : decode cX6_endBy 17 = .ok (.invokestatic 63, 3) := by decide +kernel
theorem dX6_endBy_20 : decode cX6_endBy 20 = .ok (.istore 5, 2) := by decide +kernel
theorem dX6_endBy_22 : decode cX6_endBy 22 = .ok (.goto 33, 3) := by decide +kernel
theorem dX6_endBy_25 : decode cX6_endBy 25 = .ok (.iload_n 1, 1) := by decide +kernel
theorem dX6_endBy_26 : decode cX6_endBy 26 = .ok (.bipush 69, 2) := by decide +kernel
theorem dX6_endBy_28 : decode cX6_endBy 28 = .ok (.if_icmp .ne 27, 3) := by decide +kernel
theorem dX6_endBy_31 : decode cX6_endBy 31 = .ok (.iload_n 3, 1) := by decide +kernel
theorem dX6_endBy_32 : decode cX6_endBy 32 = .ok (.aload_n 0, 1) := by decide +kernel
theorem dX6_endBy_33 : decode cX6_endBy 33 = .ok (.getfield 21, 3) := by decide +kernel
theorem dX6_endBy_36 : decode cX6_endBy 36 = .ok (.getfield 70, 3) := by decide +kernel
theorem dX6_endBy_39 : decode cX6_endBy 39 = .ok (.if_icmp .ne 16, 3) := by decide +kernel
theorem dX6_endBy_42 : decode cX6_endBy 42 = .ok (.aload_n 0, 1) := by decide +kernel
theorem dX6_endBy_43 : decode cX6_endBy 43 = .ok (.getfield 12, 3) := by decide +kernel
theorem dX6_endBy_46 : decode cX6_endBy 46 = .ok (.getfield 134, 3) := by decide +kernel
theorem dX6_endBy_49 : decode cX6_endBy 49 = .ok (.iload_n 2, 1) := by decide +kernel
theorem dX6_endBy_50 : decode cX6_endBy 50 = .ok (.invokestatic 63, 3) := by decide +kernel
theorem dX6_endBy_53 : decode cX6_endBy 53 = .ok (.istore 5, 2) := by decide +kernel
theorem dX6_endBy_55 : decode cX6_endBy 55 = .ok (.iload 5, 2) := by decide +kernel
theorem dX6_endBy_57 : decode cX6_endBy 57 = .ok (.aload_n 0, 1) := by decide +kernel
theorem dX6_endBy_58 : decode cX6_endBy 58 = .ok (.getfield 40, 3) := by decide +kernel
theorem dX6_endBy_61 : decode cX6_endBy 61 = .ok (.iand, 1) := by decide +kernel
theorem dX6_endBy_62 : decode cX6_endBy 62 = .ok (.aload_n 0, 1) := by decide +kernel
theorem dX6_endBy_63 : decode cX6_endBy 63 = .ok (.getfield 12, 3) := by decide +kernel
theorem dX6_endBy_66 : decode cX6_endBy 66 = .ok (.getfield 137, 3) := by decide +kernel
theorem dX6_endBy_69 : decode cX6_endBy 69 = .ok (.aload_n 0, 1) := by decide +kernel
theorem dX6_endBy_70 : decode cX6_endBy 70 = .ok (.getfield 36, 3) := by decide +kernel
theorem dX6_endBy_73 : decode cX6_endBy 73 = .ok (.invokestatic 63, 3) := by decide +kernel
theorem dX6_endBy_76 : decode cX6_endBy 76 = .ok (.iand, 1) := by decide +kernel
theorem dX6_endBy_77 : decode cX6_endBy 77 = .ok (.invokestatic 140, 3) := by decide +kernel
theorem dX6_endBy_80 : decode cX6_endBy 80 = .ok (.istore 6, 2) := by decide +kernel
theorem dX6_endBy_82 : decode cX6_endBy 82 = .ok (.iload 6, 2) := by decide +kernel
theorem dX6_endBy_84 : decode cX6_endBy 84 = .ok (.ifCond .lt 22, 3) := by decide +kernel
theorem dX6_endBy_87 : decode cX6_endBy 87 = .ok (.aload_n 0, 1) := by decide +kernel
theorem dX6_endBy_88 : decode cX6_endBy 88 = .ok (.iload 4, 2) := by decide +kernel
theorem dX6_endBy_90 : decode cX6_endBy 90 = .ok (.putfield 143, 3) := by decide +kernel
theorem dX6_endBy_93 : decode cX6_endBy 93 = .ok (.aload_n 0, 1) := by decide +kernel
theorem dX6_endBy_94 : decode cX6_endBy 94 = .ok (.aload_n 0, 1) := by decide +kernel
theorem dX6_endBy_95 : decode cX6_endBy 95 = .ok (.getfield 21, 3) := by decide +kernel
theorem dX6_endBy_98 : decode cX6_endBy 98 = .ok (.getfield 70, 3) := by decide +kernel
theorem dX6_endBy_101 : decode cX6_endBy 101 = .ok (.iload_n 3, 1) := by decide +kernel
theorem dX6_endBy_102 : decode cX6_endBy 102 = .ok (.isub, 1) := by decide +kernel
theorem dX6_endBy_103 : decode cX6_endBy 103 = .ok (.putfield 145, 3) := by decide +kernel
theorem dX6_endBy_106 : decode cX6_endBy 106 = .ok (.iload 6, 2) := by decide +kernel
theorem dX6_endBy_108 : decode cX6_endBy 108 = .ok (.ireturn, 1) := by decide +kernel
theorem sp_X6_endBy {B : Bk} {nl : List Nd} {PS EN RS MN : Nd → Nat → Bool} {SV : Nat → Nat → Bool} {MO : Nat → Bool} {L : List Nat} {w v j s a ms : Nat} {x y z t : Int32} {D : Mem} (h : TE D B nl PS EN RS MN SV MO) (hL : LET D 92 L) (hw : D 79 5 = nI w) (hv0 : D 79 4 = nI v) (hv : v < 4) (hj : j < nl.length) (hx : x = nI s) (hs : s < 128) (hy : y = nI j) (hz : z = nI a) (ha : a ≤ L.length) (ht : t = nI ms) : Ei 3 j_X6_endBy [.ref 79, .int x, .int y, .int z, .int t] D (opI (ebF RS EN SV (ng nl j) w v L s a)) (ebD D (ebF RS EN SV (ng nl j) w v L s a) ms (L.length - a)) := by
  refine E.start 2 (ls := [some (.ref 79), some (.int x), some (.int y), some (.int z), some (.int t), none, none]) (by decide +kernel) (Nat.le_of_ble_eq_true rfl) rfl (Nat.le_refl _) (Nat.le_refl _) ?_
  subst hx; subst hy; subst hz; subst ht
  have hp : isPa 92 := Or.inl rfl
  have hb := hL.1
  have hn43 := h.2.1.2.1
  have hly : (lay 82).2 = 43 ∧ (lay 83).2 = 43 ∧ (lay 84).2 = 43 ∧ (lay 85).2 = 43 ∧ (lay 86).2 = 43 ∧ (lay 81).2 = 301 ∧ (lay 87).2 = 10 ∧ (lay 88).2 = 4 ∧ (lay 89).2 = 3 ∧ (lay 90).2 = 3 ∧ (lay 91).2 = 3 ∧ (lay 94).2 = 3 ∧ (lay 95).2 = 3 := by decide
  obtain ⟨n1, n2, n3, n4, n5, n6⟩ := h.2.2.1 j hj
  refine X_iconst (v := 0) (nx := 1) dX6_endBy_0 rfl rfl ?_
  refine X_istore (i := 5) (nx := 3) dX6_endBy_1 rfl (by decide) rfl (st_s (st_s (st_s (st_s (st_s (st_0)))))) ?_
  refine X_iload_n (nx := 4) dX6_endBy_3 rfl rfl rfl ?_
  refine X_bipush (v := nI 82) (nx := 6) dX6_endBy_4 rfl rfl ?_
  refine X_icmp_ne (tgt := 25) (nx := 9) dX6_endBy_6 rfl rfl (fun h6 => ?_) (fun h6 => ?_)
  · skip
    rw [nI_eq (by omega) (by omega)] at h6
    refine X_iload_n (nx := 26) dX6_endBy_25 rfl rfl rfl ?_
    refine X_bipush (v := nI 69) (nx := 28) dX6_endBy_26 rfl rfl ?_
    refine X_icmp_ne (tgt := 55) (nx := 31) dX6_endBy_28 rfl rfl (fun h28 => ?_) (fun h28 => ?_)
    · skip
      rw [nI_eq (by omega) (by omega)] at h28
      refine X_iload (nx := 57) dX6_endBy_55 rfl rfl ?_
      refine X_top ((by first | exact z_mk | rfl)) ?_
      refine X_aload_n (nx := 58) dX6_endBy_57 rfl rfl rfl ?_
      refine M_getI (nx := 61) dX6_endBy_58 rfl fl_RX6_40 rfl (by first | assumption | rfl | decide | omega) (by first | assumption | rfl | decide | omega) ?_
      refine X_top (hw) ?_
      refine X_iand (nx := 62) dX6_endBy_61 rfl ?_
      refine X_top (nI_and _ _) ?_
      refine X_aload_n (nx := 63) dX6_endBy_62 rfl rfl rfl ?_
      refine M_getP (nx := 66) dX6_endBy_63 rfl fl_RX6_12 rfl (by first | assumption | rfl | decide | omega) (by first | assumption | rfl | decide | omega) (by first | assumption | rfl | decide | omega) ?_
      refine M_getP (nx := 69) dX6_endBy_66 rfl fl_RX6_137 rfl (by first | assumption | rfl | decide | omega) (by first | assumption | rfl | decide | omega) (by first | assumption | rfl | decide | omega) ?_
      refine X_aload_n (nx := 70) dX6_endBy_69 rfl rfl rfl ?_
      refine M_getI (nx := 73) dX6_endBy_70 rfl fl_RX6_36 rfl (by first | assumption | rfl | decide | omega) (by first | assumption | rfl | decide | omega) ?_
      refine Y_Si2 (nx := 76) dX6_endBy_73 rfl ml_RX6_63 kj_X7_numberAt ks_X7_numberAt (sp_X7_numberAt (i := v) (by decide) (by decide) hv0 (by omega)) (by first | decide | omega) (by exact Nat.le_of_ble_eq_true rfl) ?_
      refine X_top (h.2.2.2.1 v hv) ?_
      refine X_iand (nx := 77) dX6_endBy_76 rfl ?_
      refine X_top (nI_and _ _) ?_
      refine Y_Si1 (nx := 80) dX6_endBy_77 rfl ml_RX6_140 kj_X7_leastOf ks_X7_leastOf (sp_X7_leastOf rfl and_lt10) (by first | decide | omega) (by exact Nat.le_of_ble_eq_true rfl) ?_
      refine X_istore (i := 6) (nx := 82) dX6_endBy_80 rfl (by decide) rfl (st_s (st_s (st_s (st_s (st_s (st_s (st_0))))))) ?_
      refine X_iload (nx := 84) dX6_endBy_82 rfl rfl ?_
      refine X_if_lt (tgt := 106) (nx := 87) dX6_endBy_84 rfl rfl (fun h84 => ?_) (fun h84 => ?_)
      · skip
        have hn := opI_lt h84 (fun k hk => by have := (fst_some hk).2.1; omega)
        have he : ebF RS EN SV (ng nl j) w v L s a = none := by first | exact (eb_R h6).symm.trans hn | exact (eb_E h6 h28 h39).symm.trans hn | exact (eb_0 h6 (fun q => h39 q.2)).symm.trans hn | exact (eb_0 h6 (fun q => h28 q.1)).symm.trans hn
        rw [he, hn]
        refine X_iload (nx := 108) dX6_endBy_106 rfl rfl ?_
        exact Y_reti dX6_endBy_108 (Or.inl rfl) rfl rfl
      · skip
        obtain ⟨k, hk⟩ := Option.isSome_iff_exists.mp (opI_ge h84)
        have he : ebF RS EN SV (ng nl j) w v L s a = some k := by first | exact (eb_R h6).symm.trans hk | exact (eb_E h6 h28 h39).symm.trans hk | exact (eb_0 h6 (fun q => h39 q.2)).symm.trans hk | exact (eb_0 h6 (fun q => h28 q.1)).symm.trans hk
        rw [he, hk]
        refine X_aload_n (nx := 88) dX6_endBy_87 rfl rfl rfl ?_
        refine X_iload (nx := 90) dX6_endBy_88 rfl rfl ?_
        refine M_putI (nx := 93) dX6_endBy_90 rfl fl_RX6_143 rfl rfl (by first | assumption | rfl | decide | omega) (by first | assumption | rfl | decide | omega) ?_
        refine X_aload_n (nx := 94) dX6_endBy_93 rfl rfl rfl ?_
        refine X_aload_n (nx := 95) dX6_endBy_94 rfl rfl rfl ?_
        refine M_getP (nx := 98) dX6_endBy_95 rfl fl_RX6_21 rfl (by first | assumption | rfl | decide | omega) (by first | assumption | rfl | decide | omega) (by first | assumption | rfl | decide | omega) ?_
        refine M_getI (nx := 101) dX6_endBy_98 rfl fl_RX6_70 rfl (by first | assumption | rfl | decide | omega) (by first | assumption | rfl | decide | omega) ?_
        refine X_top (((up2_other (by omega)).trans hL.2.1)) ?_
        refine X_iload_n (nx := 102) dX6_endBy_101 rfl rfl rfl ?_
        refine X_isub (nx := 103) dX6_endBy_102 rfl ?_
        refine X_top (sub_nI ha) ?_
        refine M_putI (nx := 106) dX6_endBy_103 rfl fl_RX6_145 rfl rfl (by first | assumption | rfl | decide | omega) (by first | assumption | rfl | decide | omega) ?_
        refine X_iload (nx := 108) dX6_endBy_106 rfl rfl ?_
        exact Y_reti dX6_endBy_108 (Or.inl rfl) rfl rfl
    · skip
      rw [nI_eq (by omega) (by omega)] at h28
      refine X_iload_n (nx := 32) dX6_endBy_31 rfl rfl rfl ?_
      refine X_aload_n (nx := 33) dX6_endBy_32 rfl rfl rfl ?_
      refine M_getP (nx := 36) dX6_endBy_33 rfl fl_RX6_21 rfl (by first | assumption | rfl | decide | omega) (by first | assumption | rfl | decide | omega) (by first | assumption | rfl | decide | omega) ?_
      refine M_getI (nx := 39) dX6_endBy_36 rfl fl_RX6_70 rfl (by first | assumption | rfl | decide | omega) (by first | assumption | rfl | decide | omega) ?_
      refine X_top (hL.2.1) ?_
      refine X_icmp_ne (tgt := 55) (nx := 42) dX6_endBy_39 rfl rfl (fun h39 => ?_) (fun h39 => ?_)
      · skip
        rw [nI_eq (by omega) (by omega)] at h39
        refine X_iload (nx := 57) dX6_endBy_55 rfl rfl ?_
        refine X_top ((by first | exact z_mk | rfl)) ?_
        refine X_aload_n (nx := 58) dX6_endBy_57 rfl rfl rfl ?_
        refine M_getI (nx := 61) dX6_endBy_58 rfl fl_RX6_40 rfl (by first | assumption | rfl | decide | omega) (by first | assumption | rfl | decide | omega) ?_
        refine X_top (hw) ?_
        refine X_iand (nx := 62) dX6_endBy_61 rfl ?_
        refine X_top (nI_and _ _) ?_
        refine X_aload_n (nx := 63) dX6_endBy_62 rfl rfl rfl ?_
        refine M_getP (nx := 66) dX6_endBy_63 rfl fl_RX6_12 rfl (by first | assumption | rfl | decide | omega) (by first | assumption | rfl | decide | omega) (by first | assumption | rfl | decide | omega) ?_
        refine M_getP (nx := 69) dX6_endBy_66 rfl fl_RX6_137 rfl (by first | assumption | rfl | decide | omega) (by first | assumption | rfl | decide | omega) (by first | assumption | rfl | decide | omega) ?_
        refine X_aload_n (nx := 70) dX6_endBy_69 rfl rfl rfl ?_
        refine M_getI (nx := 73) dX6_endBy_70 rfl fl_RX6_36 rfl (by first | assumption | rfl | decide | omega) (by first | assumption | rfl | decide | omega) ?_
        refine Y_Si2 (nx := 76) dX6_endBy_73 rfl ml_RX6_63 kj_X7_numberAt ks_X7_numberAt (sp_X7_numberAt (i := v) (by decide) (by decide) hv0 (by omega)) (by first | decide | omega) (by exact Nat.le_of_ble_eq_true rfl) ?_
        refine X_top (h.2.2.2.1 v hv) ?_
        refine X_iand (nx := 77) dX6_endBy_76 rfl ?_
        refine X_top (nI_and _ _) ?_
        refine Y_Si1 (nx := 80) dX6_endBy_77 rfl ml_RX6_140 kj_X7_leastOf ks_X7_leastOf (sp_X7_leastOf rfl and_lt10) (by first | decide | omega) (by exact Nat.le_of_ble_eq_true rfl) ?_
        refine X_istore (i := 6) (nx := 82) dX6_endBy_80 rfl (by decide) rfl (st_s (st_s (st_s (st_s (st_s (st_s (st_0))))))) ?_
        refine X_iload (nx := 84) dX6_endBy_82 rfl rfl ?_
        refine X_if_lt (tgt := 106) (nx := 87) dX6_endBy_84 rfl rfl (fun h84 => ?_) (fun h84 => ?_)
        · skip
          have hn := opI_lt h84 (fun k hk => by have := (fst_some hk).2.1; omega)
          have he : ebF RS EN SV (ng nl j) w v L s a = none := by first | exact (eb_R h6).symm.trans hn | exact (eb_E h6 h28 h39).symm.trans hn | exact (eb_0 h6 (fun q => h39 q.2)).symm.trans hn | exact (eb_0 h6 (fun q => h28 q.1)).symm.trans hn
          rw [he, hn]
          refine X_iload (nx := 108) dX6_endBy_106 rfl rfl ?_
          exact Y_reti dX6_endBy_108 (Or.inl rfl) rfl rfl
        · skip
          obtain ⟨k, hk⟩ := Option.isSome_iff_exists.mp (opI_ge h84)
          have he : ebF RS EN SV (ng nl j) w v L s a = some k := by first | exact (eb_R h6).symm.trans hk | exact (eb_E h6 h28 h39).symm.trans hk | exact (eb_0 h6 (fun q => h39 q.2)).symm.trans hk | exact (eb_0 h6 (fun q => h28 q.1)).symm.trans hk
          rw [he, hk]
          refine X_aload_n (nx := 88) dX6_endBy_87 rfl rfl rfl ?_
          refine X_iload (nx := 90) dX6_endBy_88 rfl rfl ?_
          refine M_putI (nx := 93) dX6_endBy_90 rfl fl_RX6_143 rfl rfl (by first | assumption | rfl | decide | omega) (by first | assumption | rfl | decide | omega) ?_
          refine X_aload_n (nx := 94) dX6_endBy_93 rfl rfl rfl ?_
          refine X_aload_n (nx := 95) dX6_endBy_94 rfl rfl rfl ?_
          refine M_getP (nx := 98) dX6_endBy_95 rfl fl_RX6_21 rfl (by first | assumption | rfl | decide | omega) (by first | assumption | rfl | decide | omega) (by first | assumption | rfl | decide | omega) ?_
          refine M_getI (nx := 101) dX6_endBy_98 rfl fl_RX6_70 rfl (by first | assumption | rfl | decide | omega) (by first | assumption | rfl | decide | omega) ?_
          refine X_top (((up2_other (by omega)).trans hL.2.1)) ?_
          refine X_iload_n (nx := 102) dX6_endBy_101 rfl rfl rfl ?_
          refine X_isub (nx := 103) dX6_endBy_102 rfl ?_
          refine X_top (sub_nI ha) ?_
          refine M_putI (nx := 106) dX6_endBy_103 rfl fl_RX6_145 rfl rfl (by first | assumption | rfl | decide | omega) (by first | assumption | rfl | decide | omega) ?_
          refine X_iload (nx := 108) dX6_endBy_106 rfl rfl ?_
          exact Y_reti dX6_endBy_108 (Or.inl rfl) rfl rfl
      · skip
        rw [nI_eq (by omega) (by omega)] at h39
        refine X_aload_n (nx := 43) dX6_endBy_42 rfl rfl rfl ?_
        refine M_getP (nx := 46) dX6_endBy_43 rfl fl_RX6_12 rfl (by first | assumption | rfl | decide | omega) (by first | assumption | rfl | decide | omega) (by first | assumption | rfl | decide | omega) ?_
        refine M_getP (nx := 49) dX6_endBy_46 rfl fl_RX6_134 rfl (by first | assumption | rfl | decide | omega) (by first | assumption | rfl | decide | omega) (by first | assumption | rfl | decide | omega) ?_
        refine X_iload_n (nx := 50) dX6_endBy_49 rfl rfl rfl ?_
        refine Y_Si2 (nx := 53) dX6_endBy_50 rfl ml_RX6_63 kj_X7_numberAt ks_X7_numberAt (sp_X7_numberAt (i := j) (by decide) (by decide) rfl (by omega)) (by first | decide | omega) (by exact Nat.le_of_ble_eq_true rfl) ?_
        refine X_top (n3) ?_
        refine X_istore (i := 5) (nx := 55) dX6_endBy_53 rfl (by decide) rfl (st_s (st_s (st_s (st_s (st_s (st_0)))))) ?_
        refine X_iload (nx := 57) dX6_endBy_55 rfl rfl ?_
        refine X_top ((by first | exact z_mk | rfl)) ?_
        refine X_aload_n (nx := 58) dX6_endBy_57 rfl rfl rfl ?_
        refine M_getI (nx := 61) dX6_endBy_58 rfl fl_RX6_40 rfl (by first | assumption | rfl | decide | omega) (by first | assumption | rfl | decide | omega) ?_
        refine X_top (hw) ?_
        refine X_iand (nx := 62) dX6_endBy_61 rfl ?_
        refine X_top (nI_and _ _) ?_
        refine X_aload_n (nx := 63) dX6_endBy_62 rfl rfl rfl ?_
        refine M_getP (nx := 66) dX6_endBy_63 rfl fl_RX6_12 rfl (by first | assumption | rfl | decide | omega) (by first | assumption | rfl | decide | omega) (by first | assumption | rfl | decide | omega) ?_
        refine M_getP (nx := 69) dX6_endBy_66 rfl fl_RX6_137 rfl (by first | assumption | rfl | decide | omega) (by first | assumption | rfl | decide | omega) (by first | assumption | rfl | decide | omega) ?_
        refine X_aload_n (nx := 70) dX6_endBy_69 rfl rfl rfl ?_
        refine M_getI (nx := 73) dX6_endBy_70 rfl fl_RX6_36 rfl (by first | assumption | rfl | decide | omega) (by first | assumption | rfl | decide | omega) ?_
        refine Y_Si2 (nx := 76) dX6_endBy_73 rfl ml_RX6_63 kj_X7_numberAt ks_X7_numberAt (sp_X7_numberAt (i := v) (by decide) (by decide) hv0 (by omega)) (by first | decide | omega) (by exact Nat.le_of_ble_eq_true rfl) ?_
        refine X_top (h.2.2.2.1 v hv) ?_
        refine X_iand (nx := 77) dX6_endBy_76 rfl ?_
        refine X_top (nI_and _ _) ?_
        refine Y_Si1 (nx := 80) dX6_endBy_77 rfl ml_RX6_140 kj_X7_leastOf ks_X7_leastOf (sp_X7_leastOf rfl and_lt10) (by first | decide | omega) (by exact Nat.le_of_ble_eq_true rfl) ?_
        refine X_istore (i := 6) (nx := 82) dX6_endBy_80 rfl (by decide) rfl (st_s (st_s (st_s (st_s (st_s (st_s (st_0))))))) ?_
        refine X_iload (nx := 84) dX6_endBy_82 rfl rfl ?_
        refine X_if_lt (tgt := 106) (nx := 87) dX6_endBy_84 rfl rfl (fun h84 => ?_) (fun h84 => ?_)
        · skip
          have hn := opI_lt h84 (fun k hk => by have := (fst_some hk).2.1; omega)
          have he : ebF RS EN SV (ng nl j) w v L s a = none := by first | exact (eb_R h6).symm.trans hn | exact (eb_E h6 h28 h39).symm.trans hn | exact (eb_0 h6 (fun q => h39 q.2)).symm.trans hn | exact (eb_0 h6 (fun q => h28 q.1)).symm.trans hn
          rw [he, hn]
          refine X_iload (nx := 108) dX6_endBy_106 rfl rfl ?_
          exact Y_reti dX6_endBy_108 (Or.inl rfl) rfl rfl
        · skip
          obtain ⟨k, hk⟩ := Option.isSome_iff_exists.mp (opI_ge h84)
          have he : ebF RS EN SV (ng nl j) w v L s a = some k := by first | exact (eb_R h6).symm.trans hk | exact (eb_E h6 h28 h39).symm.trans hk | exact (eb_0 h6 (fun q => h39 q.2)).symm.trans hk | exact (eb_0 h6 (fun q => h28 q.1)).symm.trans hk
          rw [he, hk]
          refine X_aload_n (nx := 88) dX6_endBy_87 rfl rfl rfl ?_
          refine X_iload (nx := 90) dX6_endBy_88 rfl rfl ?_
          refine M_putI (nx := 93) dX6_endBy_90 rfl fl_RX6_143 rfl rfl (by first | assumption | rfl | decide | omega) (by first | assumption | rfl | decide | omega) ?_
          refine X_aload_n (nx := 94) dX6_endBy_93 rfl rfl rfl ?_
          refine X_aload_n (nx := 95) dX6_endBy_94 rfl rfl rfl ?_
          refine M_getP (nx := 98) dX6_endBy_95 rfl fl_RX6_21 rfl (by first | assumption | rfl | decide | omega) (by first | assumption | rfl | decide | omega) (by first | assumption | rfl | decide | omega) ?_
          refine M_getI (nx := 101) dX6_endBy_98 rfl fl_RX6_70 rfl (by first | assumption | rfl | decide | omega) (by first | assumption | rfl | decide | omega) ?_
          refine X_top (((up2_other (by omega)).trans hL.2.1)) ?_
          refine X_iload_n (nx := 102) dX6_endBy_101 rfl rfl rfl ?_
          refine X_isub (nx := 103) dX6_endBy_102 rfl ?_
          refine X_top (sub_nI ha) ?_
          refine M_putI (nx := 106) dX6_endBy_103 rfl fl_RX6_145 rfl rfl (by first | assumption | rfl | decide | omega) (by first | assumption | rfl | decide | omega) ?_
          refine X_iload (nx := 108) dX6_endBy_106 rfl rfl ?_
          exact Y_reti dX6_endBy_108 (Or.inl rfl) rfl rfl
  · skip
    rw [nI_eq (by omega) (by omega)] at h6
    refine X_aload_n (nx := 10) dX6_endBy_9 rfl rfl rfl ?_
    refine M_getP (nx := 13) dX6_endBy_10 rfl fl_RX6_12 rfl (by first | assumption | rfl | decide | omega) (by first | assumption | rfl | decide | omega) (by first | assumption | rfl | decide | omega) ?_
    refine M_getP (nx := 16) dX6_endBy_13 rfl fl_RX6_131 rfl (by first | assumption | rfl | decide | omega) (by first | assumption | rfl | decide | omega) (by first | assumption | rfl | decide | omega) ?_
    refine X_iload_n (nx := 17) dX6_endBy_16 rfl rfl rfl ?_
    refine Y_Si2 (nx := 20) dX6_endBy_17 rfl ml_RX6_63 kj_X7_numberAt ks_X7_numberAt (sp_X7_numberAt (i := j) (by decide) (by decide) rfl (by omega)) (by first | decide | omega) (by exact Nat.le_of_ble_eq_true rfl) ?_
    refine X_top (n4) ?_
    refine X_istore (i := 5) (nx := 22) dX6_endBy_20 rfl (by decide) rfl (st_s (st_s (st_s (st_s (st_s (st_0)))))) ?_
    refine X_goto (tgt := 55) dX6_endBy_22 rfl ?_
    refine X_iload (nx := 57) dX6_endBy_55 rfl rfl ?_
    refine X_top ((by first | exact z_mk | rfl)) ?_
    refine X_aload_n (nx := 58) dX6_endBy_57 rfl rfl rfl ?_
    refine M_getI (nx := 61) dX6_endBy_58 rfl fl_RX6_40 rfl (by first | assumption | rfl | decide | omega) (by first | assumption | rfl | decide | omega) ?_
    refine X_top (hw) ?_
    refine X_iand (nx := 62) dX6_endBy_61 rfl ?_
    refine X_top (nI_and _ _) ?_
    refine X_aload_n (nx := 63) dX6_endBy_62 rfl rfl rfl ?_
    refine M_getP (nx := 66) dX6_endBy_63 rfl fl_RX6_12 rfl (by first | assumption | rfl | decide | omega) (by first | assumption | rfl | decide | omega) (by first | assumption | rfl | decide | omega) ?_
    refine M_getP (nx := 69) dX6_endBy_66 rfl fl_RX6_137 rfl (by first | assumption | rfl | decide | omega) (by first | assumption | rfl | decide | omega) (by first | assumption | rfl | decide | omega) ?_
    refine X_aload_n (nx := 70) dX6_endBy_69 rfl rfl rfl ?_
    refine M_getI (nx := 73) dX6_endBy_70 rfl fl_RX6_36 rfl (by first | assumption | rfl | decide | omega) (by first | assumption | rfl | decide | omega) ?_
    refine Y_Si2 (nx := 76) dX6_endBy_73 rfl ml_RX6_63 kj_X7_numberAt ks_X7_numberAt (sp_X7_numberAt (i := v) (by decide) (by decide) hv0 (by omega)) (by first | decide | omega) (by exact Nat.le_of_ble_eq_true rfl) ?_
    refine X_top (h.2.2.2.1 v hv) ?_
    refine X_iand (nx := 77) dX6_endBy_76 rfl ?_
    refine X_top (nI_and _ _) ?_
    refine Y_Si1 (nx := 80) dX6_endBy_77 rfl ml_RX6_140 kj_X7_leastOf ks_X7_leastOf (sp_X7_leastOf rfl and_lt10) (by first | decide | omega) (by exact Nat.le_of_ble_eq_true rfl) ?_
    refine X_istore (i := 6) (nx := 82) dX6_endBy_80 rfl (by decide) rfl (st_s (st_s (st_s (st_s (st_s (st_s (st_0))))))) ?_
    refine X_iload (nx := 84) dX6_endBy_82 rfl rfl ?_
    refine X_if_lt (tgt := 106) (nx := 87) dX6_endBy_84 rfl rfl (fun h84 => ?_) (fun h84 => ?_)
    · skip
      have hn := opI_lt h84 (fun k hk => by have := (fst_some hk).2.1; omega)
      have he : ebF RS EN SV (ng nl j) w v L s a = none := by first | exact (eb_R h6).symm.trans hn | exact (eb_E h6 h28 h39).symm.trans hn | exact (eb_0 h6 (fun q => h39 q.2)).symm.trans hn | exact (eb_0 h6 (fun q => h28 q.1)).symm.trans hn
      rw [he, hn]
      refine X_iload (nx := 108) dX6_endBy_106 rfl rfl ?_
      exact Y_reti dX6_endBy_108 (Or.inl rfl) rfl rfl
    · skip
      obtain ⟨k, hk⟩ := Option.isSome_iff_exists.mp (opI_ge h84)
      have he : ebF RS EN SV (ng nl j) w v L s a = some k := by first | exact (eb_R h6).symm.trans hk | exact (eb_E h6 h28 h39).symm.trans hk | exact (eb_0 h6 (fun q => h39 q.2)).symm.trans hk | exact (eb_0 h6 (fun q => h28 q.1)).symm.trans hk
      rw [he, hk]
      refine X_aload_n (nx := 88) dX6_endBy_87 rfl rfl rfl ?_
      refine X_iload (nx := 90) dX6_endBy_88 rfl rfl ?_
      refine M_putI (nx := 93) dX6_endBy_90 rfl fl_RX6_143 rfl rfl (by first | assumption | rfl | decide | omega) (by first | assumption | rfl | decide | omega) ?_
      refine X_aload_n (nx := 94) dX6_endBy_93 rfl rfl rfl ?_
      refine X_aload_n (nx := 95) dX6_endBy_94 rfl rfl rfl ?_
      refine M_getP (nx := 98) dX6_endBy_95 rfl fl_RX6_21 rfl (by first | assumption | rfl | decide | omega) (by first | assumption | rfl | decide | omega) (by first | assumption | rfl | decide | omega) ?_
      refine M_getI (nx := 101) dX6_endBy_98 rfl fl_RX6_70 rfl (by first | assumption | rfl | decide | omega) (by first | assumption | rfl | decide | omega) ?_
      refine X_top (((up2_other (by omega)).trans hL.2.1)) ?_
      refine X_iload_n (nx := 102) dX6_endBy_101 rfl rfl rfl ?_
      refine X_isub (nx := 103) dX6_endBy_102 rfl ?_
      refine X_top (sub_nI ha) ?_
      refine M_putI (nx := 106) dX6_endBy_103 rfl fl_RX6_145 rfl rfl (by first | assumption | rfl | decide | omega) (by first | assumption | rfl | decide | omega) ?_
      refine X_iload (nx := 108) dX6_endBy_106 rfl rfl ?_
      exact Y_reti dX6_endBy_108 (Or.inl rfl) rfl rfl
/-! what a look brings, abstractly: an end with the mounts on the way and what REST took, or nothing; how many nodes were looked at -/
abbrev LR := Option (Nat × List (Nat × Nat) × Nat) × Nat
def addc (c : Nat) (r : LR) : LR := (r.1, c + r.2)
/-- the node behind -/
def nxq (B : Bk) (w : Nat) (L : List Nat) (s a : Nat) (q : Nd) : Option Nd := if L.length ≤ a then none else match edg s (L.getD a 0) with
  | none => none
  | some e => if mkn (PSf B (q.1, q.2 ++ [e])) 10 &&& w = 0 then none else some (q.1, q.2 ++ [e])
def mon (B : Bk) (i : Nat) : Nat := (mo_ B i).toNatClampNeg
def lkM (LK : Nd → Nat → List (Nat × Nat) → LR) (B : Bk) (w : Nat) (q : Nd) (a : Nat) (ms : List (Nat × Nat)) : Nat → Nat → LR
  | _, 0 => (none, 0)
  | i, n + 1 => if (MNf B q i && w.testBit i) = true then
      (if (LK (mon B i, []) a (ms ++ [(i, a)])).1.isSome = true then LK (mon B i, []) a (ms ++ [(i, a)]) else addc (LK (mon B i, []) a (ms ++ [(i, a)])).2 (lkM LK B w q a ms (i + 1) n))
    else lkM LK B w q a ms (i + 1) n
def lkS (LK : Nd → Nat → List (Nat × Nat) → LR) (B : Bk) (w v : Nat) (L : List Nat) (strict : Bool) (q : Nd) (a : Nat) (ms : List (Nat × Nat)) : List Nat → LR
  | [] => (none, 0)
  | s :: r => match nxq B w L s a q with
    | some q' => if (LK q' (a + 1) ms).1.isSome = true then LK q' (a + 1) ms else if strict = true then (none, (LK q' (a + 1) ms).2) else addc (LK q' (a + 1) ms).2 (lkS LK B w v L strict q a ms r)
    | none => if s = 77 then (if (lkM LK B w q a ms 0 10).1.isSome = true then lkM LK B w q a ms 0 10 else addc (lkM LK B w q a ms 0 10).2 (lkS LK B w v L strict q a ms r))
      else match ebF (RSf B) (ENf B) (SVf B) q w v L s a with
        | some e => (some (e, ms, L.length - a), 0)
        | none => lkS LK B w v L strict q a ms r
def lk (B : Bk) (w v : Nat) (L : List Nat) (K F : Nat → Nat) : Nat → Nd → Nat → List (Nat × Nat) → LR
  | 0 => fun _ _ _ => (none, 0)
  | n + 1 => fun q a ms => if K q.1 = 5 ∧ F q.1 < L.length - a then (none, 1) else addc 1 (lkS (lk B w v L K F n) B w v L (decide (K q.1 = 4) || decide (K q.1 = 5)) q a ms (ordS (oi (K q.1))))
/-! what the cells hold -/
def TR (D : Mem) (ml : List (Nat × Nat)) : Prop := ∀ i, i < ml.length → D 94 i = nI (ml.getD i (0, 0)).1 ∧ D 95 (i + 1) = nI (ml.getD i (0, 0)).2
def inW (b : Nat) : Prop := b = 79 ∨ b = 94 ∨ b = 95
def WR (D D' : Mem) (ms : List (Nat × Nat)) (v : Int32) (r : LR) : Prop :=
  v = opI (r.1.map (fun z => z.1)) ∧ D' 79 6 = D 79 6 + nI r.2 ∧ (∀ e ml t, r.1 = some (e, ml, t) → D' 79 7 = nI ml.length ∧ D' 79 8 = nI t ∧ TR D' ml ∧ ml.length ≤ 2 ∧ e < 10) ∧ TR D' ms ∧ D' 95 0 = D 95 0 ∧ (∀ x, x ≠ 6 → x ≠ 7 → x ≠ 8 → D' 79 x = D 79 x) ∧ Fr inW D D'
theorem add32 (x : Int32) (a b : Nat) : x + nI a + nI b = x + nI (a + b) := by rw [Int32.add_assoc, nI_add]
theorem WR.then {D D1 D2 : Mem} {ms : List (Nat × Nat)} {u v : Int32} {r r2 : LR} (h : WR D D1 ms u r) (h2 : WR D1 D2 ms v r2) : WR D D2 ms v (addc r.2 r2) := by
  obtain ⟨a1, a2, a3, a4, a5, a6, a7⟩ := h
  obtain ⟨b1, b2, b3, b4, b5, b6, b7⟩ := h2
  exact ⟨b1, by rw [b2, a2, add32]; rfl, b3, b4, b5.trans a5, fun x h1 h2 h3 => (b6 x h1 h2 h3).trans (a6 x h1 h2 h3), a7.tr b7⟩
theorem WR.miss {D D1 : Mem} {ms : List (Nat × Nat)} {u : Int32} {r : LR} (h : WR D D1 ms u r) : WR D D1 ms (-9) (none, r.2) := by
  obtain ⟨a1, a2, a3, a4, a5, a6, a7⟩ := h
  exact ⟨rfl, a2, fun _ _ _ q => (by cases q), a4, a5, a6, a7⟩
theorem WR.self {D : Mem} {ms : List (Nat × Nat)} (h : TR D ms) : WR D D ms (-9) (none, 0) :=
  ⟨rfl, by rw [show nI 0 = 0 from rfl, Int32.add_zero], fun _ _ _ q => (by cases q), h, rfl, fun _ _ _ _ => rfl, Fr.rf⟩
/-- the trie, kinds and figures as they stand, the path, the verb, who is there -/
def WK_ (D : Mem) (B : Bk) (K F : Nat → Nat) (L : List Nat) (w v : Nat) : Prop :=
  TE D B (nlG B 10) (PSf B) (ENf B) (RSf B) (MNf B) (SVf B) (fun r => thN B r && mtB B r) ∧ (∀ i, i < 3 → D 89 i = nI (K i) ∧ D 90 i = nI (F i) ∧ K i ≤ 5 ∧ F i ≤ 9) ∧ LET D 92 L ∧ D 79 5 = nI w ∧ w < 1024 ∧ D 79 4 = nI v ∧ v < 4
theorem WK_.kept {D D' : Mem} {B : Bk} {K F : Nat → Nat} {L : List Nat} {w v : Nat} (h : WK_ D B K F L w v) (h6 : ∀ x, x ≠ 6 → x ≠ 7 → x ≠ 8 → D' 79 x = D 79 x) (hf : Fr inW D D') : WK_ D' B K F L w v := by
  obtain ⟨h1, h2, h3, h4, h5, h7, h8⟩ := h
  have hb : ∀ b, 80 ≤ b → b ≤ 93 → D' b = D b := fun b g1 g2 => hf b (by unfold inW; omega)
  exact ⟨h1.fr (fun b g1 g2 => hb b (by omega) (by omega)) (by rw [hb 80 (by omega) (by omega)]), fun i hi => ⟨by rw [hb 89 (by omega) (by omega)]; exact (h2 i hi).1, by rw [hb 90 (by omega) (by omega)]; exact (h2 i hi).2.1, (h2 i hi).2.2⟩, h3.fr (hb 92 (by omega) (by omega)) (hb 93 (by omega) (by omega)), (h6 5 (by omega) (by omega) (by omega)).trans h4, h5, (h6 4 (by omega) (by omega) (by omega)).trans h7, h8⟩
theorem WR.wk {D D1 : Mem} {ms : List (Nat × Nat)} {u : Int32} {r : LR} {B : Bk} {K F : Nat → Nat} {L : List Nat} {w v : Nat} (h : WR D D1 ms u r) (hk : WK_ D B K F L w v) : WK_ D1 B K F L w v := hk.kept h.2.2.2.2.2.1 h.2.2.2.2.2.2
theorem nbh_n {nl : List Nd} {PS : Nd → Nat → Bool} {q : Nd} {e w : Nat} (h : nix nl (q.1, q.2 ++ [e]) = none) : nbh nl PS q e w = none := by unfold nbh; rw [h]
theorem nbh_s {nl : List Nd} {PS : Nd → Nat → Bool} {q : Nd} {e w k : Nat} (h : nix nl (q.1, q.2 ++ [e]) = some k) : nbh nl PS q e w = if mkn (PS (q.1, q.2 ++ [e])) 10 &&& w = 0 then none else some k := by unfold nbh; rw [h]
/-- the next node, by its number -/
theorem nxI_q {D : Mem} {B : Bk} {nl : List Nd} {EN RS MN : Nd → Nat → Bool} {SV : Nat → Nat → Bool} {MO : Nat → Bool} (h : TE D B nl (PSf B) EN RS MN SV MO) {q : Nd} {w s a : Nat} {L : List Nat} : (∀ k, nxI nl (PSf B) q w L s a = some k → k < nl.length ∧ nxq B w L s a q = some (ng nl k) ∧ (ng nl k).1 = q.1 ∧ a < L.length) ∧ (nxI nl (PSf B) q w L s a = none → nxq B w L s a q = none) := by
  unfold nxI nxq
  by_cases ha : L.length ≤ a
  · rw [if_pos ha, if_pos ha]
    exact ⟨fun k hk => (by cases hk), fun _ => rfl⟩
  · rw [if_neg ha, if_neg ha]
    cases he : edg s (L.getD a 0) with
    | none => exact ⟨fun k hk => (by cases hk), fun _ => rfl⟩
    | some e =>
      dsimp only
      cases hn : nix nl (q.1, q.2 ++ [e]) with
      | none =>
        rw [nbh_n hn]
        refine ⟨fun k hk => (by cases hk), fun _ => ?_⟩
        have hz : mkn (PSf B (q.1, q.2 ++ [e])) 10 = 0 := mkn_0.mpr fun r hr => (h.2.2.2.2.2 (q.1, q.2 ++ [e]) (fun k hk => nix_none hn hk) r hr).1
        rw [hz, Nat.zero_and, if_pos rfl]
      | some k =>
        obtain ⟨k1, k2⟩ := nix_some hn
        rw [nbh_s hn]
        by_cases hm : mkn (PSf B (q.1, q.2 ++ [e])) 10 &&& w = 0
        · rw [if_pos hm, if_pos hm]
          exact ⟨fun k hk => (by cases hk), fun _ => rfl⟩
        · rw [if_neg hm, if_neg hm]
          exact ⟨fun k' hk => by cases hk; exact ⟨k1, by rw [k2], by rw [k2], by omega⟩, fun q => by cases q⟩
end
section
/-! LOOK -/
theorem WR.lt {D D' : Mem} {ms : List (Nat × Nat)} {u : Int32} {r : LR} (h : WR D D' ms u r) : (u < 0 ↔ r.1 = none) := by
  rw [h.1]
  cases hr : r.1 with
  | none => exact ⟨fun _ => rfl, fun _ => by decide⟩
  | some x =>
    obtain ⟨e, ml, t⟩ := x
    have := (h.2.2.1 e ml t hr).2.2.2.2
    exact ⟨fun q => absurd q (nI_neg (show e < 2147483648 by omega)), fun q => by cases q⟩
theorem WR.hit {D D' : Mem} {ms : List (Nat × Nat)} {u : Int32} {r : LR} (h : WR D D' ms u r) (hu : ¬ u < 0) : r.1.isSome = true := by
  cases hr : r.1 with
  | none => exact absurd (h.lt.mpr hr) hu
  | some x => rfl
theorem TR.sub {D : Mem} {ms : List (Nat × Nat)} {x : Nat × Nat} (h : TR D (ms ++ [x])) : TR D ms := by
  intro i hi
  have := h i (by simp; omega)
  rw [List.getD_eq_getElem?_getD, List.getElem?_append_left hi, ← List.getD_eq_getElem?_getD] at this
  exact this
theorem TR.add {D : Mem} {ms : List (Nat × Nat)} {i a : Nat} (h : TR D ms) : TR (up2 (up2 D 94 ms.length (nI i)) 95 (ms.length + 1) (nI a)) (ms ++ [(i, a)]) := by
  intro k hk
  simp at hk
  by_cases e : k < ms.length
  · rw [List.getD_eq_getElem?_getD, List.getElem?_append_left e, ← List.getD_eq_getElem?_getD]
    obtain ⟨h1, h2⟩ := h k e
    exact ⟨by rw [up2_other (by omega), up2_other (by omega)]; exact h1, by rw [up2_other (by omega), up2_other (by omega)]; exact h2⟩
  · have : k = ms.length := by omega
    subst this
    rw [List.getD_eq_getElem?_getD, List.getElem?_append_right (Nat.le_refl _)]
    simp only [Nat.sub_self, List.getElem?_cons_zero, Option.getD_some]
    exact ⟨by rw [up2_other (by omega)]; exact up2_same, up2_same⟩
/-- a look from a mount, seen from outside -/
theorem WR.out {D D' : Mem} {ms : List (Nat × Nat)} {u : Int32} {r : LR} {i a : Nat} (h : WR (up2 (up2 D 94 ms.length (nI i)) 95 (ms.length + 1) (nI a)) D' (ms ++ [(i, a)]) u r) : WR D D' ms u r := by
  obtain ⟨a1, a2, a3, a4, a5, a6, a7⟩ := h
  refine ⟨a1, a2.trans (by rw [up2_other (by omega), up2_other (by omega)]), a3, a4.sub, a5.trans (by rw [up2_other (by omega), up2_other (by omega)]), fun x h1 h2 h3 => (a6 x h1 h2 h3).trans (by rw [up2_other (by omega), up2_other (by omega)]), fun b hb => (a7 b hb).trans ?_⟩
  unfold inW at hb
  rw [up2_ne (by omega), up2_ne (by omega)]
theorem lkM_0 {LK : Nd → Nat → List (Nat × Nat) → LR} {B : Bk} {w : Nat} {q : Nd} {a : Nat} {ms : List (Nat × Nat)} : ∀ (n i : Nat), (∀ r, i ≤ r → r < i + n → (MNf B q r && w.testBit r) = false) → lkM LK B w q a ms i n = (none, 0) := by
  intro n
  induction n with
  | zero => intro i h; rfl
  | succ n ih =>
    intro i h
    unfold lkM
    rw [h i (by omega) (by omega), if_neg (by decide)]
    exact ih (i + 1) (fun r h1 h2 => h r (by omega) (by omega))
/-- what a look of n more levels is to do -/
def LKP (n d : Nat) (B : Bk) (K F : Nat → Nat) (L : List Nat) (w v : Nat) : Prop :=
  ∀ (D : Mem) (j a : Nat) (ms : List (Nat × Nat)) (dp : Nat) (q : Nd), n + dp = 7 → WK_ D B K F L w v → j < (nlG B 10).length → ng (nlG B 10) j = q → a ≤ L.length → ms.length ≤ q.1 → q.1 < 3 → TR D ms →
    Rix d j_X6_look [.ref 79, .int (nI j), .int (nI a), .int (nI ms.length), .int (nI dp)] D (fun u D' => WR D D' ms u (lk B w v L K F n q a ms))
theorem MNf_use {B : Bk} {q : Nd} {i : Nat} (hV : VB B) (h : MNf B q i = true) : thN B i = true ∧ mtB B i = true ∧ ro_ B i = q.1 ∧ ∃ m, mo_ B i = nI m ∧ mon B i = m ∧ q.1 < m ∧ m < 3 := by
  unfold MNf AT_ at h
  simp only [Bool.and_eq_true, decide_eq_true_eq] at h
  obtain ⟨⟨h1, h2, _⟩, h3⟩ := h
  have hc : i < cm_ B := by unfold thN at h1; simp only [Bool.and_eq_true, decide_eq_true_eq] at h1; exact h1.1
  obtain ⟨m, g1, g2, g3, _⟩ := (hV.2.2 i hc).mount h3
  refine ⟨h1, h3, h2, m, g1, ?_, by omega, g3⟩
  unfold mon
  rw [g1]
  exact nI_clamp (by omega)
theorem X_fg8 {d k pc : Nat} {j : MI} {a b c d0 e f g o : Option Value} {st : List Value} {σ : Wd} {Q : List Value → Wd → Prop} (hX : X d k j pc [a, b, c, d0, e, f, g, none] st σ Q) : X d k j pc [a, b, c, d0, e, f, g, o] st σ Q := by
  refine X_forget (fun i v h => ?_) hX
  match i, h with
  | 0, h => exact h
  | 1, h => exact h
  | 2, h => exact h
  | 3, h => exact h
  | 4, h => exact h
  | 5, h => exact h
  | 6, h => exact h
  | 7, h => cases h
  | n + 8, h => cases h
theorem X_fg13 {d k pc : Nat} {j : MI} {a b c d0 e f g h0 i0 j0 o1 o2 o3 : Option Value} {st : List Value} {σ : Wd} {Q : List Value → Wd → Prop} (hX : X d k j pc [a, b, c, d0, e, f, g, h0, i0, j0, none, none, none] st σ Q) : X d k j pc [a, b, c, d0, e, f, g, h0, i0, j0, o1, o2, o3] st σ Q := by
  refine X_forget (fun i v h => ?_) hX
  match i, h with
  | 0, h => exact h
  | 1, h => exact h
  | 2, h => exact h
  | 3, h => exact h
  | 4, h => exact h
  | 5, h => exact h
  | 6, h => exact h
  | 7, h => exact h
  | 8, h => exact h
  | 9, h => exact h
  | 10, h => cases h
  | 11, h => cases h
  | 12, h => cases h
  | n + 13, h => cases h
theorem dX6_lookAtMounts_0 : decode cX6_lookAtMounts 0 = .ok (.aload_n 0, 1) := by decide +kernel
theorem dX6_lookAtMounts_1 : decode cX6_lookAtMounts 1 = .ok (.getfield 12, 3) := by decide +kernel
theorem dX6_lookAtMounts_4 : decode cX6_lookAtMounts 4 = .ok (.getfield 118, 3) := by decide +kernel
theorem dX6_lookAtMounts_7 : decode cX6_lookAtMounts 7 = .ok (.iload_n 1, 1) := by decide +kernel
theorem dX6_lookAtMounts_8 : decode cX6_lookAtMounts 8 = .ok (.invokestatic 63, 3) := by decide +kernel
theorem dX6_lookAtMounts_11 : decode cX6_lookAtMounts 11 = .ok (.aload_n 0, 1) := by decide +kernel
theorem dX6_lookAtMounts_12 : decode cX6_lookAtMounts 12 = .ok (.getfield 40, 3) := by decide +kernel
theorem dX6_lookAtMounts_15 : decode cX6_lookAtMounts 15 = .ok (.iand, 1) := by decide +kernel
theorem dX6_lookAtMounts_16 : decode cX6_lookAtMounts 16 = .ok (.istore 5, 2) := by decide +kernel
theorem dX6_lookAtMounts_18 : decode cX6_lookAtMounts 18 = .ok (.iconst 0, 1) := by decide +kernel
theorem dX6_lookAtMounts_19 : decode cX6_lookAtMounts 19 = .ok (.istore 6, 2) := by decide +kernel
theorem dX6_lookAtMounts_21 : decode cX6_lookAtMounts 21 = .ok (.iload 5, 2) := by decide +kernel
theorem dX6_lookAtMounts_23 : decode cX6_lookAtMounts 23 = .ok (.ifCond .eq 81, 3) := by decide +kernel
theorem dX6_lookAtMounts_26 : decode cX6_lookAtMounts 26 = .ok (.iload 6, 2) := by decide +kernel
theorem dX6_lookAtMounts_28 : decode cX6_lookAtMounts 28 = .ok (.bipush 10, 2) := by decide +kernel
theorem dX6_lookAtMounts_30 : decode cX6_lookAtMounts 30 = .ok (.if_icmp .ge 74, 3) := by decide +kernel
theorem dX6_lookAtMounts_33 : decode cX6_lookAtMounts 33 = .ok (.iload 5, 2) := by decide +kernel
theorem dX6_lookAtMounts_35 : decode cX6_lookAtMounts 35 = .ok (.iload 6, 2) := by decide +kernel
theorem dX6_lookAtMounts_37 : decode cX6_lookAtMounts 37 = .ok (.invokestatic 121, 3) := by decide +kernel
theorem dX6_lookAtMounts_40 : decode cX6_lookAtMounts 40 = .ok (.ifCond .eq 58, 3) := by decide +kernel
theorem dX6_lookAtMounts_43 : decode cX6_lookAtMounts 43 = .ok (.aload_n 0, 1) := by decide +kernel
theorem dX6_lookAtMounts_44 : decode cX6_lookAtMounts 44 = .ok (.getfield 25, 3) := by decide +kernel
theorem dX6_lookAtMounts_47 : decode cX6_lookAtMounts 47 = .ok (.iload_n 3, 1) := by decide +kernel
theorem dX6_lookAtMounts_48 : decode cX6_lookAtMounts 48 = .ok (.iload 6, 2) := by decide +kernel
theorem dX6_lookAtMounts_50 : decode cX6_lookAtMounts 50 = .ok (.invokestatic 124, 3) := by decide +kernel
theorem dX6_lookAtMounts_53 : decode cX6_lookAtMounts 53 = .ok (.aload_n 0, 1) := by decide +kernel
theorem dX6_lookAtMounts_54 : decode cX6_lookAtMounts 54 = .ok (.getfield 29, 3) := by decide +kernel
theorem dX6_lookAtMounts_57 : decode cX6_lookAtMounts 57 = .ok (.iload_n 3, 1) := by decide +kernel
theorem dX6_lookAtMounts_58 : decode cX6_lookAtMounts 58 = .ok (.iconst 1, 1) := by decide +kernel
theorem dX6_lookAtMounts_59 : decode cX6_lookAtMounts 59 = .ok (.iadd, 1) := by decide +kernel
theorem dX6_lookAtMounts_60 : decode cX6_lookAtMounts 60 = .ok (.iload_n 2, 1) := by decide +kernel
theorem dX6_lookAtMounts_61 : decode cX6_lookAtMounts 61 = .ok (.invokestatic 124, 3) := by decide +kernel
theorem dX6_lookAtMounts_64 : decode cX6_lookAtMounts 64 = .ok (.aload_n 0, 1) := by decide +kernel
theorem dX6_lookAtMounts_65 : decode cX6_lookAtMounts 65 = .ok (.aload_n 0, 1) := by decide +kernel
theorem dX6_lookAtMounts_66 : decode cX6_lookAtMounts 66 = .ok (.getfield 12, 3) := by decide +kernel
theorem dX6_lookAtMounts_69 : decode cX6_lookAtMounts 69 = .ok (.getfield 128, 3) := by decide +kernel
theorem dX6_lookAtMounts_72 : decode cX6_lookAtMounts 72 = .ok (.iload 6, 2) := by decide +kernel
theorem dX6_lookAtMounts_74 : decode cX6_lookAtMounts 74 = .ok (.invokestatic 63, 3) := by decide +kernel
theorem dX6_lookAtMounts_77 : decode cX6_lookAtMounts 77 = .ok (.iload_n 2, 1) := by decide +kernel
theorem dX6_lookAtMounts_78 : decode cX6_lookAtMounts 78 = .ok (.iload_n 3, 1) := by decide +kernel
theorem dX6_lookAtMounts_79 : decode cX6_lookAtMounts 79 = .ok (.iconst 1, 1) := by decide +kernel
theorem dX6_lookAtMounts_80 : decode cX6_lookAtMounts 80 = .ok (.iadd, 1) := by decide +kernel
theorem dX6_lookAtMounts_81 : decode cX6_lookAtMounts 81 = .ok (.iload 4, 2) := by decide +kernel
theorem dX6_lookAtMounts_83 : decode cX6_lookAtMounts 83 = .ok (.iconst 1, 1) := by decide +kernel
theorem dX6_lookAtMounts_84 : decode cX6_lookAtMounts 84 = .ok (.iadd, 1) := by decide +kernel
theorem dX6_lookAtMounts_85 : decode cX6_lookAtMounts 85 = .ok (.invokevirtual 46, 3) := by decide +kernel
theorem dX6_lookAtMounts_88 : decode cX6_lookAtMounts 88 = .ok (.istore 7, 2) := by decide +kernel
theorem dX6_lookAtMounts_90 : decode cX6_lookAtMounts 90 = .ok (.iload 7, 2) := by decide +kernel
theorem dX6_lookAtMounts_92 : decode cX6_lookAtMounts 92 = .ok (.ifCond .lt 6, 3) := by decide +kernel
theorem dX6_lookAtMounts_95 : decode cX6_lookAtMounts 95 = .ok (.iload 7, 2) := by decide +kernel
theorem dX6_lookAtMounts_97 : decode cX6_lookAtMounts 97 = .ok (.ireturn, 1) := by decide +kernel
theorem dX6_lookAtMounts_98 : decode cX6_lookAtMounts 98 = .ok (.iinc 6 1, 3) := by decide +kernel
theorem dX6_lookAtMounts_101 : decode cX6_lookAtMounts 101 = .ok (.goto (-80), 3) := by decide +kernel
theorem dX6_lookAtMounts_104 : decode cX6_lookAtMounts 104 = .ok (.bipush (-9), 2) := by decide +kernel
theorem dX6_lookAtMounts_106 : decode cX6_lookAtMounts 106 = .ok (.ireturn, 1) := by decide +kernel
theorem and2m {p : Nat → Bool} {w : Nat} (r : Nat) (hr : r < 10) : (mkn p 10 &&& w).testBit r = (p r && w.testBit r) := by rw [Nat.testBit_and, mkn_tb, decide_eq_true hr, Bool.true_and]
theorem lp_lookAtMounts {B : Bk} {K F : Nat → Nat} {L : List Nat} {w v n d j a dp : Nat} {q : Nd} {ms : List (Nat × Nat)} (hV : VB B) (hlk : LKP n d B K F L w v) (hd4 : 4 ≤ d) (hdp : n + (dp + 1) = 7) (hj : j < (nlG B 10).length) (hq : ng (nlG B 10) j = q) (ha : a ≤ L.length) (hms : ms.length ≤ q.1) (hq3 : q.1 < 3) : ∀ (m : Nat) (i : Nat) (D1 : Mem), i + m = 10 → WK_ D1 B K F L w v → TR D1 ms → X (d + 1) 138 j_X6_lookAtMounts 21 [some (.ref 79), some (.int (nI j)), some (.int (nI a)), some (.int (nI ms.length)), some (.int (nI dp)), some (.int (nI (mkn (MNf B q) 10 &&& w))), some (.int (nI i)), none] [] (138, P0, D1) (fun x σ => ∃ (u : Int32) (D' : Mem), x = [.int u] ∧ σ = wd D' ∧ WR D1 D' ms u (lkM (lk B w v L K F n) B w q a ms i m)) := by
  intro m
  induction m with
  | zero =>
    intro i D1 hi hk hT
    have hly : (lay 82).2 = 43 ∧ (lay 83).2 = 43 ∧ (lay 84).2 = 43 ∧ (lay 85).2 = 43 ∧ (lay 86).2 = 43 ∧ (lay 81).2 = 301 ∧ (lay 87).2 = 10 ∧ (lay 88).2 = 4 ∧ (lay 89).2 = 3 ∧ (lay 90).2 = 3 ∧ (lay 91).2 = 3 ∧ (lay 94).2 = 3 ∧ (lay 95).2 = 3 := by decide
    have hbw : mkn (MNf B q) 10 &&& w < 1024 := Nat.lt_of_le_of_lt Nat.and_le_left (mkn_lt _ 10)
    refine X_iload (nx := 23) dX6_lookAtMounts_21 rfl rfl ?_
    refine X_if_eq (tgt := 104) (nx := 26) dX6_lookAtMounts_23 rfl rfl (fun h23 => ?_) (fun h23 => ?_)
    · skip
      refine X_bipush (v := -9) (nx := 106) dX6_lookAtMounts_104 rfl rfl ?_
      exact Z_reti dX6_lookAtMounts_106 (Or.inl rfl) (WR.self hT)
    · skip
      refine X_iload (nx := 28) dX6_lookAtMounts_26 rfl rfl ?_
      refine X_bipush (v := nI 10) (nx := 30) dX6_lookAtMounts_28 rfl rfl ?_
      refine X_icmp_ge (tgt := 104) (nx := 33) dX6_lookAtMounts_30 rfl rfl (fun h30 => ?_) (fun h30 => ?_)
      · skip
        refine X_bipush (v := -9) (nx := 106) dX6_lookAtMounts_104 rfl rfl ?_
        exact Z_reti dX6_lookAtMounts_106 (Or.inl rfl) (WR.self hT)
      · exact absurd h30 (fun q => q (nI_le (by omega) (by omega)))
  | succ m ih =>
    intro i D1 hi hk hT
    have hly : (lay 82).2 = 43 ∧ (lay 83).2 = 43 ∧ (lay 84).2 = 43 ∧ (lay 85).2 = 43 ∧ (lay 86).2 = 43 ∧ (lay 81).2 = 301 ∧ (lay 87).2 = 10 ∧ (lay 88).2 = 4 ∧ (lay 89).2 = 3 ∧ (lay 90).2 = 3 ∧ (lay 91).2 = 3 ∧ (lay 94).2 = 3 ∧ (lay 95).2 = 3 := by decide
    have hbw : mkn (MNf B q) 10 &&& w < 1024 := Nat.lt_of_le_of_lt Nat.and_le_left (mkn_lt _ 10)
    refine X_iload (nx := 23) dX6_lookAtMounts_21 rfl rfl ?_
    refine X_if_eq (tgt := 104) (nx := 26) dX6_lookAtMounts_23 rfl rfl (fun h23 => ?_) (fun h23 => ?_)
    · skip
      rw [nI_0' (by omega)] at h23
      have hz : lkM (lk B w v L K F n) B w q a ms i (m + 1) = (none, 0) := lkM_0 _ _ (fun r h1 h2 => by have e := and2m (p := MNf B q) (w := w) r (by omega); rw [h23, Nat.zero_testBit] at e; exact e.symm)
      rw [hz]
      refine X_bipush (v := -9) (nx := 106) dX6_lookAtMounts_104 rfl rfl ?_
      exact Z_reti dX6_lookAtMounts_106 (Or.inl rfl) (WR.self hT)
    · skip
      refine X_iload (nx := 28) dX6_lookAtMounts_26 rfl rfl ?_
      refine X_bipush (v := nI 10) (nx := 30) dX6_lookAtMounts_28 rfl rfl ?_
      refine X_icmp_ge (tgt := 104) (nx := 33) dX6_lookAtMounts_30 rfl rfl (fun h30 => ?_) (fun h30 => ?_)
      · exact absurd h30 (nI_ge (by omega) (by omega))
      · skip
        refine X_iload (nx := 35) dX6_lookAtMounts_33 rfl rfl ?_
        refine X_iload (nx := 37) dX6_lookAtMounts_35 rfl rfl ?_
        refine Y_Si2 (nx := 40) dX6_lookAtMounts_37 rfl ml_RX6_121 kj_X7_has ks_X7_has (sp_X7_has (k := i) rfl (by omega) rfl (by omega)) (by first | decide | omega) (by exact Nat.le_of_ble_eq_true rfl) ?_
        refine X_if_eq (tgt := 98) (nx := 43) dX6_lookAtMounts_40 rfl rfl (fun h40 => ?_) (fun h40 => ?_)
        · skip
          rw [b2i_f, and2m i (by omega)] at h40
          have hz : lkM (lk B w v L K F n) B w q a ms i (m + 1) = lkM (lk B w v L K F n) B w q a ms (i + 1) m := if_neg (by rw [h40]; decide)
          rw [hz]
          refine X_iinc (nx := 101) dX6_lookAtMounts_98 rfl (by decide) rfl (by first | exact ii1 _ | rfl) rfl (st_s (st_s (st_s (st_s (st_s (st_s (st_0))))))) ?_
          refine X_goto (tgt := 21) dX6_lookAtMounts_101 rfl ?_
          first
            | exact ih (i + 1) D1 (by omega) hk hT
            | (refine X_fg8 ?_
               exact (ih (i + 1) D85 (by omega) (ho.wk hk) ho.2.2.2.1).mono (fun vs σ h => by obtain ⟨u, D2, e1, e2, e3⟩ := h; exact ⟨u, D2, e1, e2, ho.then e3⟩))
        · skip
          rw [b2i_t, and2m i (by omega)] at h40
          have hMN : MNf B q i = true := by simp only [Bool.and_eq_true] at h40; exact h40.1
          obtain ⟨hth, hmt, hro, m2, hmo, hmon, hlt, hm3⟩ := MNf_use hV hMN
          have hk3 : WK_ (up2 (up2 D1 94 ms.length (nI i)) 95 (ms.length + 1) (nI a)) B K F L w v := hk.kept (fun x _ _ _ => by rw [up2_other (by omega), up2_other (by omega)]) ((Fr.up (Or.inr (Or.inl rfl))).tr (Fr.up (Or.inr (Or.inr rfl))))
          have hm87 : up2 (up2 D1 94 ms.length (nI i)) 95 (ms.length + 1) (nI a) 87 i = nI (mon B i) := by rw [up2_other (by omega), up2_other (by omega), hk.1.2.2.2.2.1 i (by omega) (by show (thN B i && mtB B i) = true; rw [hth, hmt]; rfl), hmo, hmon]
          have hn3 := hk.1.2.1.1
          have hroot : ng (nlG B 10) (mon B i) = (mon B i, []) := hk.1.2.1.2.2.1 _ (by omega)
          have hz : lkM (lk B w v L K F n) B w q a ms i (m + 1) = (if (lk B w v L K F n (mon B i, []) a (ms ++ [(i, a)])).1.isSome = true then lk B w v L K F n (mon B i, []) a (ms ++ [(i, a)]) else addc (lk B w v L K F n (mon B i, []) a (ms ++ [(i, a)])).2 (lkM (lk B w v L K F n) B w q a ms (i + 1) m)) := if_pos h40
          rw [hz]
          refine X_aload_n (nx := 44) dX6_lookAtMounts_43 rfl rfl rfl ?_
          refine M_getP (nx := 47) dX6_lookAtMounts_44 rfl fl_RX6_25 rfl (by first | assumption | rfl | decide | omega) (by first | assumption | rfl | decide | omega) (by first | assumption | rfl | decide | omega) ?_
          refine X_iload_n (nx := 48) dX6_lookAtMounts_47 rfl rfl rfl ?_
          refine X_iload (nx := 50) dX6_lookAtMounts_48 rfl rfl ?_
          refine Y_Sv3 (nx := 53) dX6_lookAtMounts_50 rfl ml_RX6_124 kj_X7_put ks_X7_put (sp_X7_put (i := ms.length) (by decide) (by decide) rfl (by omega)) (by first | decide | omega) (by exact Nat.le_of_ble_eq_true rfl) ?_
          refine X_aload_n (nx := 54) dX6_lookAtMounts_53 rfl rfl rfl ?_
          refine M_getP (nx := 57) dX6_lookAtMounts_54 rfl fl_RX6_29 rfl (by first | assumption | rfl | decide | omega) (by first | assumption | rfl | decide | omega) (by first | assumption | rfl | decide | omega) ?_
          refine X_iload_n (nx := 58) dX6_lookAtMounts_57 rfl rfl rfl ?_
          refine X_iconst (v := 1) (nx := 59) dX6_lookAtMounts_58 rfl rfl ?_
          refine X_iadd (nx := 60) dX6_lookAtMounts_59 rfl ?_
          refine X_top (nI_1 _) ?_
          refine X_iload_n (nx := 61) dX6_lookAtMounts_60 rfl rfl rfl ?_
          refine Y_Sv3 (nx := 64) dX6_lookAtMounts_61 rfl ml_RX6_124 kj_X7_put ks_X7_put (sp_X7_put (i := ms.length + 1) (by decide) (by decide) rfl (by omega)) (by first | decide | omega) (by exact Nat.le_of_ble_eq_true rfl) ?_
          refine X_aload_n (nx := 65) dX6_lookAtMounts_64 rfl rfl rfl ?_
          refine X_aload_n (nx := 66) dX6_lookAtMounts_65 rfl rfl rfl ?_
          refine M_getP (nx := 69) dX6_lookAtMounts_66 rfl fl_RX6_12 rfl (by first | assumption | rfl | decide | omega) (by first | assumption | rfl | decide | omega) (by first | assumption | rfl | decide | omega) ?_
          refine M_getP (nx := 72) dX6_lookAtMounts_69 rfl fl_RX6_128 rfl (by first | assumption | rfl | decide | omega) (by first | assumption | rfl | decide | omega) (by first | assumption | rfl | decide | omega) ?_
          refine X_iload (nx := 74) dX6_lookAtMounts_72 rfl rfl ?_
          refine Y_Si2 (nx := 77) dX6_lookAtMounts_74 rfl ml_RX6_63 kj_X7_numberAt ks_X7_numberAt (sp_X7_numberAt (i := i) (by decide) (by decide) rfl (by omega)) (by first | decide | omega) (by exact Nat.le_of_ble_eq_true rfl) ?_
          refine X_top (hm87) ?_
          refine X_iload_n (nx := 78) dX6_lookAtMounts_77 rfl rfl rfl ?_
          refine X_iload_n (nx := 79) dX6_lookAtMounts_78 rfl rfl rfl ?_
          refine X_iconst (v := 1) (nx := 80) dX6_lookAtMounts_79 rfl rfl ?_
          refine X_iadd (nx := 81) dX6_lookAtMounts_80 rfl ?_
          refine X_top ((nI_1 _).trans (congrArg nI (show ms.length + 1 = (ms ++ [(i, a)]).length by simp))) ?_
          refine X_iload (nx := 83) dX6_lookAtMounts_81 rfl rfl ?_
          refine X_iconst (v := 1) (nx := 84) dX6_lookAtMounts_83 rfl rfl ?_
          refine X_iadd (nx := 85) dX6_lookAtMounts_84 rfl ?_
          refine X_top (nI_1 _) ?_
          refine Z_Vi4 (nx := 88) dX6_lookAtMounts_85 rfl ml_RX6_46 kj_X6_look kv_X6_look (hlk _ (mon B i) a (ms ++ [(i, a)]) (dp + 1) (mon B i, []) hdp hk3 (by omega) hroot ha (by simp; omega) (by rw [hmon]; omega) hT.add) (by first | assumption | rfl | decide | omega) (by first | assumption | rfl | decide | omega) (by decide) rfl (by first | decide | omega) (by exact Nat.le_of_ble_eq_true rfl) (fun u85 D85 g85 => ?_)
          refine X_istore (i := 7) (nx := 90) dX6_lookAtMounts_88 rfl (by decide) rfl (st_s (st_s (st_s (st_s (st_s (st_s (st_s (st_0)))))))) ?_
          refine X_iload (nx := 92) dX6_lookAtMounts_90 rfl rfl ?_
          refine X_if_lt (tgt := 98) (nx := 95) dX6_lookAtMounts_92 rfl rfl (fun h92 => ?_) (fun h92 => ?_)
          · skip
            have ho := g85.out
            have hnn := ho.lt.mp h92
            rw [if_neg (by rw [hnn]; decide)]
            refine X_iinc (nx := 101) dX6_lookAtMounts_98 rfl (by decide) rfl (by first | exact ii1 _ | rfl) rfl (st_s (st_s (st_s (st_s (st_s (st_s (st_0))))))) ?_
            refine X_goto (tgt := 21) dX6_lookAtMounts_101 rfl ?_
            first
              | exact ih (i + 1) D1 (by omega) hk hT
              | (refine X_fg8 ?_
                 exact (ih (i + 1) D85 (by omega) (ho.wk hk) ho.2.2.2.1).mono (fun vs σ h => by obtain ⟨u, D2, e1, e2, e3⟩ := h; exact ⟨u, D2, e1, e2, ho.then e3⟩))
          · skip
            have ho := g85.out
            rw [if_pos (ho.hit h92)]
            refine X_iload (nx := 97) dX6_lookAtMounts_95 rfl rfl ?_
            exact Z_reti dX6_lookAtMounts_97 (Or.inl rfl) ho
theorem sp_X6_lookAtMounts {B : Bk} {K F : Nat → Nat} {L : List Nat} {w v n d j a dp : Nat} {q : Nd} {ms : List (Nat × Nat)} (hV : VB B) (hlk : LKP n d B K F L w v) (hd4 : 4 ≤ d) (hdp : n + (dp + 1) = 7) (hj : j < (nlG B 10).length) (hq : ng (nlG B 10) j = q) (ha : a ≤ L.length) (hms : ms.length ≤ q.1) (hq3 : q.1 < 3) {D : Mem} (hk : WK_ D B K F L w v) (hT : TR D ms) : Rix (d + 1) j_X6_lookAtMounts [.ref 79, .int (nI j), .int (nI a), .int (nI ms.length), .int (nI dp)] D (fun u D' => WR D D' ms u (lkM (lk B w v L K F n) B w q a ms 0 10)) := by
  refine E.start 3 (ls := [some (.ref 79), some (.int (nI j)), some (.int (nI a)), some (.int (nI ms.length)), some (.int (nI dp)), none, none, none]) (by decide +kernel) (Nat.le_of_ble_eq_true rfl) rfl (Nat.le_refl _) (Nat.le_refl _) ?_
  have hn43 := hk.1.2.1.2.1
  have hly : (lay 82).2 = 43 ∧ (lay 83).2 = 43 ∧ (lay 84).2 = 43 ∧ (lay 85).2 = 43 ∧ (lay 86).2 = 43 ∧ (lay 81).2 = 301 ∧ (lay 87).2 = 10 ∧ (lay 88).2 = 4 ∧ (lay 89).2 = 3 ∧ (lay 90).2 = 3 ∧ (lay 91).2 = 3 ∧ (lay 94).2 = 3 ∧ (lay 95).2 = 3 := by decide
  obtain ⟨n1, n2, n3, n4, n5, n6⟩ := hk.1.2.2.1 j hj
  rw [hq] at n5
  refine X_aload_n (nx := 1) dX6_lookAtMounts_0 rfl rfl rfl ?_
  refine M_getP (nx := 4) dX6_lookAtMounts_1 rfl fl_RX6_12 rfl (by first | assumption | rfl | decide | omega) (by first | assumption | rfl | decide | omega) (by first | assumption | rfl | decide | omega) ?_
  refine M_getP (nx := 7) dX6_lookAtMounts_4 rfl fl_RX6_118 rfl (by first | assumption | rfl | decide | omega) (by first | assumption | rfl | decide | omega) (by first | assumption | rfl | decide | omega) ?_
  refine X_iload_n (nx := 8) dX6_lookAtMounts_7 rfl rfl rfl ?_
  refine Y_Si2 (nx := 11) dX6_lookAtMounts_8 rfl ml_RX6_63 kj_X7_numberAt ks_X7_numberAt (sp_X7_numberAt (i := j) (by decide) (by decide) rfl (by omega)) (by first | decide | omega) (by exact Nat.le_of_ble_eq_true rfl) ?_
  refine X_top (n5) ?_
  refine X_aload_n (nx := 12) dX6_lookAtMounts_11 rfl rfl rfl ?_
  refine M_getI (nx := 15) dX6_lookAtMounts_12 rfl fl_RX6_40 rfl (by first | assumption | rfl | decide | omega) (by first | assumption | rfl | decide | omega) ?_
  refine X_top (hk.2.2.2.1) ?_
  refine X_iand (nx := 16) dX6_lookAtMounts_15 rfl ?_
  refine X_top (nI_and _ _) ?_
  refine X_istore (i := 5) (nx := 18) dX6_lookAtMounts_16 rfl (by decide) rfl (st_s (st_s (st_s (st_s (st_s (st_0)))))) ?_
  refine X_iconst (v := 0) (nx := 19) dX6_lookAtMounts_18 rfl rfl ?_
  refine X_istore (i := 6) (nx := 21) dX6_lookAtMounts_19 rfl (by decide) rfl (st_s (st_s (st_s (st_s (st_s (st_s (st_0))))))) ?_
  exact lp_lookAtMounts hV hlk hd4 hdp hj hq ha hms hq3 10 0 D rfl hk hT
theorem WR.seen {D : Mem} {ms : List (Nat × Nat)} (h : TR D ms) : WR D (up2 D 79 6 (D 79 6 + 1)) ms (-9) (none, 1) :=
  ⟨rfl, up2_same, fun _ _ _ q => (by cases q), fun i hi => ⟨(up2_other (by omega)).trans (h i hi).1, (up2_other (by omega)).trans (h i hi).2⟩, up2_other (by omega), fun x h1 _ _ => up2_other (by omega), Fr.up (Or.inl rfl)⟩
theorem ordS_s : ∀ i, i < 4 → ∀ k, k < (ordS i).length → ((ordS i).getD k 0 = 69 ∨ (ordS i).getD k 0 = 76 ∨ (ordS i).getD k 0 = 65 ∨ (ordS i).getD k 0 = 67 ∨ (ordS i).getD k 0 = 82 ∨ (ordS i).getD k 0 = 77) ∧ (ordS i).drop k = (ordS i).getD k 0 :: (ordS i).drop (k + 1) := by decide
/-- how a step of an order ends -/
def LKc (D1 D2 : Mem) (ms : List (Nat × Nat)) (u : Int32) (r rest : LR) : Prop := (¬ u < 0 → WR D1 D2 ms u r) ∧ (u < 0 → ∃ rr, WR D1 D2 ms u rr ∧ r = addc rr.2 rest)
section LC
variable {LK : Nd → Nat → List (Nat × Nat) → LR} {B : Bk} {w v s a : Nat} {L : List Nat} {st : Bool} {q q' : Nd} {ms : List (Nat × Nat)} {r : List Nat} {D1 D2 : Mem} {u : Int32}
theorem lkc_1 (hx : nxq B w L s a q = some q') (h : WR D1 D2 ms u (LK q' (a + 1) ms)) (hs : ¬ u < 0 ∨ st = false) : LKc D1 D2 ms u (lkS LK B w v L st q a ms (s :: r)) (lkS LK B w v L st q a ms r) := by
  have e : lkS LK B w v L st q a ms (s :: r) = if (LK q' (a + 1) ms).1.isSome = true then LK q' (a + 1) ms else if st = true then (none, (LK q' (a + 1) ms).2) else addc (LK q' (a + 1) ms).2 (lkS LK B w v L st q a ms r) := by rw [lkS, hx]
  refine ⟨fun hu => ?_, fun hu => ⟨_, h, ?_⟩⟩
  · rw [e, if_pos (h.hit hu)]; exact h
  · rw [e, if_neg (by rw [h.lt.mp hu]; decide), if_neg (by rcases hs with hs | hs; exact absurd hu hs; rw [hs]; decide)]
theorem lkc_s (hx : nxq B w L s a q = some q') (h : WR D1 D2 ms u (LK q' (a + 1) ms)) (hu : u < 0) (hs : st = true) : lkS LK B w v L st q a ms (s :: r) = (none, (LK q' (a + 1) ms).2) := by
  have e : lkS LK B w v L st q a ms (s :: r) = if (LK q' (a + 1) ms).1.isSome = true then LK q' (a + 1) ms else if st = true then (none, (LK q' (a + 1) ms).2) else addc (LK q' (a + 1) ms).2 (lkS LK B w v L st q a ms r) := by rw [lkS, hx]
  rw [e, if_neg (by rw [h.lt.mp hu]; decide), if_pos hs]
theorem lkc_2 (hx : nxq B w L s a q = none) (h7 : s = 77) (h : WR D1 D2 ms u (lkM LK B w q a ms 0 10)) : LKc D1 D2 ms u (lkS LK B w v L st q a ms (s :: r)) (lkS LK B w v L st q a ms r) := by
  have e : lkS LK B w v L st q a ms (s :: r) = if (lkM LK B w q a ms 0 10).1.isSome = true then lkM LK B w q a ms 0 10 else addc (lkM LK B w q a ms 0 10).2 (lkS LK B w v L st q a ms r) := by rw [lkS, hx]; exact if_pos h7
  refine ⟨fun hu => ?_, fun hu => ⟨_, h, ?_⟩⟩
  · rw [e, if_pos (h.hit hu)]; exact h
  · rw [e, if_neg (by rw [h.lt.mp hu]; decide)]
theorem lkc_3 (hx : nxq B w L s a q = none) (h7 : ¬ s = 77) (hT : TR D1 ms) (hm : ms.length ≤ 2) : LKc D1 (ebD D1 (ebF (RSf B) (ENf B) (SVf B) q w v L s a) ms.length (L.length - a)) ms (opI (ebF (RSf B) (ENf B) (SVf B) q w v L s a)) (lkS LK B w v L st q a ms (s :: r)) (lkS LK B w v L st q a ms r) := by
  have e : lkS LK B w v L st q a ms (s :: r) = match ebF (RSf B) (ENf B) (SVf B) q w v L s a with
        | some e => (some (e, ms, L.length - a), 0)
        | none => lkS LK B w v L st q a ms r := by rw [lkS, hx]; exact if_neg h7
  cases he : ebF (RSf B) (ENf B) (SVf B) q w v L s a with
  | none =>
    rw [he] at e
    exact ⟨fun hu => absurd (by decide) hu, fun _ => ⟨(none, 0), WR.self hT, by rw [e]; unfold addc; simp only [Nat.zero_add]⟩⟩
  | some k =>
    rw [he] at e
    have hk : k < 10 := (fst_some he).2.1
    refine ⟨fun hu => ?_, fun hu => absurd hu (nI_neg (by omega))⟩
    rw [e]
    refine ⟨rfl, ?_, fun e ml t h => ?_, ?_, ?_, fun x h1 h2 h3 => ?_, ?_⟩
    · show up2 _ _ _ _ _ _ = _
      rw [up2_other (by omega), up2_other (by omega)]; exact (Int32.add_zero _).symm
    · cases h
      refine ⟨?_, up2_same, fun i hi => ⟨?_, ?_⟩, hm, hk⟩
      · show up2 _ _ _ _ _ _ = _
        rw [up2_other (by omega)]; exact up2_same
      · show up2 _ _ _ _ _ _ = _
        rw [up2_other (by omega), up2_other (by omega)]; exact (hT i hi).1
      · show up2 _ _ _ _ _ _ = _
        rw [up2_other (by omega), up2_other (by omega)]; exact (hT i hi).2
    · intro i hi
      refine ⟨?_, ?_⟩
      · show up2 _ _ _ _ _ _ = _
        rw [up2_other (by omega), up2_other (by omega)]; exact (hT i hi).1
      · show up2 _ _ _ _ _ _ = _
        rw [up2_other (by omega), up2_other (by omega)]; exact (hT i hi).2
    · show up2 _ _ _ _ _ _ = _
      rw [up2_other (by omega), up2_other (by omega)]
    · show up2 _ _ _ _ _ _ = _
      rw [up2_other (by omega), up2_other (by omega)]
    · exact (Fr.up (Or.inl rfl)).tr (Fr.up (Or.inl rfl))
end LC
theorem dX6_look_0 : decode cX6_look 0 = .ok (.iload 4, 2) := by decide +kernel
theorem dX6_look_2 : decode cX6_look 2 = .ok (.bipush 6, 2) := by decide +kernel
theorem dX6_look_4 : decode cX6_look 4 = .ok (.if_icmp .le 6, 3) := by decide +kernel
theorem dX6_look_7 : decode cX6_look 7 = .ok (.bipush (-9), 2) := by decide +kernel
theorem dX6_look_9 : decode cX6_look 9 = .ok (.ireturn, 1) := by decide +kernel
theorem dX6_look_10 : decode cX6_look 10 = .ok (.aload_n 0, 1) := by decide +kernel
theorem dX6_look_11 : decode cX6_look 11 = .ok (.dup, 1) := by decide +kernel
theorem dX6_look_12 : decode cX6_look 12 = .ok (.getfield 43, 3) := by decide +kernel
theorem dX6_look_15 : decode cX6_look 15 = .ok (.iconst 1, 1) := by decide +kernel
theorem dX6_look_16 : decode cX6_look 16 = .ok (.iadd, 1) := by decide +kernel
theorem dX6_look_17 : decode cX6_look 17 = .ok (.putfield 43, 3) := by decide +kernel
theorem dX6_look_20 : decode cX6_look 20 = .ok (.aload_n 0, 1) := by decide +kernel
theorem dX6_look_21 : decode cX6_look 21 = .ok (.getfield 12, 3) := by decide +kernel
theorem dX6_look_24 : decode cX6_look 24 = .ok (.getfield 60, 3) := by decide +kernel
theorem dX6_look_27 : decode cX6_look 27 = .ok (.iload_n 1, 1) := by decide +kernel
theorem dX6_look_28 : decode cX6_look 28 = .ok (.invokestatic 63, 3) := by decide +kernel
theorem dX6_look_31 : decode cX6_look 31 = .ok (.istore 5, 2) := by decide +kernel
theorem dX6_look_33 : decode cX6_look 33 = .ok (.aload_n 0, 1) := by decide +kernel
theorem dX6_look_34 : decode cX6_look 34 = .ok (.getfield 12, 3) := by decide +kernel
theorem dX6_look_37 : decode cX6_look 37 = .ok (.getfield 67, 3) := by decide +kernel
theorem dX6_look_40 : decode cX6_look 40 = .ok (.iload 5, 2) := by decide +kernel
theorem dX6_look_42 : decode cX6_look 42 = .ok (.invokestatic 63, 3) := by decide +kernel
theorem dX6_look_45 : decode cX6_look 45 = .ok (.istore 6, 2) := by decide +kernel
theorem dX6_look_47 : decode cX6_look 47 = .ok (.iload 6, 2) := by decide +kernel
theorem dX6_look_49 : decode cX6_look 49 = .ok (.iconst 5, 1) := by decide +kernel
theorem dX6_look_50 : decode cX6_look 50 = .ok (.if_icmp .ne 30, 3) := by decide +kernel
theorem dX6_look_53 : decode cX6_look 53 = .ok (.aload_n 0, 1) := by decide +kernel
theorem dX6_look_54 : decode cX6_look 54 = .ok (.getfield 21, 3) := by decide +kernel
theorem dX6_look_57 : decode cX6_look 57 = .ok (.getfield 70, 3) := by decide +kernel
theorem dX6_look_60 : decode cX6_look 60 = .ok (.iload_n 2, 1) := by decide +kernel
theorem dX6_look_61 : decode cX6_look 61 = .ok (.isub, 1) := by decide +kernel
theorem dX6_look_62 : decode cX6_look 62 = .ok (.aload_n 0, 1) := by decide +kernel
theorem dX6_look_63 : decode cX6_look 63 = .ok (.getfield 12, 3) := by decide +kernel
theorem dX6_look_66 : decode cX6_look 66 = .ok (.getfield 73, 3) := by decide +kernel
theorem dX6_look_69 : decode cX6_look 69 = .ok (.iload 5, 2) := by decide +kernel
theorem dX6_look_71 : decode cX6_look 71 = .ok (.invokestatic 63, 3) := by decide +kernel
theorem dX6_look_74 : decode cX6_look 74 = .ok (.if_icmp .le 6, 3) := by decide +kernel
theorem dX6_look_77 : decode cX6_look 77 = .ok (.bipush (-9), 2) := by decide +kernel
theorem dX6_look_79 : decode cX6_look 79 = .ok (.ireturn, 1) := by decide +kernel
theorem dX6_look_80 : decode cX6_look 80 = .ok (.iload 6, 2) := by decide +kernel
theorem dX6_look_82 : decode cX6_look 82 = .ok (.iconst 4, 1) := by decide +kernel
theorem dX6_look_83 : decode cX6_look 83 = .ok (.if_icmp .eq 9, 3) := by decide +kernel
theorem dX6_look_86 : decode cX6_look 86 = .ok (.iload 6, 2) := by decide +kernel
theorem dX6_look_88 : decode cX6_look 88 = .ok (.iconst 5, 1) := by decide +kernel
theorem dX6_look_89 : decode cX6_look 89 = .ok (.if_icmp .ne 7, 3) := by decide +kernel
theorem dX6_look_92 : decode cX6_look 92 = .ok (.iconst 1, 1) := by decide +kernel
theorem dX6_look_93 : decode cX6_look 93 = .ok (.goto 4, 3) := by decide +kernel
theorem dX6_look_96 : decode cX6_look 96 = .ok (.iconst 0, 1) := by decide +kernel
theorem dX6_look_97 : decode cX6_look 97 = .ok (.istore 7, 2) := by decide +kernel
theorem dX6_look_99 : decode cX6_look 99 = .ok (.iload 6, 2) := by decide +kernel
theorem dX6_look_101 : decode cX6_look 101 = .ok (.invokestatic 76, 3) := by decide +kernel
theorem dX6_look_104 : decode cX6_look 104 = .ok (.astore 8, 2) := by decide +kernel
theorem dX6_look_106 : decode cX6_look 106 = .ok (.iconst 0, 1) := by decide +kernel
theorem dX6_look_107 : decode cX6_look 107 = .ok (.istore 9, 2) := by decide +kernel
theorem dX6_look_109 : decode cX6_look 109 = .ok (.iload 9, 2) := by decide +kernel
theorem dX6_look_111 : decode cX6_look 111 = .ok (.aload 8, 2) := by decide +kernel
theorem dX6_look_113 : decode cX6_look 113 = .ok (.invokevirtual 80, 3) := by decide +kernel
theorem dX6_look_116 : decode cX6_look 116 = .ok (.if_icmp .ge 102, 3) := by decide +kernel
theorem dX6_look_119 : decode cX6_look 119 = .ok (.aload 8, 2) := by decide +kernel
theorem dX6_look_121 : decode cX6_look 121 = .ok (.iload 9, 2) := by decide +kernel
theorem dX6_look_123 : decode cX6_look 123 = .ok (.invokevirtual 86, 3) := by decide +kernel
theorem dX6_look_126 : decode cX6_look 126 = .ok (.istore 10, 2) := by decide +kernel
theorem dX6_look_128 : decode cX6_look 128 = .ok (.aload_n 0, 1) := by decide +kernel
theorem dX6_look_129 : decode cX6_look 129 = .ok (.iload 10, 2) := by decide +kernel
theorem dX6_look_131 : decode cX6_look 131 = .ok (.iload_n 1, 1) := by decide +kernel
theorem dX6_look_132 : decode cX6_look 132 = .ok (.iload_n 2, 1) := by decide +kernel
theorem dX6_look_133 : decode cX6_look 133 = .ok (.invokevirtual 90, 3) := by decide +kernel
theorem dX6_look_136 : decode cX6_look 136 = .ok (.istore 11, 2) := by decide +kernel
theorem dX6_look_138 : decode cX6_look 138 = .ok (.iload 11, 2) := by decide +kernel
theorem dX6_look_140 : decode cX6_look 140 = .ok (.ifCond .lt 32, 3) := by decide +kernel
theorem dX6_look_143 : decode cX6_look 143 = .ok (.aload_n 0, 1) := by decide +kernel
theorem dX6_look_144 : decode cX6_look 144 = .ok (.iload 11, 2) := by decide +kernel
theorem dX6_look_146 : decode cX6_look 146 = .ok (.iload_n 2, 1) := by decide +kernel
theorem dX6_look_147 : decode cX6_look 147 = .ok (.iconst 1, 1) := by decide +kernel
theorem dX6_look_148 : decode cX6_look 148 = .ok (.iadd, 1) := by decide +kernel
theorem dX6_look_149 : decode cX6_look 149 = .ok (.iload_n 3, 1) := by decide +kernel
theorem dX6_look_150 : decode cX6_look 150 = .ok (.iload 4, 2) := by decide +kernel
theorem dX6_look_152 : decode cX6_look 152 = .ok (.iconst 1, 1) := by decide +kernel
theorem dX6_look_153 : decode cX6_look 153 = .ok (.iadd, 1) := by decide +kernel
theorem dX6_look_154 : decode cX6_look 154 = .ok (.invokevirtual 46, 3) := by decide +kernel
theorem dX6_look_157 : decode cX6_look 157 = .ok (.istore 12, 2) := by decide +kernel
theorem dX6_look_159 : decode cX6_look 159 = .ok (.iload 12, 2) := by decide +kernel
theorem dX6_look_161 : decode cX6_look 161 = .ok (.ifCond .ge 43, 3) := by decide +kernel
theorem dX6_look_164 : decode cX6_look 164 = .ok (.iload 7, 2) := by decide +kernel
theorem dX6_look_166 : decode cX6_look 166 = .ok (.ifCond .eq 38, 3) := by decide +kernel
theorem dX6_look_169 : decode cX6_look 169 = .ok (.bipush (-9), 2) := by decide +kernel
theorem dX6_look_171 : decode cX6_look 171 = .ok (.ireturn, 1) := by decide +kernel
theorem dX6_look_172 : decode cX6_look 172 = .ok (.iload 10, 2) := by decide +kernel
theorem dX6_look_174 : decode cX6_look 174 = .ok (.bipush 77, 2) := by decide +kernel
theorem dX6_look_176 : decode cX6_look 176 = .ok (.if_icmp .ne 17, 3) := by decide +kernel
theorem dX6_look_179 : decode cX6_look 179 = .ok (.aload_n 0, 1) := by decide +kernel
theorem dX6_look_180 : decode cX6_look 180 = .ok (.iload_n 1, 1) := by decide +kernel
theorem dX6_look_181 : decode cX6_look 181 = .ok (.iload_n 2, 1) := by decide +kernel
theorem dX6_look_182 : decode cX6_look 182 = .ok (.iload_n 3, 1) := by decide +kernel
theorem dX6_look_183 : decode cX6_look 183 = .ok (.iload 4, 2) := by decide +kernel
theorem dX6_look_185 : decode cX6_look 185 = .ok (.invokevirtual 93, 3) := by decide +kernel
theorem dX6_look_188 : decode cX6_look 188 = .ok (.istore 12, 2) := by decide +kernel
theorem dX6_look_190 : decode cX6_look 190 = .ok (.goto 14, 3) := by decide +kernel
theorem dX6_look_193 : decode cX6_look 193 = .ok (.aload_n 0, 1) := by decide +kernel
theorem dX6_look_194 : decode cX6_look 194 = .ok (.iload 10, 2) := by decide +kernel
theorem dX6_look_196 : decode cX6_look 196 = .ok (.iload_n 1, 1) := by decide +kernel
theorem dX6_look_197 : decode cX6_look 197 = .ok (.iload_n 2, 1) := by decide +kernel
theorem dX6_look_198 : decode cX6_look 198 = .ok (.iload_n 3, 1) := by decide +kernel
theorem dX6_look_199 : decode cX6_look 199 = .ok (.invokevirtual 96, 3) := by decide +kernel
theorem dX6_look_202 : decode cX6_look 202 = .ok (.istore 12, 2) := by decide +kernel
theorem dX6_look_204 : decode cX6_look 204 = .ok (.iload 12, 2) := by decide +kernel
theorem dX6_look_206 : decode cX6_look 206 = .ok (.ifCond .lt 6, 3) := by decide +kernel
theorem dX6_look_209 : decode cX6_look 209 = .ok (.iload 12, 2) := by decide +kernel
theorem dX6_look_211 : decode cX6_look 211 = .ok (.ireturn, 1) := by decide +kernel
theorem dX6_look_212 : decode cX6_look 212 = .ok (.iinc 9 1, 3) := by decide +kernel
theorem dX6_look_215 : decode cX6_look 215 = .ok (.goto (-106), 3) := by decide +kernel
theorem dX6_look_218 : decode cX6_look 218 = .ok (.bipush (-9), 2) := by decide +kernel
theorem dX6_look_220 : decode cX6_look 220 = .ok (.ireturn, 1) := by decide +kernel
theorem lk_204 {d p : Nat} {D : Mem} {Φ : Int32 → Mem → Prop} {r0 r8 : Nat} {y1 y2 y3 y4 y5 y6 y7 y10 y11 u : Int32} (h1 : ¬ u < 0 → Φ u D) (h2 : u < 0 → X d 138 j_X6_look 109 [some (.ref r0), some (.int y1), some (.int y2), some (.int y3), some (.int y4), some (.int y5), some (.int y6), some (.int y7), some (.ref r8), some (.int (nI (p + 1))), some (.int y10), some (.int y11), some (.int u)] [] (138, P0, D) (fun r σ => ∃ (v : Int32) (D' : Mem), r = [.int v] ∧ σ = wd D' ∧ Φ v D')) : X d 138 j_X6_look 204 [some (.ref r0), some (.int y1), some (.int y2), some (.int y3), some (.int y4), some (.int y5), some (.int y6), some (.int y7), some (.ref r8), some (.int (nI p)), some (.int y10), some (.int y11), some (.int u)] [] (138, P0, D) (fun r σ => ∃ (v : Int32) (D' : Mem), r = [.int v] ∧ σ = wd D' ∧ Φ v D') := by
  refine X_iload (nx := 206) dX6_look_204 rfl rfl ?_
  refine X_if_lt (tgt := 212) (nx := 209) dX6_look_206 rfl rfl (fun h206 => ?_) (fun h206 => ?_)
  · skip
    refine X_iinc (nx := 215) dX6_look_212 rfl (by decide) rfl (by first | exact ii1 _ | rfl) rfl (st_s (st_s (st_s (st_s (st_s (st_s (st_s (st_s (st_s (st_0)))))))))) ?_
    refine X_goto (tgt := 109) dX6_look_215 rfl ?_
    exact h2 h206
  · skip
    refine X_iload (nx := 211) dX6_look_209 rfl rfl ?_
    exact Z_reti dX6_look_211 (Or.inl rfl) (h1 h206)
theorem lp_look {B : Bk} {K F : Nat → Nat} {L : List Nat} {w v n d j a dp : Nat} {q : Nd} {ms : List (Nat × Nat)} (hV : VB B) (hlk : LKP n d B K F L w v) (hd5 : 5 ≤ d) (hdp : n + (dp + 1) = 7) (hj : j < (nlG B 10).length) (hq : ng (nlG B 10) j = q) (ha : a ≤ L.length) (hms : ms.length ≤ q.1) (hq3 : q.1 < 3) {o : Nat} {st : Bool} (ho : o < 4) : ∀ (m : Nat) (p : Nat) (D1 : Mem), p + m = (ordS o).length → WK_ D1 B K F L w v → TR D1 ms → X (d + 2) 138 j_X6_look 109 [some (.ref 79), some (.int (nI j)), some (.int (nI a)), some (.int (nI ms.length)), some (.int (nI dp)), some (.int (nI q.1)), some (.int (nI (K q.1))), some (.int (b2i st)), some (.ref (2010 + o)), some (.int (nI p)), none, none, none] [] (138, P0, D1) (fun x σ => ∃ (u : Int32) (D' : Mem), x = [.int u] ∧ σ = wd D' ∧ WR D1 D' ms u (lkS (lk B w v L K F n) B w v L st q a ms ((ordS o).drop p))) := by
  intro m
  induction m with
  | zero =>
    intro p D1 hp hk hT
    have hl := lenS_o o ho
    refine X_iload (nx := 111) dX6_look_109 rfl rfl ?_
    refine X_aload (nx := 113) dX6_look_111 rfl rfl ?_
    refine Y_Ti0 (nx := 116) dX6_look_113 rfl ml_RX6_80 kj_J0_length_8abf5 kv_J0_length_8abf5 (sp_J0_length_8abf5 ho) (by first | assumption | rfl | decide | omega) rfl (by first | decide | omega) (by exact Nat.le_of_ble_eq_true rfl) ?_
    refine X_icmp_ge (tgt := 218) (nx := 119) dX6_look_116 rfl rfl (fun h116 => ?_) (fun h116 => ?_)
    · skip
      refine X_bipush (v := -9) (nx := 220) dX6_look_218 rfl rfl ?_
      exact Z_reti dX6_look_220 (Or.inl rfl) (by rw [List.drop_eq_nil_of_le (by omega)]; exact WR.self hT)
    · exact absurd h116 (fun q => q (nI_le (by omega) (by omega)))
  | succ m ih =>
    intro p D1 hp hk hT
    have hl := lenS_o o ho
    obtain ⟨hs6, hdr⟩ := ordS_s o ho p (by omega)
    have hs128 : (ordS o).getD p 0 < 128 := by omega
    rw [hdr]
    have hn43 := hk.1.2.1.2.1
    refine X_iload (nx := 111) dX6_look_109 rfl rfl ?_
    refine X_aload (nx := 113) dX6_look_111 rfl rfl ?_
    refine Y_Ti0 (nx := 116) dX6_look_113 rfl ml_RX6_80 kj_J0_length_8abf5 kv_J0_length_8abf5 (sp_J0_length_8abf5 ho) (by first | assumption | rfl | decide | omega) rfl (by first | decide | omega) (by exact Nat.le_of_ble_eq_true rfl) ?_
    refine X_icmp_ge (tgt := 218) (nx := 119) dX6_look_116 rfl rfl (fun h116 => ?_) (fun h116 => ?_)
    · exact absurd h116 (nI_ge (by omega) (by omega))
    · skip
      refine X_aload (nx := 121) dX6_look_119 rfl rfl ?_
      refine X_iload (nx := 123) dX6_look_121 rfl rfl ?_
      refine Y_Ti1 (nx := 126) dX6_look_123 rfl ml_RX6_86 kj_J0_charAt_5068e kv_J0_charAt_5068e (sp_J0_charAt_5068e ho rfl (by omega)) (by first | assumption | rfl | decide | omega) rfl (by first | decide | omega) (by exact Nat.le_of_ble_eq_true rfl) ?_
      refine X_istore (i := 10) (nx := 128) dX6_look_126 rfl (by decide) rfl (st_s (st_s (st_s (st_s (st_s (st_s (st_s (st_s (st_s (st_s (st_0))))))))))) ?_
      refine X_aload_n (nx := 129) dX6_look_128 rfl rfl rfl ?_
      refine X_iload (nx := 131) dX6_look_129 rfl rfl ?_
      refine X_iload_n (nx := 132) dX6_look_131 rfl rfl rfl ?_
      refine X_iload_n (nx := 133) dX6_look_132 rfl rfl rfl ?_
      refine Y_Vi3 (nx := 136) dX6_look_133 rfl ml_RX6_90 kj_X6_nextBy kv_X6_nextBy (sp_X6_nextBy hk.1 hk.2.2.1 hk.2.2.2.1 hk.2.2.2.2.1 hj rfl hs6 rfl rfl ha) (by first | assumption | rfl | decide | omega) (by first | assumption | rfl | decide | omega) (by decide) rfl (by first | decide | omega) (by exact Nat.le_of_ble_eq_true rfl) ?_
      refine X_istore (i := 11) (nx := 138) dX6_look_136 rfl (by decide) rfl (st_s (st_s (st_s (st_s (st_s (st_s (st_s (st_s (st_s (st_s (st_s (st_0)))))))))))) ?_
      refine X_iload (nx := 140) dX6_look_138 rfl rfl ?_
      refine X_if_lt (tgt := 172) (nx := 143) dX6_look_140 rfl rfl (fun h140 => ?_) (fun h140 => ?_)
      · skip
        have hn := opI_lt h140 (fun k hk2 => by have := ((nxI_q hk.1).1 k hk2).1; omega)
        have hx0 := (nxI_q hk.1).2 hn
        rw [hq] at hx0
        refine X_iload (nx := 174) dX6_look_172 rfl rfl ?_
        refine X_bipush (v := nI 77) (nx := 176) dX6_look_174 rfl rfl ?_
        refine X_icmp_ne (tgt := 193) (nx := 179) dX6_look_176 rfl rfl (fun h176 => ?_) (fun h176 => ?_)
        · skip
          rw [nI_eq (by omega) (by omega)] at h176
          refine X_aload_n (nx := 194) dX6_look_193 rfl rfl rfl ?_
          refine X_iload (nx := 196) dX6_look_194 rfl rfl ?_
          refine X_iload_n (nx := 197) dX6_look_196 rfl rfl rfl ?_
          refine X_iload_n (nx := 198) dX6_look_197 rfl rfl rfl ?_
          refine X_iload_n (nx := 199) dX6_look_198 rfl rfl rfl ?_
          refine Y_Vi4 (nx := 202) dX6_look_199 rfl ml_RX6_96 kj_X6_endBy kv_X6_endBy (sp_X6_endBy hk.1 hk.2.2.1 hk.2.2.2.1 hk.2.2.2.2.2.1 hk.2.2.2.2.2.2 hj rfl hs128 rfl rfl ha rfl) (by first | assumption | rfl | decide | omega) (by first | assumption | rfl | decide | omega) (by decide) rfl (by first | decide | omega) (by exact Nat.le_of_ble_eq_true rfl) ?_
          refine X_istore (i := 12) (nx := 204) dX6_look_202 rfl (by decide) rfl (st_s (st_s (st_s (st_s (st_s (st_s (st_s (st_s (st_s (st_s (st_s (st_s (st_0))))))))))))) ?_
          rw [hq]
          have hc := lkc_3 (LK := lk B w v L K F n) (v := v) (r := (ordS o).drop (p + 1)) (st := st) hx0 h176 hT (by omega)
          refine lk_204 hc.1 (fun h => ?_)
          obtain ⟨rr, g, e⟩ := hc.2 h
          refine X_fg13 ?_
          exact (ih (p + 1) _ (by omega) (g.wk hk) g.2.2.2.1).mono (fun vs σ h => by obtain ⟨u, D2, e1, e2, e3⟩ := h; exact ⟨u, D2, e1, e2, by rw [e]; exact g.then e3⟩)
        · skip
          rw [nI_eq (by omega) (by omega)] at h176
          refine X_aload_n (nx := 180) dX6_look_179 rfl rfl rfl ?_
          refine X_iload_n (nx := 181) dX6_look_180 rfl rfl rfl ?_
          refine X_iload_n (nx := 182) dX6_look_181 rfl rfl rfl ?_
          refine X_iload_n (nx := 183) dX6_look_182 rfl rfl rfl ?_
          refine X_iload (nx := 185) dX6_look_183 rfl rfl ?_
          refine Z_Vi4 (nx := 188) dX6_look_185 rfl ml_RX6_93 kj_X6_lookAtMounts kv_X6_lookAtMounts (sp_X6_lookAtMounts hV hlk (by omega) hdp hj hq ha hms hq3 hk hT) (by first | assumption | rfl | decide | omega) (by first | assumption | rfl | decide | omega) (by decide) rfl (by first | decide | omega) (by exact Nat.le_of_ble_eq_true rfl) (fun u185 D185 g185 => ?_)
          refine X_istore (i := 12) (nx := 190) dX6_look_188 rfl (by decide) rfl (st_s (st_s (st_s (st_s (st_s (st_s (st_s (st_s (st_s (st_s (st_s (st_s (st_0))))))))))))) ?_
          have hc := lkc_2 (v := v) (r := (ordS o).drop (p + 1)) (st := st) hx0 h176 g185
          refine X_goto (tgt := 204) dX6_look_190 rfl ?_
          refine lk_204 hc.1 (fun h => ?_)
          obtain ⟨rr, g, e⟩ := hc.2 h
          refine X_fg13 ?_
          exact (ih (p + 1) _ (by omega) (g.wk hk) g.2.2.2.1).mono (fun vs σ h => by obtain ⟨u, D2, e1, e2, e3⟩ := h; exact ⟨u, D2, e1, e2, by rw [e]; exact g.then e3⟩)
      · skip
        obtain ⟨k, hk0⟩ := Option.isSome_iff_exists.mp (opI_ge h140)
        obtain ⟨k1, k2, k3, k4⟩ := (nxI_q hk.1).1 k hk0
        rw [hq] at k2 k3
        rw [hk0]
        refine X_aload_n (nx := 144) dX6_look_143 rfl rfl rfl ?_
        refine X_iload (nx := 146) dX6_look_144 rfl rfl ?_
        refine X_iload_n (nx := 147) dX6_look_146 rfl rfl rfl ?_
        refine X_iconst (v := 1) (nx := 148) dX6_look_147 rfl rfl ?_
        refine X_iadd (nx := 149) dX6_look_148 rfl ?_
        refine X_top (nI_1 _) ?_
        refine X_iload_n (nx := 150) dX6_look_149 rfl rfl rfl ?_
        refine X_iload (nx := 152) dX6_look_150 rfl rfl ?_
        refine X_iconst (v := 1) (nx := 153) dX6_look_152 rfl rfl ?_
        refine X_iadd (nx := 154) dX6_look_153 rfl ?_
        refine X_top (nI_1 _) ?_
        refine Z_Vi4 (nx := 157) dX6_look_154 rfl ml_RX6_46 kj_X6_look kv_X6_look (hlk _ k (a + 1) ms (dp + 1) _ hdp hk k1 rfl (by omega) (by rw [k3]; exact hms) (by rw [k3]; exact hq3) hT) (by first | assumption | rfl | decide | omega) (by first | assumption | rfl | decide | omega) (by decide) rfl (by first | decide | omega) (by exact Nat.le_of_ble_eq_true rfl) (fun u154 D154 g154 => ?_)
        refine X_istore (i := 12) (nx := 159) dX6_look_157 rfl (by decide) rfl (st_s (st_s (st_s (st_s (st_s (st_s (st_s (st_s (st_s (st_s (st_s (st_s (st_0))))))))))))) ?_
        refine X_iload (nx := 161) dX6_look_159 rfl rfl ?_
        refine X_if_ge (tgt := 204) (nx := 164) dX6_look_161 rfl rfl (fun h161 => ?_) (fun h161 => ?_)
        · skip
          have hc := lkc_1 (v := v) (r := (ordS o).drop (p + 1)) (st := st) k2 g154 (Or.inl (fun h => absurd h (Int32.not_lt.mpr h161)))
          refine lk_204 hc.1 (fun h => ?_)
          obtain ⟨rr, g, e⟩ := hc.2 h
          refine X_fg13 ?_
          exact (ih (p + 1) _ (by omega) (g.wk hk) g.2.2.2.1).mono (fun vs σ h => by obtain ⟨u, D2, e1, e2, e3⟩ := h; exact ⟨u, D2, e1, e2, by rw [e]; exact g.then e3⟩)
        · skip
          have h161n : u154 < 0 := Int32.not_le.mp h161
          refine X_iload (nx := 166) dX6_look_164 rfl rfl ?_
          refine X_if_eq (tgt := 204) (nx := 169) dX6_look_166 rfl rfl (fun h166 => ?_) (fun h166 => ?_)
          · skip
            have hc := lkc_1 (v := v) (r := (ordS o).drop (p + 1)) (st := st) k2 g154 (Or.inr (b2i_f.mp h166))
            refine lk_204 hc.1 (fun h => ?_)
            obtain ⟨rr, g, e⟩ := hc.2 h
            refine X_fg13 ?_
            exact (ih (p + 1) _ (by omega) (g.wk hk) g.2.2.2.1).mono (fun vs σ h => by obtain ⟨u, D2, e1, e2, e3⟩ := h; exact ⟨u, D2, e1, e2, by rw [e]; exact g.then e3⟩)
          · skip
            have hz := lkc_s (v := v) (r := (ordS o).drop (p + 1)) (st := st) k2 g154 h161n (b2i_t.mp h166)
            rw [hz]
            refine X_bipush (v := -9) (nx := 171) dX6_look_169 rfl rfl ?_
            exact Z_reti dX6_look_171 (Or.inl rfl) (g154.miss)
theorem lp_look97 {B : Bk} {K F : Nat → Nat} {L : List Nat} {w v n d j a dp : Nat} {q : Nd} {ms : List (Nat × Nat)} (hV : VB B) (hlk : LKP n d B K F L w v) (hd5 : 5 ≤ d) (hdp : n + (dp + 1) = 7) (hj : j < (nlG B 10).length) (hq : ng (nlG B 10) j = q) (ha : a ≤ L.length) (hms : ms.length ≤ q.1) (hq3 : q.1 < 3) {D : Mem} {st : Bool} {x : Int32} (hx : x = b2i st) (hK : K q.1 < 6) (hk : WK_ D B K F L w v) (hT : TR D ms) : X (d + 2) 138 j_X6_look 97 [some (.ref 79), some (.int (nI j)), some (.int (nI a)), some (.int (nI ms.length)), some (.int (nI dp)), some (.int (nI q.1)), some (.int (nI (K q.1))), none, none, none, none, none, none] [.int x] (138, P0, D) (fun x σ => ∃ (u : Int32) (D' : Mem), x = [.int u] ∧ σ = wd D' ∧ WR D D' ms u (lkS (lk B w v L K F n) B w v L st q a ms (ordS (oi (K q.1))))) := by
  subst hx
  refine X_istore (i := 7) (nx := 99) dX6_look_97 rfl (by decide) rfl (st_s (st_s (st_s (st_s (st_s (st_s (st_s (st_0)))))))) ?_
  refine X_iload (nx := 101) dX6_look_99 rfl rfl ?_
  refine Y_Sr1 (nx := 104) dX6_look_101 rfl ml_RX6_76 kj_X6_orderOf ks_X6_orderOf (sp_X6_orderOf rfl hK) (by first | decide | omega) (by exact Nat.le_of_ble_eq_true rfl) ?_
  refine X_astore (i := 8) (nx := 106) dX6_look_104 rfl (by decide) rfl (st_s (st_s (st_s (st_s (st_s (st_s (st_s (st_s (st_0))))))))) ?_
  refine X_iconst (v := nI 0) (nx := 107) dX6_look_106 rfl rfl ?_
  refine X_istore (i := 9) (nx := 109) dX6_look_107 rfl (by decide) rfl (st_s (st_s (st_s (st_s (st_s (st_s (st_s (st_s (st_s (st_0)))))))))) ?_
  exact lp_look hV hlk hd5 hdp hj hq ha hms hq3 (oi_lt _) _ 0 D (Nat.zero_add _) hk hT
theorem sp_look_s {B : Bk} {K F : Nat → Nat} {L : List Nat} {w v n d j a dp : Nat} {q : Nd} {ms : List (Nat × Nat)} (hV : VB B) (hlk : LKP n d B K F L w v) (hd5 : 5 ≤ d) (hdp : n + (dp + 1) = 7) (hj : j < (nlG B 10).length) (hq : ng (nlG B 10) j = q) (ha : a ≤ L.length) (hms : ms.length ≤ q.1) (hq3 : q.1 < 3) {D : Mem} (hk : WK_ D B K F L w v) (hT : TR D ms) : Rix (d + 2) j_X6_look [.ref 79, .int (nI j), .int (nI a), .int (nI ms.length), .int (nI dp)] D (fun u D' => WR D D' ms u (lk B w v L K F (n + 1) q a ms)) := by
  refine E.start 8 (ls := [some (.ref 79), some (.int (nI j)), some (.int (nI a)), some (.int (nI ms.length)), some (.int (nI dp)), none, none, none, none, none, none, none, none]) (by decide +kernel) (Nat.le_of_ble_eq_true rfl) rfl (Nat.le_refl _) (Nat.le_refl _) ?_
  have hn43 := hk.1.2.1.2.1
  obtain ⟨n1, n2⟩ := hk.1.2.2.1 j hj
  rw [hq] at n1
  obtain ⟨f1, f2, f3, f4⟩ := hk.2.1 q.1 hq3
  have hb := hk.2.2.1.1
  have hk1 : WK_ (up2 D 79 6 (D 79 6 + 1)) B K F L w v := hk.kept (fun x h1 _ _ => up2_other (by omega)) (Fr.up (Or.inl rfl))
  have hT1 := (WR.seen hT).2.2.2.1
  have hly : (lay 82).2 = 43 ∧ (lay 83).2 = 43 ∧ (lay 84).2 = 43 ∧ (lay 85).2 = 43 ∧ (lay 86).2 = 43 ∧ (lay 81).2 = 301 ∧ (lay 87).2 = 10 ∧ (lay 88).2 = 4 ∧ (lay 89).2 = 3 ∧ (lay 90).2 = 3 ∧ (lay 91).2 = 3 ∧ (lay 94).2 = 3 ∧ (lay 95).2 = 3 := by decide
  refine X_iload (nx := 2) dX6_look_0 rfl rfl ?_
  refine X_bipush (v := nI 6) (nx := 4) dX6_look_2 rfl rfl ?_
  refine X_icmp_le (tgt := 10) (nx := 7) dX6_look_4 rfl rfl (fun h4 => ?_) (fun h4 => ?_)
  · skip
    refine X_aload_n (nx := 11) dX6_look_10 rfl rfl rfl ?_
    refine X_dup (nx := 12) dX6_look_11 rfl rfl ?_
    refine M_getI (nx := 15) dX6_look_12 rfl fl_RX6_43 rfl (by first | assumption | rfl | decide | omega) (by first | assumption | rfl | decide | omega) ?_
    refine X_iconst (v := 1) (nx := 16) dX6_look_15 rfl rfl ?_
    refine X_iadd (nx := 17) dX6_look_16 rfl ?_
    refine M_putI (nx := 20) dX6_look_17 rfl fl_RX6_43 rfl rfl (by first | assumption | rfl | decide | omega) (by first | assumption | rfl | decide | omega) ?_
    refine X_aload_n (nx := 21) dX6_look_20 rfl rfl rfl ?_
    refine M_getP (nx := 24) dX6_look_21 rfl fl_RX6_12 rfl (by first | assumption | rfl | decide | omega) (by first | assumption | rfl | decide | omega) (by first | assumption | rfl | decide | omega) ?_
    refine M_getP (nx := 27) dX6_look_24 rfl fl_RX6_60 rfl (by first | assumption | rfl | decide | omega) (by first | assumption | rfl | decide | omega) (by first | assumption | rfl | decide | omega) ?_
    refine X_iload_n (nx := 28) dX6_look_27 rfl rfl rfl ?_
    refine Y_Si2 (nx := 31) dX6_look_28 rfl ml_RX6_63 kj_X7_numberAt ks_X7_numberAt (sp_X7_numberAt (i := j) (by decide) (by decide) rfl (by omega)) (by first | decide | omega) (by exact Nat.le_of_ble_eq_true rfl) ?_
    refine X_top ((up2_other (by omega)).trans n1) ?_
    refine X_istore (i := 5) (nx := 33) dX6_look_31 rfl (by decide) rfl (st_s (st_s (st_s (st_s (st_s (st_0)))))) ?_
    refine X_aload_n (nx := 34) dX6_look_33 rfl rfl rfl ?_
    refine M_getP (nx := 37) dX6_look_34 rfl fl_RX6_12 rfl (by first | assumption | rfl | decide | omega) (by first | assumption | rfl | decide | omega) (by first | assumption | rfl | decide | omega) ?_
    refine M_getP (nx := 40) dX6_look_37 rfl fl_RX6_67 rfl (by first | assumption | rfl | decide | omega) (by first | assumption | rfl | decide | omega) (by first | assumption | rfl | decide | omega) ?_
    refine X_iload (nx := 42) dX6_look_40 rfl rfl ?_
    refine Y_Si2 (nx := 45) dX6_look_42 rfl ml_RX6_63 kj_X7_numberAt ks_X7_numberAt (sp_X7_numberAt (i := q.1) (by decide) (by decide) rfl (by omega)) (by first | decide | omega) (by exact Nat.le_of_ble_eq_true rfl) ?_
    refine X_top ((up2_other (by omega)).trans f1) ?_
    refine X_istore (i := 6) (nx := 47) dX6_look_45 rfl (by decide) rfl (st_s (st_s (st_s (st_s (st_s (st_s (st_0))))))) ?_
    refine X_iload (nx := 49) dX6_look_47 rfl rfl ?_
    refine X_iconst (v := nI 5) (nx := 50) dX6_look_49 rfl rfl ?_
    refine X_icmp_ne (tgt := 80) (nx := 53) dX6_look_50 rfl rfl (fun h50 => ?_) (fun h50 => ?_)
    · skip
      rw [nI_eq (by omega) (by omega)] at h50
      refine X_iload (nx := 82) dX6_look_80 rfl rfl ?_
      refine X_iconst (v := nI 4) (nx := 83) dX6_look_82 rfl rfl ?_
      refine X_icmp_eq (tgt := 92) (nx := 86) dX6_look_83 rfl rfl (fun h83 => ?_) (fun h83 => ?_)
      · skip
        rw [nI_eq (by omega) (by omega)] at h83
        refine X_iconst (v := 1) (nx := 93) dX6_look_92 rfl rfl ?_
        refine X_goto (tgt := 97) dX6_look_93 rfl ?_
        have hz : lk B w v L K F (n + 1) q a ms = addc 1 (lkS (lk B w v L K F n) B w v L (decide (K q.1 = 4) || decide (K q.1 = 5)) q a ms (ordS (oi (K q.1)))) := if_neg (fun z => by first | exact h50 z.1 | exact absurd h74 (by omega))
        refine (lp_look97 hV hlk hd5 hdp hj hq ha hms hq3 (st := decide (K q.1 = 4) || decide (K q.1 = 5)) (by first | simp [b2i, h83, h89] | simp [b2i, h83]) (by omega) hk1 hT1).mono (fun vs σ h => ?_)
        obtain ⟨u, D2, e1, e2, e3⟩ := h
        exact ⟨u, D2, e1, e2, by rw [hz]; exact (WR.seen hT).then e3⟩
      · skip
        rw [nI_eq (by omega) (by omega)] at h83
        refine X_iload (nx := 88) dX6_look_86 rfl rfl ?_
        refine X_iconst (v := nI 5) (nx := 89) dX6_look_88 rfl rfl ?_
        refine X_icmp_ne (tgt := 96) (nx := 92) dX6_look_89 rfl rfl (fun h89 => ?_) (fun h89 => ?_)
        · skip
          rw [nI_eq (by omega) (by omega)] at h89
          refine X_iconst (v := 0) (nx := 97) dX6_look_96 rfl rfl ?_
          have hz : lk B w v L K F (n + 1) q a ms = addc 1 (lkS (lk B w v L K F n) B w v L (decide (K q.1 = 4) || decide (K q.1 = 5)) q a ms (ordS (oi (K q.1)))) := if_neg (fun z => by first | exact h50 z.1 | exact absurd h74 (by omega))
          refine (lp_look97 hV hlk hd5 hdp hj hq ha hms hq3 (st := decide (K q.1 = 4) || decide (K q.1 = 5)) (by first | simp [b2i, h83, h89] | simp [b2i, h83]) (by omega) hk1 hT1).mono (fun vs σ h => ?_)
          obtain ⟨u, D2, e1, e2, e3⟩ := h
          exact ⟨u, D2, e1, e2, by rw [hz]; exact (WR.seen hT).then e3⟩
        · skip
          rw [nI_eq (by omega) (by omega)] at h89
          refine X_iconst (v := 1) (nx := 93) dX6_look_92 rfl rfl ?_
          refine X_goto (tgt := 97) dX6_look_93 rfl ?_
          have hz : lk B w v L K F (n + 1) q a ms = addc 1 (lkS (lk B w v L K F n) B w v L (decide (K q.1 = 4) || decide (K q.1 = 5)) q a ms (ordS (oi (K q.1)))) := if_neg (fun z => by first | exact h50 z.1 | exact absurd h74 (by omega))
          refine (lp_look97 hV hlk hd5 hdp hj hq ha hms hq3 (st := decide (K q.1 = 4) || decide (K q.1 = 5)) (by first | simp [b2i, h83, h89] | simp [b2i, h83]) (by omega) hk1 hT1).mono (fun vs σ h => ?_)
          obtain ⟨u, D2, e1, e2, e3⟩ := h
          exact ⟨u, D2, e1, e2, by rw [hz]; exact (WR.seen hT).then e3⟩
    · skip
      rw [nI_eq (by omega) (by omega)] at h50
      refine X_aload_n (nx := 54) dX6_look_53 rfl rfl rfl ?_
      refine M_getP (nx := 57) dX6_look_54 rfl fl_RX6_21 rfl (by first | assumption | rfl | decide | omega) (by first | assumption | rfl | decide | omega) (by first | assumption | rfl | decide | omega) ?_
      refine M_getI (nx := 60) dX6_look_57 rfl fl_RX6_70 rfl (by first | assumption | rfl | decide | omega) (by first | assumption | rfl | decide | omega) ?_
      refine X_top ((up2_other (by omega)).trans hk.2.2.1.2.1) ?_
      refine X_iload_n (nx := 61) dX6_look_60 rfl rfl rfl ?_
      refine X_isub (nx := 62) dX6_look_61 rfl ?_
      refine X_top (sub_nI ha) ?_
      refine X_aload_n (nx := 63) dX6_look_62 rfl rfl rfl ?_
      refine M_getP (nx := 66) dX6_look_63 rfl fl_RX6_12 rfl (by first | assumption | rfl | decide | omega) (by first | assumption | rfl | decide | omega) (by first | assumption | rfl | decide | omega) ?_
      refine M_getP (nx := 69) dX6_look_66 rfl fl_RX6_73 rfl (by first | assumption | rfl | decide | omega) (by first | assumption | rfl | decide | omega) (by first | assumption | rfl | decide | omega) ?_
      refine X_iload (nx := 71) dX6_look_69 rfl rfl ?_
      refine Y_Si2 (nx := 74) dX6_look_71 rfl ml_RX6_63 kj_X7_numberAt ks_X7_numberAt (sp_X7_numberAt (i := q.1) (by decide) (by decide) rfl (by omega)) (by first | decide | omega) (by exact Nat.le_of_ble_eq_true rfl) ?_
      refine X_top ((up2_other (by omega)).trans f2) ?_
      refine X_icmp_le (tgt := 80) (nx := 77) dX6_look_74 rfl rfl (fun h74 => ?_) (fun h74 => ?_)
      · skip
        rw [nI_leI (by omega) (by omega)] at h74
        refine X_iload (nx := 82) dX6_look_80 rfl rfl ?_
        refine X_iconst (v := nI 4) (nx := 83) dX6_look_82 rfl rfl ?_
        refine X_icmp_eq (tgt := 92) (nx := 86) dX6_look_83 rfl rfl (fun h83 => ?_) (fun h83 => ?_)
        · skip
          rw [nI_eq (by omega) (by omega)] at h83
          refine X_iconst (v := 1) (nx := 93) dX6_look_92 rfl rfl ?_
          refine X_goto (tgt := 97) dX6_look_93 rfl ?_
          have hz : lk B w v L K F (n + 1) q a ms = addc 1 (lkS (lk B w v L K F n) B w v L (decide (K q.1 = 4) || decide (K q.1 = 5)) q a ms (ordS (oi (K q.1)))) := if_neg (fun z => by first | exact h50 z.1 | exact absurd h74 (by omega))
          refine (lp_look97 hV hlk hd5 hdp hj hq ha hms hq3 (st := decide (K q.1 = 4) || decide (K q.1 = 5)) (by first | simp [b2i, h83, h89] | simp [b2i, h83]) (by omega) hk1 hT1).mono (fun vs σ h => ?_)
          obtain ⟨u, D2, e1, e2, e3⟩ := h
          exact ⟨u, D2, e1, e2, by rw [hz]; exact (WR.seen hT).then e3⟩
        · skip
          rw [nI_eq (by omega) (by omega)] at h83
          refine X_iload (nx := 88) dX6_look_86 rfl rfl ?_
          refine X_iconst (v := nI 5) (nx := 89) dX6_look_88 rfl rfl ?_
          refine X_icmp_ne (tgt := 96) (nx := 92) dX6_look_89 rfl rfl (fun h89 => ?_) (fun h89 => ?_)
          · skip
            rw [nI_eq (by omega) (by omega)] at h89
            refine X_iconst (v := 0) (nx := 97) dX6_look_96 rfl rfl ?_
            have hz : lk B w v L K F (n + 1) q a ms = addc 1 (lkS (lk B w v L K F n) B w v L (decide (K q.1 = 4) || decide (K q.1 = 5)) q a ms (ordS (oi (K q.1)))) := if_neg (fun z => by first | exact h50 z.1 | exact absurd h74 (by omega))
            refine (lp_look97 hV hlk hd5 hdp hj hq ha hms hq3 (st := decide (K q.1 = 4) || decide (K q.1 = 5)) (by first | simp [b2i, h83, h89] | simp [b2i, h83]) (by omega) hk1 hT1).mono (fun vs σ h => ?_)
            obtain ⟨u, D2, e1, e2, e3⟩ := h
            exact ⟨u, D2, e1, e2, by rw [hz]; exact (WR.seen hT).then e3⟩
          · skip
            rw [nI_eq (by omega) (by omega)] at h89
            refine X_iconst (v := 1) (nx := 93) dX6_look_92 rfl rfl ?_
            refine X_goto (tgt := 97) dX6_look_93 rfl ?_
            have hz : lk B w v L K F (n + 1) q a ms = addc 1 (lkS (lk B w v L K F n) B w v L (decide (K q.1 = 4) || decide (K q.1 = 5)) q a ms (ordS (oi (K q.1)))) := if_neg (fun z => by first | exact h50 z.1 | exact absurd h74 (by omega))
            refine (lp_look97 hV hlk hd5 hdp hj hq ha hms hq3 (st := decide (K q.1 = 4) || decide (K q.1 = 5)) (by first | simp [b2i, h83, h89] | simp [b2i, h83]) (by omega) hk1 hT1).mono (fun vs σ h => ?_)
            obtain ⟨u, D2, e1, e2, e3⟩ := h
            exact ⟨u, D2, e1, e2, by rw [hz]; exact (WR.seen hT).then e3⟩
      · skip
        rw [nI_leI (by omega) (by omega)] at h74
        refine X_bipush (v := -9) (nx := 79) dX6_look_77 rfl rfl ?_
        exact Z_reti dX6_look_79 (Or.inl rfl) (by rw [show lk B w v L K F (n + 1) q a ms = (none, 1) from if_pos ⟨h50, by omega⟩]; exact WR.seen hT)
  · exact absurd h4 (fun q => q (nI_le (by omega) (by omega)))
theorem sp_look_0 {B : Bk} {K F : Nat → Nat} {L : List Nat} {w v j a : Nat} {q : Nd} {ms : List (Nat × Nat)} {D : Mem} (hT : TR D ms) : Rix 5 j_X6_look [.ref 79, .int (nI j), .int (nI a), .int (nI ms.length), .int (nI 7)] D (fun u D' => WR D D' ms u (lk B w v L K F 0 q a ms)) := by
  refine E.start 8 (ls := [some (.ref 79), some (.int (nI j)), some (.int (nI a)), some (.int (nI ms.length)), some (.int (nI 7)), none, none, none, none, none, none, none, none]) (by decide +kernel) (Nat.le_of_ble_eq_true rfl) rfl (Nat.le_refl _) (Nat.le_refl _) ?_
  refine X_iload (nx := 2) dX6_look_0 rfl rfl ?_
  refine X_bipush (v := nI 6) (nx := 4) dX6_look_2 rfl rfl ?_
  refine X_icmp_le (tgt := 10) (nx := 7) dX6_look_4 rfl rfl (fun h4 => ?_) (fun h4 => ?_)
  · exact absurd h4 (nI_ge (by omega) (by omega))
  · skip
    refine X_bipush (v := -9) (nx := 9) dX6_look_7 rfl rfl ?_
    exact Z_reti dX6_look_9 (Or.inl rfl) (WR.self hT)
theorem LK_0 {B : Bk} {K F : Nat → Nat} {L : List Nat} {w v : Nat} : LKP 0 5 B K F L w v := by
  intro D j a ms dp q h1 _ _ _ _ _ _ hT
  obtain rfl : dp = 7 := by omega
  exact sp_look_0 hT
theorem LK_s {n d : Nat} {B : Bk} {K F : Nat → Nat} {L : List Nat} {w v : Nat} (hV : VB B) (hd : 5 ≤ d) (h : LKP n d B K F L w v) : LKP (n + 1) (d + 2) B K F L w v := fun D j a ms dp q h1 hk hj hq ha hms hq3 hT => sp_look_s hV h hd (by omega) hj hq ha hms hq3 hk hT
theorem LK_7 {B : Bk} {K F : Nat → Nat} {L : List Nat} {w v : Nat} (hV : VB B) : LKP 7 19 B K F L w v :=
  LK_s hV (by omega) (LK_s hV (by omega) (LK_s hV (by omega) (LK_s hV (by omega) (LK_s hV (by omega) (LK_s hV (by omega) (LK_s hV (by omega) LK_0))))))
end
section
/-! THE STATE of both sides, and what the class's cells hold of it -/
/-- book, kept book, whether an image is there, told signs, row, refusals -/
abbrev St := Bk × Bk × Bool × List Nat × List Nat × (Nat → Int32)
def bk (S : St) : Bk := S.1
def kp (S : St) : Bk := S.2.1
def im (S : St) : Bool := S.2.2.1
def tl (S : St) : List Nat := S.2.2.2.1
def rw_ (S : St) : List Nat := S.2.2.2.2.1
def rf (S : St) : Nat → Int32 := S.2.2.2.2.2
def inC (b : Nat) : Prop := b < 104
def inS (b : Nat) : Prop := b = 79 ∨ (92 ≤ b ∧ b ≤ 95) ∨ (100 ≤ b ∧ b ≤ 102)
def IVb (D : Mem) (S : St) : Prop := Enc D 1 (bk S) ∧ VB (bk S) ∧ (im S = true → Enc D 53 (kp S) ∧ VB (kp S)) ∧ ZB D 1 ∧ ZB D 27 ∧ ZB D 53
def IVs (D : Mem) (S : St) : Prop := D 0 9 = b2i (im S) ∧ PIL D 96 (tl S) ∧ PIL D 98 (rw_ S) ∧ (∀ i, 1 ≤ i → i < 7 → D 103 i = rf S i) ∧ (∀ x ∈ tl S, x < 256) ∧ (∀ x ∈ rw_ S, x < 100)
def IVt (D : Mem) (B : Bk) (K F : Nat → Nat) : Prop := TE D B (nlG B 10) (PSf B) (ENf B) (RSf B) (MNf B) (SVf B) (fun r => thN B r && mtB B r) ∧ (∀ i, i < 3 → D 89 i = nI (K i) ∧ D 90 i = nI (F i) ∧ K i ≤ 5 ∧ F i ≤ 9) ∧ (∀ x, x < 3 → D 91 x = opI (wy B 2 x)) ∧ D 95 0 = 0
def INVK (D : Mem) (S : St) (K F : Nat → Nat) : Prop := IVb D S ∧ IVs D S ∧ IVt D (bk S) K F
abbrev INV1 (D : Mem) (S : St) : Prop := INVK D S (kd_ (bk S)) (fg_ (bk S))
theorem IVb.fr {D D' : Mem} {S : St} (h : IVb D S) (hf : ∀ b, 1 ≤ b → b ≤ 78 → D' b = D b) : IVb D' S := by
  obtain ⟨h1, h2, h3, h4, h5, h6⟩ := h
  have hr : ∀ i, i < 10 → ∀ b, b = 1 ∨ b = 27 ∨ b = 53 → D' (rt b i) = D (rt b i) := fun i hi b hb => hf _ (by unfold rt; omega) (by unfold rt; omega)
  exact ⟨h1.fr (fun x hx => hf x (by unfold inB at hx; omega) (by unfold inB at hx; omega)), h2, fun q => ⟨(h3 q).1.fr (fun x hx => hf x (by unfold inB at hx; omega) (by unfold inB at hx; omega)), (h3 q).2⟩, fun i hi => by rw [hr i hi 1 (by omega)]; exact h4 i hi, fun i hi => by rw [hr i hi 27 (by omega)]; exact h5 i hi, fun i hi => by rw [hr i hi 53 (by omega)]; exact h6 i hi⟩
theorem IVs.fr {D D' : Mem} {S : St} (h : IVs D S) (h0 : D' 0 = D 0) (hf : ∀ b, 96 ≤ b → b ≤ 99 → D' b = D b) (h3 : D' 103 = D 103) : IVs D' S := by
  obtain ⟨g1, g2, g3, g4, g5, g6⟩ := h
  exact ⟨by rw [h0]; exact g1, g2.fr (hf 96 (by omega) (by omega)) (hf 97 (by omega) (by omega)), g3.fr (hf 98 (by omega) (by omega)) (hf 99 (by omega) (by omega)), by rw [h3]; exact g4, g5, g6⟩
theorem IVt.fr {D D' : Mem} {B : Bk} {K F : Nat → Nat} (h : IVt D B K F) (hf : ∀ b, 80 ≤ b → b ≤ 91 → D' b = D b) (h0 : D' 95 0 = D 95 0) : IVt D' B K F := by
  obtain ⟨g1, g2, g3, g4⟩ := h
  exact ⟨g1.fr (fun b q1 q2 => hf b (by omega) (by omega)) (by rw [hf 80 (by omega) (by omega)]), by rw [hf 89 (by omega) (by omega), hf 90 (by omega) (by omega)]; exact g2, by rw [hf 91 (by omega) (by omega)]; exact g3, h0.trans g4⟩
theorem INVK.fr {D D' : Mem} {S : St} {K F : Nat → Nat} (h : INVK D S K F) (hf : Fr inS D D') (h0 : D' 95 0 = D 95 0) : INVK D' S K F :=
  ⟨h.1.fr (fun b _ _ => hf b (by unfold inS; omega)), h.2.1.fr (hf 0 (by unfold inS; omega)) (fun b _ _ => hf b (by unfold inS; omega)) (hf 103 (by unfold inS; omega)), h.2.2.fr (fun b _ _ => hf b (by unfold inS; omega)) h0⟩
theorem Fr.sc {D D' : Mem} (h : Fr inS D D') : Fr inC D D' := h.mono (fun b hb => by unfold inS at hb; unfold inC; omega)
/-- what a path and a verb bring, and how many nodes were looked at -/
def mt (B : Bk) (w v p : Nat) (K F : Nat → Nat) : LR := lk B w v (pathL p) K F 7 (0, []) 0 []
def mtE (B : Bk) (w v p : Nat) (K F : Nat → Nat) : Option Nat := (mt B w v p K F).1.map (fun z => z.1)
def cn (P : Nat → Bool) (n : Nat) : Nat := sumN (fun p => if P p = true then 1 else 0) n
theorem cn_s (P : Nat → Bool) (n : Nat) : cn P (n + 1) = cn P n + (if P n = true then 1 else 0) := rfl
def BRG (D : Mem) (S : St) (K F : Nat → Nat) (w v p : Nat) (u : Int32) (D' : Mem) : Prop :=
  INVK D' S K F ∧ Fr inS D D' ∧ (∀ x, 9 ≤ x → D' 79 x = D 79 x) ∧ u = opI (mtE (bk S) w v p K F) ∧ D' 79 6 = nI (mt (bk S) w v p K F).2 ∧ (∀ e ml t, (mt (bk S) w v p K F).1 = some (e, ml, t) → D' 79 7 = nI ml.length ∧ D' 79 8 = nI t ∧ TR D' ml ∧ ml.length ≤ 2 ∧ e < 10) ∧ LET D' 92 (pathL p)
theorem BRG.lt {D D' : Mem} {S : St} {K F : Nat → Nat} {w v p : Nat} {u : Int32} (h : BRG D S K F w v p u D') {e : Nat} (he : mtE (bk S) w v p K F = some e) : e < 10 := by
  unfold mtE at he
  cases hm : (mt (bk S) w v p K F).1 with
  | none => rw [hm] at he; cases he
  | some z =>
    obtain ⟨e2, ml, t⟩ := z
    rw [hm] at he
    cases he
    exact (h.2.2.2.2.2.1 _ _ _ hm).2.2.2.2
theorem brg_wk {S : St} {K F : Nat → Nat} {w v p : Nat} {D D5 : Mem} (h : INVK D S K F) (hv : v < 4) (hw : w < 1024) (h1 : LET D5 92 (pathL p)) (h2 : Fr (fun b => b = 92 ∨ b = 93) D D5) : WK_ (up2 (up2 (up2 D5 79 4 (nI v)) 79 5 (nI w)) 79 6 0) (bk S) K F (pathL p) w v := by
  have hf : Fr (fun b => b = 79 ∨ b = 92 ∨ b = 93) D (up2 (up2 (up2 D5 79 4 (nI v)) 79 5 (nI w)) 79 6 0) := (h2.mono (fun b hb => Or.inr hb)).tr (((Fr.up (Or.inl rfl)).tr (Fr.up (Or.inl rfl))).tr (Fr.up (Or.inl rfl)))
  have h0 := h.2.2.fr (D' := up2 (up2 (up2 D5 79 4 (nI v)) 79 5 (nI w)) 79 6 0) (fun b _ _ => hf b (by omega)) (by rw [hf 95 (by omega)])
  refine ⟨h0.1, h0.2.1, h1.fr ?_ ?_, ?_, hw, ?_, hv⟩
  · rw [up2_ne (by omega), up2_ne (by omega), up2_ne (by omega)]
  · rw [up2_ne (by omega), up2_ne (by omega), up2_ne (by omega)]
  · rw [up2_other (by omega)]; exact up2_same
  · rw [up2_other (by omega), up2_other (by omega)]; exact up2_same
theorem brg_of {S : St} {K F : Nat → Nat} {w v p : Nat} {D D5 D' : Mem} {u : Int32} (h : INVK D S K F) (h1 : LET D5 92 (pathL p)) (h2 : Fr (fun b => b = 92 ∨ b = 93) D D5) (g : WR (up2 (up2 (up2 D5 79 4 (nI v)) 79 5 (nI w)) 79 6 0) D' [] u (lk (bk S) w v (pathL p) K F 7 (0, []) 0 [])) : BRG D S K F w v p u D' := by
  obtain ⟨a1, a2, a3, a4, a5, a6, a7⟩ := g
  have hf : Fr (fun b => b = 79 ∨ b = 92 ∨ b = 93) D (up2 (up2 (up2 D5 79 4 (nI v)) 79 5 (nI w)) 79 6 0) := (h2.mono (fun b hb => Or.inr hb)).tr (((Fr.up (Or.inl rfl)).tr (Fr.up (Or.inl rfl))).tr (Fr.up (Or.inl rfl)))
  have hF : Fr inS D D' := (hf.mono (fun b hb => by unfold inS; omega)).tr (a7.mono (fun b hb => by unfold inW at hb; unfold inS; omega))
  refine ⟨h.fr hF (a5.trans (by rw [hf 95 (by omega)])), hF, fun x hx => ?_, a1, ?_, a3, h1.fr ?_ ?_⟩
  · rw [a6 x (by omega) (by omega) (by omega), up2_other (by omega), up2_other (by omega), up2_other (by omega), h2 79 (by omega)]
  · rw [a2, up2_same]; exact Int32.zero_add _
  · rw [a7 92 (by unfold inW; omega), up2_ne (by omega), up2_ne (by omega), up2_ne (by omega)]
  · rw [a7 93 (by unfold inW; omega), up2_ne (by omega), up2_ne (by omega), up2_ne (by omega)]
theorem dX6_bring_0 : decode cX6_bring 0 = .ok (.aload_n 0, 1) := by decide +kernel
theorem dX6_bring_1 : decode cX6_bring 1 = .ok (.getfield 21, 3) := by decide +kernel
theorem dX6_bring_4 : decode cX6_bring 4 = .ok (.iload_n 1, 1) := by decide +kernel
theorem dX6_bring_5 : decode cX6_bring 5 = .ok (.invokevirtual 32, 3) := by decide +kernel
theorem dX6_bring_8 : decode cX6_bring 8 = .ok (.aload_n 0, 1) := by decide +kernel
theorem dX6_bring_9 : decode cX6_bring 9 = .ok (.iload_n 2, 1) := by decide +kernel
theorem dX6_bring_10 : decode cX6_bring 10 = .ok (.putfield 36, 3) := by decide +kernel
theorem dX6_bring_13 : decode cX6_bring 13 = .ok (.aload_n 0, 1) := by decide +kernel
theorem dX6_bring_14 : decode cX6_bring 14 = .ok (.iload_n 3, 1) := by decide +kernel
theorem dX6_bring_15 : decode cX6_bring 15 = .ok (.putfield 40, 3) := by decide +kernel
theorem dX6_bring_18 : decode cX6_bring 18 = .ok (.aload_n 0, 1) := by decide +kernel
theorem dX6_bring_19 : decode cX6_bring 19 = .ok (.iconst 0, 1) := by decide +kernel
theorem dX6_bring_20 : decode cX6_bring 20 = .ok (.putfield 43, 3) := by decide +kernel
theorem dX6_bring_23 : decode cX6_bring 23 = .ok (.aload_n 0, 1) := by decide +kernel
theorem dX6_bring_24 : decode cX6_bring 24 = .ok (.iconst 0, 1) := by decide +kernel
theorem dX6_bring_25 : decode cX6_bring 25 = .ok (.iconst 0, 1) := by decide +kernel
theorem dX6_bring_26 : decode cX6_bring 26 = .ok (.iconst 0, 1) := by decide +kernel
theorem dX6_bring_27 : decode cX6_bring 27 = .ok (.iconst 0, 1) := by decide +kernel
theorem dX6_bring_28 : decode cX6_bring 28 = .ok (.invokevirtual 46, 3) := by decide +kernel
theorem dX6_bring_31 : decode cX6_bring 31 = .ok (.ireturn, 1) := by decide +kernel
theorem sp_X6_bring {S : St} {K F : Nat → Nat} {w v p : Nat} {x y z : Int32} {D : Mem} (h : INVK D S K F) (hx : x = nI p) (hp : p < 341) (hy : y = nI v) (hv : v < 4) (hz : z = nI w) (hw : w < 1024) : Rix 20 j_X6_bring [.ref 79, .int x, .int y, .int z] D (fun u D' => BRG D S K F w v p u D') := by
  refine E.start 0 (ls := [some (.ref 79), some (.int x), some (.int y), some (.int z)]) (by decide +kernel) (Nat.le_of_ble_eq_true rfl) rfl (Nat.le_refl _) (Nat.le_refl _) ?_
  subst hx; subst hy; subst hz
  refine X_aload_n (nx := 1) dX6_bring_0 rfl rfl rfl ?_
  refine M_getP (nx := 4) dX6_bring_1 rfl fl_RX6_21 rfl (by first | assumption | rfl | decide | omega) (by first | assumption | rfl | decide | omega) (by first | assumption | rfl | decide | omega) ?_
  refine X_iload_n (nx := 5) dX6_bring_4 rfl rfl rfl ?_
  refine Z_Vv1 (nx := 8) dX6_bring_5 rfl ml_RX6_32 kj_X1_read kv_X1_read (sp_X1_read (Or.inl rfl) rfl hp) (by first | assumption | rfl | decide | omega) (by first | assumption | rfl | decide | omega) (by decide) rfl (by first | decide | omega) (by exact Nat.le_of_ble_eq_true rfl) (fun D5 g5 => ?_)
  have hk := brg_wk h hv hw g5.1 g5.2
  refine X_aload_n (nx := 9) dX6_bring_8 rfl rfl rfl ?_
  refine X_iload_n (nx := 10) dX6_bring_9 rfl rfl rfl ?_
  refine M_putI (nx := 13) dX6_bring_10 rfl fl_RX6_36 rfl rfl (by first | assumption | rfl | decide | omega) (by first | assumption | rfl | decide | omega) ?_
  refine X_aload_n (nx := 14) dX6_bring_13 rfl rfl rfl ?_
  refine X_iload_n (nx := 15) dX6_bring_14 rfl rfl rfl ?_
  refine M_putI (nx := 18) dX6_bring_15 rfl fl_RX6_40 rfl rfl (by first | assumption | rfl | decide | omega) (by first | assumption | rfl | decide | omega) ?_
  refine X_aload_n (nx := 19) dX6_bring_18 rfl rfl rfl ?_
  refine X_iconst (v := 0) (nx := 20) dX6_bring_19 rfl rfl ?_
  refine M_putI (nx := 23) dX6_bring_20 rfl fl_RX6_43 rfl rfl (by first | assumption | rfl | decide | omega) (by first | assumption | rfl | decide | omega) ?_
  refine X_aload_n (nx := 24) dX6_bring_23 rfl rfl rfl ?_
  refine X_iconst (v := nI 0) (nx := 25) dX6_bring_24 rfl rfl ?_
  refine X_iconst (v := nI 0) (nx := 26) dX6_bring_25 rfl rfl ?_
  refine X_iconst (v := nI 0) (nx := 27) dX6_bring_26 rfl rfl ?_
  refine X_iconst (v := nI 0) (nx := 28) dX6_bring_27 rfl rfl ?_
  refine Z_Vi4 (nx := 31) dX6_bring_28 rfl ml_RX6_46 kj_X6_look kv_X6_look (LK_7 h.1.2.1 _ 0 0 [] 0 (0, []) rfl hk (by have := hk.1.2.1.1; omega) (hk.1.2.1.2.2.1 0 (by omega)) (Nat.zero_le _) (Nat.zero_le _) (by decide) (fun i hi => absurd hi (Nat.not_lt_zero _))) (by first | assumption | rfl | decide | omega) (by first | assumption | rfl | decide | omega) (by decide) rfl (by first | decide | omega) (by exact Nat.le_of_ble_eq_true rfl) (fun u28 D28 g28 => ?_)
  exact Z_reti dX6_bring_31 (Or.inl rfl) (brg_of h g5.1 g5.2 g28)
def BRA (D : Mem) (S : St) (K F : Nat → Nat) (w v n : Nat) (D' : Mem) : Prop := INVK D' S K F ∧ Fr inS D D' ∧ D' 79 9 = nI (cn (fun p => (mtE (bk S) w v p K F).isSome) n) ∧ D' 79 10 = nI (sumN (fun p => (mt (bk S) w v p K F).2) n)
theorem inS_79 : inS 79 := Or.inl rfl
theorem INVK.up {D : Mem} {S : St} {K F : Nat → Nat} {i : Nat} {x : Int32} (h : INVK D S K F) : INVK (up2 D 79 i x) S K F := h.fr (Fr.up inS_79) (up2_other (by omega))
theorem bra_s {S : St} {K F : Nat → Nat} {w v n : Nat} {D D1 D2 : Mem} {u x y : Int32} (h : BRA D S K F w v n D1) (g : BRG D1 S K F w v n u D2) (hx : x = D2 79 9 + (if 0 ≤ u then 1 else 0)) (hy : y = D2 79 10 + D2 79 6) : BRA D S K F w v (n + 1) (up2 (up2 D2 79 9 x) 79 10 y) := by
  obtain ⟨a1, a2, a3, a4⟩ := h
  obtain ⟨b1, b2, b3, b4, b5, b6, b7⟩ := g
  subst hx; subst hy
  refine ⟨b1.up.up, ((a2.tr b2).tr (Fr.up inS_79)).tr (Fr.up inS_79), ?_, ?_⟩
  · rw [up2_other (by omega), up2_same, b3 9 (by omega), a3, cn_s]
    cases hm : mtE (bk S) w v n K F with
    | none =>
      rw [b4, hm, if_neg (by decide), if_neg (by decide)]
      exact Int32.add_zero _
    | some k =>
      have := BRG.lt ⟨b1, b2, b3, b4, b5, b6, b7⟩ hm
      have h0 : (0 : Int32) ≤ opI (some k) := show nI 0 ≤ nI k from nI_le (Nat.zero_le k) (by omega)
      rw [b4, hm, if_pos h0, if_pos (show (some k).isSome = true from rfl)]
      exact nI_1 _
  · rw [up2_same, b3 10 (by omega), a4, b5]
    exact nI_add _ _
theorem up2_comm {D : Mem} {i k : Nat} {x y : Int32} (h : i ≠ k) : up2 (up2 D 79 i x) 79 k y = up2 (up2 D 79 k y) 79 i x := by
  funext a b
  by_cases h1 : a = 79 ∧ b = k
  · obtain ⟨rfl, rfl⟩ := h1
    rw [up2_same, up2_other (by omega), up2_same]
  · rw [up2_other h1]
    by_cases h2 : a = 79 ∧ b = i
    · obtain ⟨rfl, rfl⟩ := h2
      rw [up2_same, up2_same]
    · rw [up2_other h2, up2_other h2, up2_other h1]
theorem up2_id {D : Mem} {a i : Nat} {x : Int32} (h : D a i = x) : up2 D a i x = D := by
  subst h
  funext b k
  by_cases h1 : b = a ∧ k = i
  · obtain ⟨rfl, rfl⟩ := h1
    exact up2_same
  · exact up2_other h1
theorem dX6_bringAll_0 : decode cX6_bringAll 0 = .ok (.aload_n 0, 1) := by decide +kernel
theorem dX6_bringAll_1 : decode cX6_bringAll 1 = .ok (.iconst 0, 1) := by decide +kernel
theorem dX6_bringAll_2 : decode cX6_bringAll 2 = .ok (.putfield 50, 3) := by decide +kernel
theorem dX6_bringAll_5 : decode cX6_bringAll 5 = .ok (.aload_n 0, 1) := by decide +kernel
theorem dX6_bringAll_6 : decode cX6_bringAll 6 = .ok (.iconst 0, 1) := by decide +kernel
theorem dX6_bringAll_7 : decode cX6_bringAll 7 = .ok (.putfield 53, 3) := by decide +kernel
theorem dX6_bringAll_10 : decode cX6_bringAll 10 = .ok (.iconst 0, 1) := by decide +kernel
theorem dX6_bringAll_11 : decode cX6_bringAll 11 = .ok (.istore_n 3, 1) := by decide +kernel
theorem dX6_bringAll_12 : decode cX6_bringAll 12 = .ok (.iload_n 3, 1) := by decide +kernel
theorem dX6_bringAll_13 : decode cX6_bringAll 13 = .ok (.sipush 341, 3) := by decide +kernel
theorem dX6_bringAll_16 : decode cX6_bringAll 16 = .ok (.if_icmp .ge 42, 3) := by decide +kernel
theorem dX6_bringAll_19 : decode cX6_bringAll 19 = .ok (.aload_n 0, 1) := by decide +kernel
theorem dX6_bringAll_20 : decode cX6_bringAll 20 = .ok (.iload_n 3, 1) := by decide +kernel
theorem dX6_bringAll_21 : decode cX6_bringAll 21 = .ok (.iload_n 1, 1) := by decide +kernel
theorem dX6_bringAll_22 : decode cX6_bringAll 22 = .ok (.iload_n 2, 1) := by decide +kernel
theorem dX6_bringAll_23 : decode cX6_bringAll 23 = .ok (.invokevirtual 56, 3) := by decide +kernel
theorem dX6_bringAll_26 : decode cX6_bringAll 26 = .ok (.ifCond .lt 13, 3) := by decide +kernel
theorem dX6_bringAll_29 : decode cX6_bringAll 29 = .ok (.aload_n 0, 1) := by decide +kernel
theorem dX6_bringAll_30 : decode cX6_bringAll 30 = .ok (.dup, 1) := by decide +kernel
theorem dX6_bringAll_31 : decode cX6_bringAll 31 = .ok (.getfield 50, 3) := by decide +kernel
theorem dX6_bringAll_34 : decode cX6_bringAll 34 = .ok (.iconst 1, 1) := by decide +kernel
theorem dX6_bringAll_35 : decode cX6_bringAll 35 = .ok (.iadd, 1) := by decide +kernel
theorem dX6_bringAll_36 : decode cX6_bringAll 36 = .ok (.putfield 50, 3) := by decide +kernel
theorem dX6_bringAll_39 : decode cX6_bringAll 39 = .ok (.aload_n 0, 1) := by decide +kernel
theorem dX6_bringAll_40 : decode cX6_bringAll 40 = .ok (.dup, 1) := by decide +kernel
theorem dX6_bringAll_41 : decode cX6_bringAll 41 = .ok (.getfield 53, 3) := by decide +kernel
theorem dX6_bringAll_44 : decode cX6_bringAll 44 = .ok (.aload_n 0, 1) := by decide +kernel
theorem dX6_bringAll_45 : decode cX6_bringAll 45 = .ok (.getfield 43, 3) := by decide +kernel
theorem dX6_bringAll_48 : decode cX6_bringAll 48 = .ok (.iadd, 1) := by decide +kernel
theorem dX6_bringAll_49 : decode cX6_bringAll 49 = .ok (.putfield 53, 3) := by decide +kernel
theorem dX6_bringAll_52 : decode cX6_bringAll 52 = .ok (.iinc 3 1, 3) := by decide +kernel
theorem dX6_bringAll_55 : decode cX6_bringAll 55 = .ok (.goto (-43), 3) := by decide +kernel
theorem dX6_bringAll_58 : decode cX6_bringAll 58 = .ok (.return_, 1) := by decide +kernel
theorem lp_bringAll {S : St} {K F : Nat → Nat} {w v : Nat} {D : Mem} (hv : v < 4) (hw : w < 1024) : ∀ (m : Nat) (i : Nat) (D1 : Mem), i + m = 341 → BRA D S K F w v i D1 → X 21 138 j_X6_bringAll 12 [some (.ref 79), some (.int (nI v)), some (.int (nI w)), some (.int (nI i))] [] (138, P0, D1) (fun x σ => ∃ (D' : Mem), x = [] ∧ σ = wd D' ∧ BRA D S K F w v 341 D') := by
  intro m
  induction m with
  | zero =>
    intro i D1 hi h
    refine X_iload_n (nx := 13) dX6_bringAll_12 rfl rfl rfl ?_
    refine X_sipush (v := nI 341) (nx := 16) dX6_bringAll_13 rfl rfl ?_
    refine X_icmp_ge (tgt := 58) (nx := 19) dX6_bringAll_16 rfl rfl (fun h16 => ?_) (fun h16 => ?_)
    · skip
      exact Z_retv dX6_bringAll_58 rfl (by have e : i = 341 := (by omega); exact e ▸ h)
    · exact absurd h16 (fun q => q (nI_le (by omega) (by omega)))
  | succ m ih =>
    intro i D1 hi h
    refine X_iload_n (nx := 13) dX6_bringAll_12 rfl rfl rfl ?_
    refine X_sipush (v := nI 341) (nx := 16) dX6_bringAll_13 rfl rfl ?_
    refine X_icmp_ge (tgt := 58) (nx := 19) dX6_bringAll_16 rfl rfl (fun h16 => ?_) (fun h16 => ?_)
    · exact absurd h16 (nI_ge (by omega) (by omega))
    · skip
      refine X_aload_n (nx := 20) dX6_bringAll_19 rfl rfl rfl ?_
      refine X_iload_n (nx := 21) dX6_bringAll_20 rfl rfl rfl ?_
      refine X_iload_n (nx := 22) dX6_bringAll_21 rfl rfl rfl ?_
      refine X_iload_n (nx := 23) dX6_bringAll_22 rfl rfl rfl ?_
      refine Z_Vi3 (nx := 26) dX6_bringAll_23 rfl ml_RX6_56 kj_X6_bring kv_X6_bring (sp_X6_bring h.1 rfl (by omega) rfl hv rfl hw) (by first | assumption | rfl | decide | omega) (by first | assumption | rfl | decide | omega) (by decide) rfl (by first | decide | omega) (by exact Nat.le_of_ble_eq_true rfl) (fun u23 D23 g23 => ?_)
      refine X_if_lt (tgt := 39) (nx := 29) dX6_bringAll_26 rfl rfl (fun h26 => ?_) (fun h26 => ?_)
      · skip
        refine X_aload_n (nx := 40) dX6_bringAll_39 rfl rfl rfl ?_
        refine X_dup (nx := 41) dX6_bringAll_40 rfl rfl ?_
        refine M_getI (nx := 44) dX6_bringAll_41 rfl fl_RX6_53 rfl (by first | assumption | rfl | decide | omega) (by first | assumption | rfl | decide | omega) ?_
        refine X_aload_n (nx := 45) dX6_bringAll_44 rfl rfl rfl ?_
        refine M_getI (nx := 48) dX6_bringAll_45 rfl fl_RX6_43 rfl (by first | assumption | rfl | decide | omega) (by first | assumption | rfl | decide | omega) ?_
        refine X_iadd (nx := 49) dX6_bringAll_48 rfl ?_
        refine M_putI (nx := 52) dX6_bringAll_49 rfl fl_RX6_53 rfl rfl (by first | assumption | rfl | decide | omega) (by first | assumption | rfl | decide | omega) ?_
        refine X_iinc (nx := 55) dX6_bringAll_52 rfl (by decide) rfl (by first | exact ii1 _ | rfl) rfl (st_s (st_s (st_s (st_0)))) ?_
        refine X_goto (tgt := 12) dX6_bringAll_55 rfl ?_
        first
          | exact ih (i + 1) _ (by omega) (bra_s h g23 (by first | (rw [if_pos (Int32.not_lt.mp h26)]; done) | (rw [if_pos (Int32.not_lt.mp h26)]; rfl)) (by rw [up2_other (by omega), up2_other (by omega)]))
          | (rw [← up2_id (D := D23) (a := 79) (i := 9) rfl]
             exact ih (i + 1) _ (by omega) (bra_s h g23 (by rw [if_neg (Int32.not_le.mpr h26)]; exact (Int32.add_zero _).symm) (by rw [up2_other (by omega), up2_other (by omega)])))
      · skip
        refine X_aload_n (nx := 30) dX6_bringAll_29 rfl rfl rfl ?_
        refine X_dup (nx := 31) dX6_bringAll_30 rfl rfl ?_
        refine M_getI (nx := 34) dX6_bringAll_31 rfl fl_RX6_50 rfl (by first | assumption | rfl | decide | omega) (by first | assumption | rfl | decide | omega) ?_
        refine X_iconst (v := 1) (nx := 35) dX6_bringAll_34 rfl rfl ?_
        refine X_iadd (nx := 36) dX6_bringAll_35 rfl ?_
        refine M_putI (nx := 39) dX6_bringAll_36 rfl fl_RX6_50 rfl rfl (by first | assumption | rfl | decide | omega) (by first | assumption | rfl | decide | omega) ?_
        refine X_aload_n (nx := 40) dX6_bringAll_39 rfl rfl rfl ?_
        refine X_dup (nx := 41) dX6_bringAll_40 rfl rfl ?_
        refine M_getI (nx := 44) dX6_bringAll_41 rfl fl_RX6_53 rfl (by first | assumption | rfl | decide | omega) (by first | assumption | rfl | decide | omega) ?_
        refine X_aload_n (nx := 45) dX6_bringAll_44 rfl rfl rfl ?_
        refine M_getI (nx := 48) dX6_bringAll_45 rfl fl_RX6_43 rfl (by first | assumption | rfl | decide | omega) (by first | assumption | rfl | decide | omega) ?_
        refine X_iadd (nx := 49) dX6_bringAll_48 rfl ?_
        refine M_putI (nx := 52) dX6_bringAll_49 rfl fl_RX6_53 rfl rfl (by first | assumption | rfl | decide | omega) (by first | assumption | rfl | decide | omega) ?_
        refine X_iinc (nx := 55) dX6_bringAll_52 rfl (by decide) rfl (by first | exact ii1 _ | rfl) rfl (st_s (st_s (st_s (st_0)))) ?_
        refine X_goto (tgt := 12) dX6_bringAll_55 rfl ?_
        first
          | exact ih (i + 1) _ (by omega) (bra_s h g23 (by first | (rw [if_pos (Int32.not_lt.mp h26)]; done) | (rw [if_pos (Int32.not_lt.mp h26)]; rfl)) (by rw [up2_other (by omega), up2_other (by omega)]))
          | (rw [← up2_id (D := D23) (a := 79) (i := 9) rfl]
             exact ih (i + 1) _ (by omega) (bra_s h g23 (by rw [if_neg (Int32.not_le.mpr h26)]; exact (Int32.add_zero _).symm) (by rw [up2_other (by omega), up2_other (by omega)])))
theorem sp_X6_bringAll {S : St} {K F : Nat → Nat} {w v : Nat} {y z : Int32} {D : Mem} (h : INVK D S K F) (hy : y = nI v) (hv : v < 4) (hz : z = nI w) (hw : w < 1024) : Rvx 21 j_X6_bringAll [.ref 79, .int y, .int z] D (fun D' => BRA D S K F w v 341 D') := by
  refine E.start 1 (ls := [some (.ref 79), some (.int y), some (.int z), none]) (by decide +kernel) (Nat.le_of_ble_eq_true rfl) rfl (Nat.le_refl _) (Nat.le_refl _) ?_
  subst hy; subst hz
  refine X_aload_n (nx := 1) dX6_bringAll_0 rfl rfl rfl ?_
  refine X_iconst (v := 0) (nx := 2) dX6_bringAll_1 rfl rfl ?_
  refine M_putI (nx := 5) dX6_bringAll_2 rfl fl_RX6_50 rfl rfl (by first | assumption | rfl | decide | omega) (by first | assumption | rfl | decide | omega) ?_
  refine X_aload_n (nx := 6) dX6_bringAll_5 rfl rfl rfl ?_
  refine X_iconst (v := 0) (nx := 7) dX6_bringAll_6 rfl rfl ?_
  refine M_putI (nx := 10) dX6_bringAll_7 rfl fl_RX6_53 rfl rfl (by first | assumption | rfl | decide | omega) (by first | assumption | rfl | decide | omega) ?_
  refine X_iconst (v := nI 0) (nx := 11) dX6_bringAll_10 rfl rfl ?_
  refine X_istore_n (i := 3) (nx := 12) dX6_bringAll_11 rfl rfl (by decide) rfl (st_s (st_s (st_s (st_0)))) ?_
  exact lp_bringAll hv hw 341 0 _ rfl ⟨h.up.up, (Fr.up inS_79).tr (Fr.up inS_79), by rw [up2_other (by omega), up2_same]; rfl, by rw [up2_same]; rfl⟩
end
